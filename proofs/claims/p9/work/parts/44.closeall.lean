/-! the calls' group: all of it, for every depth -/
def KG (l : Launch) (D : va_G) (ks : KS) (d1 d2 : Nat) : Prop := K_s_calls l D ks d1 d2 ∧ (∀ d3, K_s_arounds l D ks d1 d2 d3) ∧ K_s_failings l D ks d1 d2 ∧ K_s_getsWhole l D ks d1 d2 ∧ K_s_joinsAll l D ks d1 d2 ∧ K_s_closes l D ks d1 d2
theorem KG_step {l : Launch} {D : va_G} {ks : KS} {d1 d2 : Nat} (h1 : ∀ d9, d1 = d9 + 1 → KG l D ks d9 d2) (h2 : ∀ d9, d2 = d9 + 1 → KG l D ks d1 d9) : KG l D ks d1 d2 := by
  have k1 : K_s_calls l D ks d1 d2 := s_calls (fun d9 h => (h2 d9 h).2.1 12) (fun d9 h => (h2 d9 h).2.2.1)
  have k2 : K_s_ofLate l D ks d1 d2 := s_ofLate (fun d9 h => (h2 d9 h).2.2.2.1) k1
  have k3 : K_s_ofNeed l D ks d1 d2 := s_ofNeed k1 k2
  have k4 : K_s_works l D ks d1 d2 := s_works (s_wA0 k3)
  have k5 : K_s_inside l D ks d1 d2 := s_inside k4
  have ka : ∀ d3, K_s_arounds l D ks d1 d2 d3 := by
    intro d3
    induction d3 with
    | zero => exact s_arounds k5 (fun d8 h => absurd h (by omega))
    | succ d ih =>
      refine s_arounds k5 (fun d8 h => ?_)
      have e : d8 = d := by omega
      subst e
      exact s_wA1 k3 ih
  have k6 : K_s_closes l D ks d1 d2 := s_closes k4
  have k7 : K_s_gets l D ks d1 d2 := s_gets (s_makes (fun d9 h => (h1 d9 h).2.2.2.2.1) k4)
  exact ⟨k1, ka, s_failings k4, s_getsWhole k7 k6, s_joinsAll k7, k6⟩
theorem KG_all {l : Launch} {D : va_G} {ks : KS} : ∀ n d1 d2, d1 + d2 ≤ n → KG l D ks d1 d2
  | 0, d1, d2, h => KG_step (fun d9 h9 => absurd h9 (by omega)) (fun d9 h9 => absurd h9 (by omega))
  | n + 1, d1, d2, h => KG_step (fun d9 h9 => KG_all n d9 d2 (by omega)) (fun d9 h9 => KG_all n d1 d9 (by omega))
/-! between the calls: RT0; how many objects may still be closed: mu -/
def RTt (V : Vf) : Prop := (∀ o : Nat, (o : Int) < (V 0 60).toInt → th V (Int32.toNatClampNeg (V 61 o))) ∧ (∀ o k i : Nat, (o : Int) < (V 0 60).toInt → k < 8 → (i : Int) < (V 66 (8 * o + k)).toInt → (V 67 (24 * (8 * o + k) + i)).toInt < (V 0 60).toInt) ∧ (∀ i : Nat, (i : Int) < (V 0 95).toInt → (V 94 i).toInt < (V 0 60).toInt ∧ 1 ≤ (V 63 (Int32.toNatClampNeg (V 94 i))).toInt)
def RT0 (V : Vf) : Prop := TB V ∧ RD V ∧ ((V 0 54).toInt = 1 ∨ (V 0 60).toInt = 0) ∧ RTt V ∧ (V 0 95).toInt = 0
theorem RT0.rt {V : Vf} (h : RT0 V) (r : (V 0 54).toInt = 1) : RT V := ⟨h.1, h.2.1 r, h.2.2.2.1⟩
theorem RT.r0 {V : Vf} (h : RT V) (r : (V 0 54).toInt = 1) (f : (V 0 95).toInt = 0) : RT0 V := ⟨h.1, fun _ => h.2.1, Or.inl r, h.2.2, f⟩
theorem RTt.z {V : Vf} (h0 : (V 0 60).toInt = 0) (f : (V 0 95).toInt = 0) : RTt V := ⟨fun o ho => absurd ho (by omega), fun o _ _ ho => absurd ho (by omega), fun i hi => absurd hi (by omega)⟩
/-- as rtC, but fresh and how many they are may have been written -/
def r0C (fs : List (Nat × Nat)) (cs : List Nat) : Prop := thC fs cs ∧ (∀ y ∈ fs, y.1 = 0) ∧ (∀ y ∈ cs, trk y = false) ∧ wrL fs cs 0 60 = false ∧ wrL fs cs 0 54 = false ∧ (∀ k, wrL fs cs 61 k = false) ∧ (∀ k, wrL fs cs 66 k = false) ∧ (∀ k, wrL fs cs 67 k = false)
theorem RT0.ag {fs : List (Nat × Nat)} {cs : List Nat} {V W : Vf} (h : RT0 V) (hM : rgd bM V) (a : agr fs cs V W) (q : r0C fs cs) (c0 : c0k V W) (f : (W 0 95).toInt = 0) : RT0 W := by
  obtain ⟨q1, q2, q3, q60, q54, q61, q66, q67⟩ := q
  refine ⟨TB.ag h.1 hM a q1.1 q2 q3, fun r => RD_st (h.2.1 (by rw [a 0 54 q54] at r; exact r)) a q1 c0, ?_, ⟨?_, ?_, ?_⟩, f⟩
  · rw [a 0 54 q54, a 0 60 q60]
    exact h.2.2.1
  · intro o ho
    rw [a 0 60 q60] at ho
    rw [a _ _ (q61 o)]
    exact (h.2.2.2.1.1 o ho).ag a q1
  · intro o k i ho hk hi
    rw [a 0 60 q60] at ho ⊢
    rw [a _ _ (q66 _)] at hi
    rw [a _ _ (q67 _)]
    exact h.2.2.2.1.2.1 o k i ho hk hi
  · intro i hi
    omega
def alv (V : Vf) : Nat → Nat
  | 0 => 0
  | n + 1 => alv V n + (if (V 63 n).toInt = 1 then 1 else 0)
theorem alv_le (V : Vf) (n : Nat) : ∀ k, alv V (n + k) ≤ alv V n + k
  | 0 => Nat.le_refl _
  | k + 1 => by
    have ih := alv_le V n k
    show alv V (n + k) + (if (V 63 (n + k)).toInt = 1 then 1 else 0) ≤ alv V n + (k + 1)
    split <;> omega
theorem alv_mono {V W : Vf} : ∀ n, (∀ o, o < n → (W 63 o).toInt = 1 → (V 63 o).toInt = 1) → alv W n ≤ alv V n
  | 0, _ => Nat.le_refl _
  | n + 1, h => by
    have ih := alv_mono (V := V) (W := W) n (fun o ho => h o (by omega))
    show alv W n + (if (W 63 n).toInt = 1 then 1 else 0) ≤ alv V n + (if (V 63 n).toInt = 1 then 1 else 0)
    by_cases e : (W 63 n).toInt = 1
    · rw [if_pos e, if_pos (h n (by omega) e)]
      omega
    · rw [if_neg e]
      omega
theorem alv_drop {V W : Vf} {x : Nat} (hv : (V 63 x).toInt = 1) (hw : (W 63 x).toInt ≠ 1) : ∀ n, (∀ o, o < n → (W 63 o).toInt = 1 → (V 63 o).toInt = 1) → x < n → alv W n + 1 ≤ alv V n
  | 0, _, hx => absurd hx (by omega)
  | n + 1, h, hx => by
    show alv W n + (if (W 63 n).toInt = 1 then 1 else 0) + 1 ≤ alv V n + (if (V 63 n).toInt = 1 then 1 else 0)
    by_cases e : x = n
    · subst e
      have ih := alv_mono (V := V) (W := W) x (fun o ho => h o (by omega))
      rw [if_neg hw, if_pos hv]
      omega
    · have ih := alv_drop hv hw n (fun o ho => h o (by omega)) (by omega)
      by_cases e : (W 63 n).toInt = 1
      · rw [if_pos e, if_pos (h n (by omega) e)]
        omega
      · rw [if_neg e]
        omega
theorem alv_self (V : Vf) : ∀ n, alv V n ≤ n
  | 0 => Nat.le_refl _
  | n + 1 => by
    have ih := alv_self V n
    show alv V n + (if (V 63 n).toInt = 1 then 1 else 0) ≤ n + 1
    split <;> omega
def mu (V : Vf) : Nat := 300 - (V 0 60).toInt.toNat + alv V (V 0 60).toInt.toNat
theorem mu_le {V : Vf} (h : (V 0 60).toInt ≤ 300) : mu V ≤ 300 := by
  unfold mu
  have := alv_self V (V 0 60).toInt.toNat
  omega
theorem mu_drop {V W : Vf} {x : Nat} (f : FRM V W (-1)) (h0 : 0 ≤ (V 0 60).toInt) (hx : (x : Int) < (V 0 60).toInt) (hv : (V 63 x).toInt = 1) (hw : (W 63 x).toInt = 2) (h3 : (W 0 60).toInt ≤ 300) (hM : ∀ o, 0 ≤ (V 63 o).toInt) : mu W + 1 ≤ mu V := by
  unfold mu
  have hf := f.1
  have e : (W 0 60).toInt.toNat = (V 0 60).toInt.toNat + ((W 0 60).toInt.toNat - (V 0 60).toInt.toNat) := by omega
  have a1 := alv_le W (V 0 60).toInt.toNat ((W 0 60).toInt.toNat - (V 0 60).toInt.toNat)
  rw [← e] at a1
  have a2 := alv_drop (V := V) (W := W) (x := x) hv (by omega) (V 0 60).toInt.toNat (fun o ho h1 => by
    have b := (f.2.1 o (by omega)).2.2
    have c := hM o
    rcases Decidable.em ((V 63 o).toInt = 0) with z | z
    · have := b.1 z
      omega
    · have := b.2 (by omega)
      omega) (by omega)
  omega
theorem mu_ag {fs : List (Nat × Nat)} {cs : List Nat} {V W : Vf} (a : agr fs cs V W) (q60 : wrL fs cs 0 60 = false) (q63 : ∀ k, wrL fs cs 63 k = false) : mu W = mu V := by
  unfold mu
  rw [a 0 60 q60]
  have h : ∀ n, alv W n = alv V n := fun n => by
    induction n with
    | zero => rfl
    | succ n ih =>
      show alv W n + (if (W 63 n).toInt = 1 then 1 else 0) = alv V n + (if (V 63 n).toInt = 1 then 1 else 0)
      rw [ih, a _ _ (q63 n)]
  rw [h]

theorem w2355 : Cond.code yX12_latestIn cX12_latestIn 4 (some .int) ∈ GW := gw_mem 2355 (by decide +kernel) rfl
theorem w2352 : Cond.methodLink RX12 585 yX12_latestIn ∈ GW := gw_mem 2352 (by decide +kernel) rfl
theorem w2354 : Cond.instanceMethod yX12_latestIn ∈ GW := gw_mem 2354 (by decide +kernel) rfl
theorem w154 : Cond.selects RX12 yX12_latestIn yX12_latestIn ∈ GW := gw_mem 154 (by decide +kernel) rfl
theorem hdV_yX12_latestIn : yX12_latestIn.cls = RX12 ∧ yX12_latestIn.cls ≠ "java/lang/invoke/MethodHandle" ∧ yX12_latestIn.cls ≠ "java/lang/invoke/VarHandle" ∧ (parseMethodDescriptor yX12_latestIn.desc).map (fun d => d.parameters.length) = some 1 := by decide +kernel
theorem w1809 : Cond.fieldLink RX12 588 "WiringHouseModel" "isSpent" "Z" ∈ GW := gw_mem 1809 (by decide +kernel) rfl
theorem w2351 : Cond.code yX12_closeAll cX12_closeAll 5 (some .int) ∈ GW := gw_mem 2351 (by decide +kernel) rfl
theorem w2348 : Cond.methodLink RX12 582 yX12_closeAll ∈ GW := gw_mem 2348 (by decide +kernel) rfl
theorem w2350 : Cond.instanceMethod yX12_closeAll ∈ GW := gw_mem 2350 (by decide +kernel) rfl
theorem w153 : Cond.selects RX12 yX12_closeAll yX12_closeAll ∈ GW := gw_mem 153 (by decide +kernel) rfl
theorem hdV_yX12_closeAll : yX12_closeAll.cls = RX12 ∧ yX12_closeAll.cls ≠ "java/lang/invoke/MethodHandle" ∧ yX12_closeAll.cls ≠ "java/lang/invoke/VarHandle" ∧ (parseMethodDescriptor yX12_closeAll.desc).map (fun d => d.parameters.length) = some 1 := by decide +kernel
theorem dX12_closeAll_0 : decode cX12_closeAll 0 = .ok (.iconst 0, 1) := by decide +kernel
theorem dX12_closeAll_1 : decode cX12_closeAll 1 = .ok (.istore_n 2, 1) := by decide +kernel
theorem dX12_closeAll_2 : decode cX12_closeAll 2 = .ok (.aload_n 0, 1) := by decide +kernel
theorem dX12_closeAll_3 : decode cX12_closeAll 3 = .ok (.getfield 244, 3) := by decide +kernel
theorem dX12_closeAll_6 : decode cX12_closeAll 6 = .ok (.iconst 1, 1) := by decide +kernel
theorem dX12_closeAll_7 : decode cX12_closeAll 7 = .ok (.isub, 1) := by decide +kernel
theorem dX12_closeAll_8 : decode cX12_closeAll 8 = .ok (.istore_n 3, 1) := by decide +kernel
theorem dX12_closeAll_9 : decode cX12_closeAll 9 = .ok (.iload_n 3, 1) := by decide +kernel
theorem dX12_closeAll_10 : decode cX12_closeAll 10 = .ok (.ifCond .le 94, 3) := by decide +kernel
theorem dX12_closeAll_104 : decode cX12_closeAll 104 = .ok (.aload_n 0, 1) := by decide +kernel
theorem dX12_closeAll_105 : decode cX12_closeAll 105 = .ok (.iload_n 1, 1) := by decide +kernel
theorem dX12_closeAll_106 : decode cX12_closeAll 106 = .ok (.invokevirtual 585, 3) := by decide +kernel
theorem dX12_closeAll_109 : decode cX12_closeAll 109 = .ok (.istore_n 3, 1) := by decide +kernel
theorem dX12_closeAll_110 : decode cX12_closeAll 110 = .ok (.iload_n 3, 1) := by decide +kernel
theorem dX12_closeAll_111 : decode cX12_closeAll 111 = .ok (.ifCond .lt 43, 3) := by decide +kernel
theorem dX12_closeAll_154 : decode cX12_closeAll 154 = .ok (.aload_n 0, 1) := by decide +kernel
theorem dX12_closeAll_155 : decode cX12_closeAll 155 = .ok (.getfield 152, 3) := by decide +kernel
theorem dX12_closeAll_158 : decode cX12_closeAll 158 = .ok (.iload_n 1, 1) := by decide +kernel
theorem dX12_closeAll_159 : decode cX12_closeAll 159 = .ok (.iload_n 1, 1) := by decide +kernel
theorem dX12_closeAll_160 : decode cX12_closeAll 160 = .ok (.ifCond .ne 7, 3) := by decide +kernel
theorem dX12_closeAll_167 : decode cX12_closeAll 167 = .ok (.iconst 0, 1) := by decide +kernel
theorem dX12_closeAll_168 : decode cX12_closeAll 168 = .ok (.bastore, 1) := by decide +kernel
theorem dX12_closeAll_169 : decode cX12_closeAll 169 = .ok (.iconst 0, 1) := by decide +kernel
theorem dX12_closeAll_170 : decode cX12_closeAll 170 = .ok (.istore 4, 2) := by decide +kernel
theorem dX12_closeAll_172 : decode cX12_closeAll 172 = .ok (.iload 4, 2) := by decide +kernel
theorem dX12_closeAll_174 : decode cX12_closeAll 174 = .ok (.bipush 24, 2) := by decide +kernel
theorem dX12_closeAll_176 : decode cX12_closeAll 176 = .ok (.if_icmp .ge 22, 3) := by decide +kernel
theorem dX12_closeAll_198 : decode cX12_closeAll 198 = .ok (.iload_n 2, 1) := by decide +kernel
theorem dX12_closeAll_199 : decode cX12_closeAll 199 = .ok (.ireturn, 1) := by decide +kernel
theorem dX12_closeAll_179 : decode cX12_closeAll 179 = .ok (.aload_n 0, 1) := by decide +kernel
theorem dX12_closeAll_180 : decode cX12_closeAll 180 = .ok (.getfield 161, 3) := by decide +kernel
theorem dX12_closeAll_183 : decode cX12_closeAll 183 = .ok (.bipush 24, 2) := by decide +kernel
theorem dX12_closeAll_185 : decode cX12_closeAll 185 = .ok (.iload_n 1, 1) := by decide +kernel
theorem dX12_closeAll_186 : decode cX12_closeAll 186 = .ok (.imul, 1) := by decide +kernel
theorem dX12_closeAll_187 : decode cX12_closeAll 187 = .ok (.iload 4, 2) := by decide +kernel
theorem dX12_closeAll_189 : decode cX12_closeAll 189 = .ok (.iadd, 1) := by decide +kernel
theorem dX12_closeAll_190 : decode cX12_closeAll 190 = .ok (.iconst 0, 1) := by decide +kernel
theorem dX12_closeAll_191 : decode cX12_closeAll 191 = .ok (.bastore, 1) := by decide +kernel
theorem dX12_closeAll_192 : decode cX12_closeAll 192 = .ok (.iinc 4 1, 3) := by decide +kernel
theorem dX12_closeAll_195 : decode cX12_closeAll 195 = .ok (.goto (-23), 3) := by decide +kernel
theorem dX12_closeAll_163 : decode cX12_closeAll 163 = .ok (.iconst 1, 1) := by decide +kernel
theorem dX12_closeAll_164 : decode cX12_closeAll 164 = .ok (.goto 4, 3) := by decide +kernel
theorem dX12_closeAll_114 : decode cX12_closeAll 114 = .ok (.aload_n 0, 1) := by decide +kernel
theorem dX12_closeAll_115 : decode cX12_closeAll 115 = .ok (.iload_n 3, 1) := by decide +kernel
theorem dX12_closeAll_116 : decode cX12_closeAll 116 = .ok (.invokevirtual 513, 3) := by decide +kernel
theorem dX12_closeAll_119 : decode cX12_closeAll 119 = .ok (.istore 4, 2) := by decide +kernel
theorem dX12_closeAll_121 : decode cX12_closeAll 121 = .ok (.aload_n 0, 1) := by decide +kernel
theorem dX12_closeAll_122 : decode cX12_closeAll 122 = .ok (.aload_n 0, 1) := by decide +kernel
theorem dX12_closeAll_123 : decode cX12_closeAll 123 = .ok (.getfield 588, 3) := by decide +kernel
theorem dX12_closeAll_126 : decode cX12_closeAll 126 = .ok (.ifCond .ne 8, 3) := by decide +kernel
theorem dX12_closeAll_134 : decode cX12_closeAll 134 = .ok (.iconst 1, 1) := by decide +kernel
theorem dX12_closeAll_135 : decode cX12_closeAll 135 = .ok (.goto 4, 3) := by decide +kernel
theorem dX12_closeAll_139 : decode cX12_closeAll 139 = .ok (.putfield 588, 3) := by decide +kernel
theorem dX12_closeAll_142 : decode cX12_closeAll 142 = .ok (.iinc 2 1, 3) := by decide +kernel
theorem dX12_closeAll_145 : decode cX12_closeAll 145 = .ok (.aload_n 0, 1) := by decide +kernel
theorem dX12_closeAll_146 : decode cX12_closeAll 146 = .ok (.iload_n 1, 1) := by decide +kernel
theorem dX12_closeAll_147 : decode cX12_closeAll 147 = .ok (.invokevirtual 585, 3) := by decide +kernel
theorem dX12_closeAll_150 : decode cX12_closeAll 150 = .ok (.istore_n 3, 1) := by decide +kernel
theorem dX12_closeAll_151 : decode cX12_closeAll 151 = .ok (.goto (-41), 3) := by decide +kernel
theorem dX12_closeAll_129 : decode cX12_closeAll 129 = .ok (.iload 4, 2) := by decide +kernel
theorem dX12_closeAll_131 : decode cX12_closeAll 131 = .ok (.ifCond .eq 7, 3) := by decide +kernel
theorem dX12_closeAll_138 : decode cX12_closeAll 138 = .ok (.iconst 0, 1) := by decide +kernel
theorem dX12_closeAll_13 : decode cX12_closeAll 13 = .ok (.aload_n 0, 1) := by decide +kernel
theorem dX12_closeAll_14 : decode cX12_closeAll 14 = .ok (.getfield 152, 3) := by decide +kernel
theorem dX12_closeAll_17 : decode cX12_closeAll 17 = .ok (.iload_n 3, 1) := by decide +kernel
theorem dX12_closeAll_18 : decode cX12_closeAll 18 = .ok (.baload, 1) := by decide +kernel
theorem dX12_closeAll_19 : decode cX12_closeAll 19 = .ok (.ifCond .eq 59, 3) := by decide +kernel
theorem dX12_closeAll_78 : decode cX12_closeAll 78 = .ok (.iconst 0, 1) := by decide +kernel
theorem dX12_closeAll_79 : decode cX12_closeAll 79 = .ok (.istore 4, 2) := by decide +kernel
theorem dX12_closeAll_81 : decode cX12_closeAll 81 = .ok (.iload_n 2, 1) := by decide +kernel
theorem dX12_closeAll_82 : decode cX12_closeAll 82 = .ok (.iload 4, 2) := by decide +kernel
theorem dX12_closeAll_84 : decode cX12_closeAll 84 = .ok (.ifCond .eq 11, 3) := by decide +kernel
theorem dX12_closeAll_95 : decode cX12_closeAll 95 = .ok (.iconst 0, 1) := by decide +kernel
theorem dX12_closeAll_96 : decode cX12_closeAll 96 = .ok (.iadd, 1) := by decide +kernel
theorem dX12_closeAll_97 : decode cX12_closeAll 97 = .ok (.istore_n 2, 1) := by decide +kernel
theorem dX12_closeAll_98 : decode cX12_closeAll 98 = .ok (.iinc 3 (-1), 3) := by decide +kernel
theorem dX12_closeAll_101 : decode cX12_closeAll 101 = .ok (.goto (-92), 3) := by decide +kernel
theorem dX12_closeAll_22 : decode cX12_closeAll 22 = .ok (.aload_n 0, 1) := by decide +kernel
theorem dX12_closeAll_23 : decode cX12_closeAll 23 = .ok (.getfield 155, 3) := by decide +kernel
theorem dX12_closeAll_26 : decode cX12_closeAll 26 = .ok (.iload_n 1, 1) := by decide +kernel
theorem dX12_closeAll_27 : decode cX12_closeAll 27 = .ok (.iaload, 1) := by decide +kernel
theorem dX12_closeAll_28 : decode cX12_closeAll 28 = .ok (.ifCond .ne 16, 3) := by decide +kernel
theorem dX12_closeAll_44 : decode cX12_closeAll 44 = .ok (.aload_n 0, 1) := by decide +kernel
theorem dX12_closeAll_45 : decode cX12_closeAll 45 = .ok (.getfield 155, 3) := by decide +kernel
theorem dX12_closeAll_48 : decode cX12_closeAll 48 = .ok (.iload_n 1, 1) := by decide +kernel
theorem dX12_closeAll_49 : decode cX12_closeAll 49 = .ok (.iaload, 1) := by decide +kernel
theorem dX12_closeAll_50 : decode cX12_closeAll 50 = .ok (.iconst 1, 1) := by decide +kernel
theorem dX12_closeAll_51 : decode cX12_closeAll 51 = .ok (.if_icmp .ne 27, 3) := by decide +kernel
theorem dX12_closeAll_54 : decode cX12_closeAll 54 = .ok (.aload_n 0, 1) := by decide +kernel
theorem dX12_closeAll_55 : decode cX12_closeAll 55 = .ok (.getfield 155, 3) := by decide +kernel
theorem dX12_closeAll_58 : decode cX12_closeAll 58 = .ok (.iload_n 3, 1) := by decide +kernel
theorem dX12_closeAll_59 : decode cX12_closeAll 59 = .ok (.iaload, 1) := by decide +kernel
theorem dX12_closeAll_60 : decode cX12_closeAll 60 = .ok (.iconst 2, 1) := by decide +kernel
theorem dX12_closeAll_61 : decode cX12_closeAll 61 = .ok (.if_icmp .ne 17, 3) := by decide +kernel
theorem dX12_closeAll_64 : decode cX12_closeAll 64 = .ok (.aload_n 0, 1) := by decide +kernel
theorem dX12_closeAll_65 : decode cX12_closeAll 65 = .ok (.getfield 158, 3) := by decide +kernel
theorem dX12_closeAll_68 : decode cX12_closeAll 68 = .ok (.iload_n 3, 1) := by decide +kernel
theorem dX12_closeAll_69 : decode cX12_closeAll 69 = .ok (.iaload, 1) := by decide +kernel
theorem dX12_closeAll_70 : decode cX12_closeAll 70 = .ok (.iload_n 1, 1) := by decide +kernel
theorem dX12_closeAll_71 : decode cX12_closeAll 71 = .ok (.if_icmp .ne 7, 3) := by decide +kernel
theorem dX12_closeAll_74 : decode cX12_closeAll 74 = .ok (.iconst 1, 1) := by decide +kernel
theorem dX12_closeAll_75 : decode cX12_closeAll 75 = .ok (.goto 4, 3) := by decide +kernel
theorem dX12_closeAll_87 : decode cX12_closeAll 87 = .ok (.aload_n 0, 1) := by decide +kernel
theorem dX12_closeAll_88 : decode cX12_closeAll 88 = .ok (.iload_n 3, 1) := by decide +kernel
theorem dX12_closeAll_89 : decode cX12_closeAll 89 = .ok (.invokevirtual 582, 3) := by decide +kernel
theorem dX12_closeAll_92 : decode cX12_closeAll 92 = .ok (.goto 4, 3) := by decide +kernel
theorem dX12_closeAll_31 : decode cX12_closeAll 31 = .ok (.aload_n 0, 1) := by decide +kernel
theorem dX12_closeAll_32 : decode cX12_closeAll 32 = .ok (.getfield 155, 3) := by decide +kernel
theorem dX12_closeAll_35 : decode cX12_closeAll 35 = .ok (.iload_n 3, 1) := by decide +kernel
theorem dX12_closeAll_36 : decode cX12_closeAll 36 = .ok (.iaload, 1) := by decide +kernel
theorem dX12_closeAll_37 : decode cX12_closeAll 37 = .ok (.iconst 1, 1) := by decide +kernel
theorem dX12_closeAll_38 : decode cX12_closeAll 38 = .ok (.if_icmp .ne 40, 3) := by decide +kernel
theorem dX12_closeAll_41 : decode cX12_closeAll 41 = .ok (.goto 33, 3) := by decide +kernel
abbrev r_s_callsT : Room := { frames := 1608, cells := 0, slots := 0, locals := 40320 }
abbrev q_s_callsT (D : va_G) (ks : KS) (ad : Nat → Nat) (kk : Nat → ClassId) (V : Vf) (L : Lf) (p0 : Int32) (p1 : Int32) (p2 : Int32) (p3 : Int32) (A : Nat → Prop) : Array Value → State → Outcome → State → Prop := q_s_calls D ks ad kk V L p0 p1 p2 p3 A
theorem s_callsT (l : Launch) (D : va_G) (ks : KS) (sz : Nat) (ad : Nat → Nat) (kk : Nat → ClassId) (V : Vf) (L : Lf) (p0 : Int32) (p1 : Int32) (p2 : Int32) (p3 : Int32) (hMV : rgd bM V) (rg_p0 : 0 ≤ p0.toInt ∧ p0.toInt ≤ 299) (rg_p1 : 0 ≤ p1.toInt ∧ p1.toInt ≤ 19) (rg_p2 : 0 ≤ p2.toInt ∧ p2.toInt ≤ 39) (rt : RT V) (n1 : (V 0 65).toInt ≤ (V 0 60).toInt) (n2 : (V 0 95).toInt ≤ (V 0 65).toInt) (n3 : (V 0 73).toInt + (V 0 95).toInt - (V 0 65).toInt ≤ 999000) (n4 : (V 0 76).toInt - (V 0 69).toInt - (V 0 73).toInt ≤ 1000000000) (oq1 : p0.toInt < (V 0 60).toInt) (n7 : (V 0 98).toInt + 400 * 10 ≤ 19000) : Met l yX12_calls (Cond.code yX12_calls cX12_calls 6 (some .int) :: GW) r_s_callsT (va_Pc [.ref (ad 0), .int p0, .int p1, .int p2, .int p3] (gp D ks (mw ad kk ks.1 V L) (mty kk) sz)) (q_s_callsT D ks ad kk V L p0 p1 p2 p3 (va_A (mw ad kk ks.1 V L) sz)) 0 0 (va_A (mw ad kk ks.1 V L) sz) :=
  (KG_all (l := l) (D := D) (ks := ks) 310 300 10 (by omega)).1 sz ad kk V L p0 p1 p2 p3 hMV rg_p0 rg_p1 rg_p2 rt n1 n2 n3 n4 (by have h9 : 0 ≤ (V 0 60).toInt := (hMV 0 60).1; omega) (by have h9 : 0 ≤ (V 0 93).toInt := (hMV 0 93).1; omega) oq1 (by omega)

abbrev r_s_getsWholeT : Room := { frames := 1616, cells := 0, slots := 0, locals := 40620 }
abbrev q_s_getsWholeT (D : va_G) (ks : KS) (ad : Nat → Nat) (kk : Nat → ClassId) (V : Vf) (L : Lf) (p0 : Int32) (p1 : Int32) (A : Nat → Prop) : Array Value → State → Outcome → State → Prop := q_s_getsWhole D ks ad kk V L p0 p1 A
theorem s_getsWholeT (l : Launch) (D : va_G) (ks : KS) (sz : Nat) (ad : Nat → Nat) (kk : Nat → ClassId) (V : Vf) (L : Lf) (p0 : Int32) (p1 : Int32) (hMV : rgd bM V) (rg_p0 : 0 ≤ p0.toInt ∧ p0.toInt ≤ 23) (rg_p1 : 0 ≤ p1.toInt ∧ p1.toInt ≤ 39) (rt : RT V) (n1 : (V 0 65).toInt ≤ (V 0 60).toInt) (n2 : (V 0 95).toInt ≤ (V 0 65).toInt) (n3 : (V 0 73).toInt + (V 0 95).toInt - (V 0 65).toInt ≤ 999000) (n4 : (V 0 76).toInt - (V 0 69).toInt - (V 0 73).toInt ≤ 1000000000) (n7 : (V 0 98).toInt + 400 * 10 + 30 ≤ 19000) (tq : th V (Int32.toNatClampNeg p0)) : Met l yX12_getsWhole (Cond.code yX12_getsWhole cX12_getsWhole 8 (some .int) :: GW) r_s_getsWholeT (va_Pc [.ref (ad 0), .int p0, .int p1] (gp D ks (mw ad kk ks.1 V L) (mty kk) sz)) (q_s_getsWholeT D ks ad kk V L p0 p1 (va_A (mw ad kk ks.1 V L) sz)) 0 0 (va_A (mw ad kk ks.1 V L) sz) :=
  (KG_all (l := l) (D := D) (ks := ks) 310 300 10 (by omega)).2.2.2.1 sz ad kk V L p0 p1 hMV rg_p0 rg_p1 rt n1 n2 n3 n4 (by have h9 : 0 ≤ (V 0 60).toInt := (hMV 0 60).1; omega) (by have h9 : 0 ≤ (V 0 93).toInt := (hMV 0 93).1; omega) (by omega) tq

abbrev r_s_closesT : Room := { frames := 1613, cells := 0, slots := 0, locals := 40500 }
abbrev q_s_closesT (D : va_G) (ks : KS) (ad : Nat → Nat) (kk : Nat → ClassId) (V : Vf) (L : Lf) (p0 : Int32) (A : Nat → Prop) : Array Value → State → Outcome → State → Prop := q_s_closes D ks ad kk V L p0 A
theorem s_closesT (l : Launch) (D : va_G) (ks : KS) (sz : Nat) (ad : Nat → Nat) (kk : Nat → ClassId) (V : Vf) (L : Lf) (p0 : Int32) (hMV : rgd bM V) (rg_p0 : 0 ≤ p0.toInt ∧ p0.toInt ≤ 299) (rt : RT V) (n1 : (V 0 65).toInt ≤ (V 0 60).toInt) (n2 : (V 0 95).toInt ≤ (V 0 65).toInt) (n3 : (V 0 73).toInt + (V 0 95).toInt - (V 0 65).toInt ≤ 999000) (n4 : (V 0 76).toInt - (V 0 69).toInt - (V 0 73).toInt ≤ 1000000000) (oq1 : p0.toInt < (V 0 60).toInt) (n7 : (V 0 98).toInt + 400 * 10 + 30 ≤ 19000) (st1 : 1 ≤ (V 63 (Int32.toNatClampNeg p0)).toInt) : Met l yX12_closes (Cond.code yX12_closes cX12_closes 4 (some .boolean) :: GW) r_s_closesT (va_Pc [.ref (ad 0), .int p0] (gp D ks (mw ad kk ks.1 V L) (mty kk) sz)) (q_s_closesT D ks ad kk V L p0 (va_A (mw ad kk ks.1 V L) sz)) 0 0 (va_A (mw ad kk ks.1 V L) sz) :=
  (KG_all (l := l) (D := D) (ks := ks) 310 300 10 (by omega)).2.2.2.2.2 sz ad kk V L p0 hMV rg_p0 rt n1 n2 n3 n4 (by have h9 : 0 ≤ (V 0 60).toInt := (hMV 0 60).1; omega) (by have h9 : 0 ≤ (V 0 93).toInt := (hMV 0 93).1; omega) oq1 (by omega) st1

abbrev r_s_begins2 : Room := { frames := 0, cells := 0, slots := 0, locals := 0 }
abbrev q_s_begins2 (D : va_G) (ks : KS) (ad : Nat → Nat) (kk : Nat → ClassId) (V : Vf) (L : Lf) (A : Nat → Prop) : Array Value → State → Outcome → State → Prop := va_Qv (fun (u : Vf × Lf) => rgd bM u.1 ∧ agr [(0, 69), (0, 71), (0, 72), (0, 93), (0, 95), (0, 98)] [] V u.1 ∧ u.2 = L ∧ ((u.1 0 69).toInt = 0) ∧ ((u.1 0 93).toInt = 0) ∧ ((u.1 0 98).toInt = 0) ∧ ((u.1 0 95).toInt = 0)) (fun u t => gq D A (mw ad kk ks.1 u.1 u.2) (mty kk) t) A
set_option maxHeartbeats 4000000 in
set_option maxRecDepth 100000 in
theorem s_begins2 (l : Launch) (D : va_G) (ks : KS) (sz : Nat) (ad : Nat → Nat) (kk : Nat → ClassId) (V : Vf) (L : Lf)  (hMV : rgd bM V)  : Met l yX12_begins_ (Cond.code yX12_begins_ cX12_begins_ 1 none :: GW) r_s_begins2 (va_Pc [.ref (ad 0)] (gp D ks (mw ad kk ks.1 V L) (mty kk) sz)) (q_s_begins2 D ks ad kk V L  (va_A (mw ad kk ks.1 V L) sz)) 0 0 (va_A (mw ad kk ks.1 V L) sz) := by
  refine g_met (q_s_begins2 D ks ad kk V L) (by decide) (Nat.le_of_ble_eq_true rfl) ?_
  intro p e s m below meth c A ls H locs hx hb hr hml hown hg hlocks hin hnw hgk hP hK hD hS hA hl
  have hown : s.vm.findClass RX12 = some m.cls := hown
  have hl : lv_has ls 1 [(0, .ref (ad 0))] := hl
  have hP : va_P D vwCl (mw ad kk ks.1 V L) H := hP
  have hD : va_D A (mw ad kk ks.1 V L) := hD
  have hK : va_K D vwCl (mty kk) s := hK
  have agV : agr [(0, 69), (0, 71), (0, 72), (0, 93), (0, 95), (0, 98)] [] V V := agr.rf
  refine lv_aload_n hx hb dX12_begins__0 rfl (lv_at hl 0 rfl) ?_
  refine lv_iconst (v := 0) hx hb dX12_begins__1 (by decide) ?_
  refine va_put (D := D) (ci := 12) (v := .int 0) (ty := tyX12 69) (C := RX12) (T := TX12) (N := 100) hx hb hg inX12 tyX12 tyX12_ok nmX12 hown hK hP hD hS 0 rfl rfl 69 (by decide) (hg _ w1779) (fun _ h9 => h9) rfl (tyX12_ok 69 (by decide)) rfl rfl (Nat.le_of_ble_eq_true rfl) dX12_begins__2 (fun H locs hP hD hS => ?_)
  obtain ⟨V1, hV1⟩ : ∃ z, z = up2 V 0 69 0 := ⟨_, rfl⟩
  have hP : va_P D vwCl (mw ad kk ks.1 V1 L) H := by rw [hV1]; exact hP
  have hD : va_D A (mw ad kk ks.1 V1 L) := by rw [hV1]; exact hD
  have hMV1 : rgd bM V1 := hMV.put hV1 (by decide)
  have agV1 : agr [(0, 69), (0, 71), (0, 72), (0, 93), (0, 95), (0, 98)] [] V V1 := agV.up hV1 rfl
  refine lv_aload_n hx hb dX12_begins__5 rfl (lv_at hl 0 rfl) ?_
  refine lv_iconst (v := 0) hx hb dX12_begins__6 (by decide) ?_
  refine va_put (D := D) (ci := 12) (v := .int 0) (ty := tyX12 93) (C := RX12) (T := TX12) (N := 100) hx hb hg inX12 tyX12 tyX12_ok nmX12 hown hK hP hD hS 0 rfl rfl 93 (by decide) (hg _ w1803) (fun _ h9 => h9) rfl (tyX12_ok 93 (by decide)) rfl rfl (Nat.le_of_ble_eq_true rfl) dX12_begins__7 (fun H locs hP hD hS => ?_)
  obtain ⟨V2, hV2⟩ : ∃ z, z = up2 V1 0 93 0 := ⟨_, rfl⟩
  have hP : va_P D vwCl (mw ad kk ks.1 V2 L) H := by rw [hV2]; exact hP
  have hD : va_D A (mw ad kk ks.1 V2 L) := by rw [hV2]; exact hD
  have hMV2 : rgd bM V2 := hMV1.put hV2 (by decide)
  have agV2 : agr [(0, 69), (0, 71), (0, 72), (0, 93), (0, 95), (0, 98)] [] V V2 := agV1.up hV2 rfl
  refine lv_aload_n hx hb dX12_begins__10 rfl (lv_at hl 0 rfl) ?_
  refine lv_iconst (v := 0) hx hb dX12_begins__11 (by decide) ?_
  refine va_put (D := D) (ci := 12) (v := .int 0) (ty := tyX12 98) (C := RX12) (T := TX12) (N := 100) hx hb hg inX12 tyX12 tyX12_ok nmX12 hown hK hP hD hS 0 rfl rfl 98 (by decide) (hg _ w1808) (fun _ h9 => h9) rfl (tyX12_ok 98 (by decide)) rfl rfl (Nat.le_of_ble_eq_true rfl) dX12_begins__12 (fun H locs hP hD hS => ?_)
  obtain ⟨V3, hV3⟩ : ∃ z, z = up2 V2 0 98 0 := ⟨_, rfl⟩
  have hP : va_P D vwCl (mw ad kk ks.1 V3 L) H := by rw [hV3]; exact hP
  have hD : va_D A (mw ad kk ks.1 V3 L) := by rw [hV3]; exact hD
  have hMV3 : rgd bM V3 := hMV2.put hV3 (by decide)
  have agV3 : agr [(0, 69), (0, 71), (0, 72), (0, 93), (0, 95), (0, 98)] [] V V3 := agV2.up hV3 rfl
  refine lv_aload_n hx hb dX12_begins__15 rfl (lv_at hl 0 rfl) ?_
  refine lv_iconst (v := 0) hx hb dX12_begins__16 (by decide) ?_
  refine va_put (D := D) (ci := 12) (v := .int 0) (ty := tyX12 95) (C := RX12) (T := TX12) (N := 100) hx hb hg inX12 tyX12 tyX12_ok nmX12 hown hK hP hD hS 0 rfl rfl 95 (by decide) (hg _ w1805) (fun _ h9 => h9) rfl (tyX12_ok 95 (by decide)) rfl rfl (Nat.le_of_ble_eq_true rfl) dX12_begins__17 (fun H locs hP hD hS => ?_)
  obtain ⟨V4, hV4⟩ : ∃ z, z = up2 V3 0 95 0 := ⟨_, rfl⟩
  have hP : va_P D vwCl (mw ad kk ks.1 V4 L) H := by rw [hV4]; exact hP
  have hD : va_D A (mw ad kk ks.1 V4 L) := by rw [hV4]; exact hD
  have hMV4 : rgd bM V4 := hMV3.put hV4 (by decide)
  have agV4 : agr [(0, 69), (0, 71), (0, 72), (0, 93), (0, 95), (0, 98)] [] V V4 := agV3.up hV4 rfl
  refine lv_aload_n hx hb dX12_begins__20 rfl (lv_at hl 0 rfl) ?_
  refine lv_iconst (v := 0) hx hb dX12_begins__21 (by decide) ?_
  refine va_put (D := D) (ci := 12) (v := .int 0) (ty := tyX12 71) (C := RX12) (T := TX12) (N := 100) hx hb hg inX12 tyX12 tyX12_ok nmX12 hown hK hP hD hS 0 rfl rfl 71 (by decide) (hg _ w1781) (fun _ h9 => h9) rfl (tyX12_ok 71 (by decide)) rfl rfl (Nat.le_of_ble_eq_true rfl) dX12_begins__22 (fun H locs hP hD hS => ?_)
  obtain ⟨V5, hV5⟩ : ∃ z, z = up2 V4 0 71 0 := ⟨_, rfl⟩
  have hP : va_P D vwCl (mw ad kk ks.1 V5 L) H := by rw [hV5]; exact hP
  have hD : va_D A (mw ad kk ks.1 V5 L) := by rw [hV5]; exact hD
  have hMV5 : rgd bM V5 := hMV4.put hV5 (i_full _)
  have agV5 : agr [(0, 69), (0, 71), (0, 72), (0, 93), (0, 95), (0, 98)] [] V V5 := agV4.up hV5 rfl
  refine lv_aload_n hx hb dX12_begins__25 rfl (lv_at hl 0 rfl) ?_
  refine lv_iconst (v := 0) hx hb dX12_begins__26 (by decide) ?_
  refine va_put (D := D) (ci := 12) (v := .int 0) (ty := tyX12 72) (C := RX12) (T := TX12) (N := 100) hx hb hg inX12 tyX12 tyX12_ok nmX12 hown hK hP hD hS 0 rfl rfl 72 (by decide) (hg _ w1782) (fun _ h9 => h9) rfl (tyX12_ok 72 (by decide)) rfl rfl (Nat.le_of_ble_eq_true rfl) dX12_begins__27 (fun H locs hP hD hS => ?_)
  obtain ⟨V6, hV6⟩ : ∃ z, z = up2 V5 0 72 0 := ⟨_, rfl⟩
  have hP : va_P D vwCl (mw ad kk ks.1 V6 L) H := by rw [hV6]; exact hP
  have hD : va_D A (mw ad kk ks.1 V6 L) := by rw [hV6]; exact hD
  have hMV6 : rgd bM V6 := hMV5.put hV6 (i_full _)
  have agV6 : agr [(0, 69), (0, 71), (0, 72), (0, 93), (0, 95), (0, 98)] [] V V6 := agV5.up hV6 rfl
  have pq7 : (V6 0 69).toInt = 0 := (congrArg Int32.toInt ((up2_k hV6 (by decide)).trans ((up2_k hV5 (by decide)).trans ((up2_k hV4 (by decide)).trans ((up2_k hV3 (by decide)).trans ((up2_k hV2 (by decide)).trans (up2_s hV1))))))).trans (by decide)
  have pq8 : (V6 0 93).toInt = 0 := (congrArg Int32.toInt ((up2_k hV6 (by decide)).trans ((up2_k hV5 (by decide)).trans ((up2_k hV4 (by decide)).trans ((up2_k hV3 (by decide)).trans (up2_s hV2)))))).trans (by decide)
  have pq9 : (V6 0 98).toInt = 0 := (congrArg Int32.toInt ((up2_k hV6 (by decide)).trans ((up2_k hV5 (by decide)).trans ((up2_k hV4 (by decide)).trans (up2_s hV3))))).trans (by decide)
  have pq10 : (V6 0 95).toInt = 0 := (congrArg Int32.toInt ((up2_k hV6 (by decide)).trans ((up2_k hV5 (by decide)).trans (up2_s hV4)))).trans (by decide)
  exact W.vret hx hb hr (fun t ht hW => ⟨⟨(V6, L), rfl, ⟨hMV6, agV6, rfl, (show (V6 0 69).toInt = 0 from by omega), (show (V6 0 93).toInt = 0 from by omega), (show (V6 0 98).toInt = 0 from by omega), (show (V6 0 95).toInt = 0 from by omega)⟩, by rw [ht]; exact hP, va_K.moved hW.alike hK, hD⟩, hS.F ht⟩) hS.2.2 dX12_begins__30
abbrev r_s_latestIn2 : Room := { frames := 0, cells := 0, slots := 0, locals := 0 }
abbrev q_s_latestIn2 (D : va_G) (ks : KS) (ad : Nat → Nat) (kk : Nat → ClassId) (V : Vf) (L : Lf) (p0 : Int32) (A : Nat → Prop) : Array Value → State → Outcome → State → Prop := va_Qi (fun (r : Int32) (_ : Unit) => ((-1) ≤ r.toInt ∧ r.toInt ≤ 299) ∧ (r.toInt < (V 0 60).toInt) ∧ (Imp (0 ≤ r.toInt) ((V 63 (Int32.toNatClampNeg r)).toInt = 1))) (fun _ t => gq D A (mw ad kk ks.1 V L) (mty kk) t) A
set_option maxHeartbeats 4000000 in
set_option maxRecDepth 100000 in
theorem s_latestIn2 (l : Launch) (D : va_G) (ks : KS) (sz : Nat) (ad : Nat → Nat) (kk : Nat → ClassId) (V : Vf) (L : Lf) (p0 : Int32) (hMV : rgd bM V)  : Met l yX12_latestIn (Cond.code yX12_latestIn cX12_latestIn 4 (some .int) :: GW) r_s_latestIn2 (va_Pc [.ref (ad 0), .int p0] (gp D ks (mw ad kk ks.1 V L) (mty kk) sz)) (q_s_latestIn2 D ks ad kk V L p0 (va_A (mw ad kk ks.1 V L) sz)) 0 0 (va_A (mw ad kk ks.1 V L) sz) := by
  refine g_met (q_s_latestIn2 D ks ad kk V L p0) (by decide) (Nat.le_of_ble_eq_true rfl) ?_
  intro p e s m below meth c A ls H locs hx hb hr hml hown hg hlocks hin hnw hgk hP hK hD hS hA hl
  have hown : s.vm.findClass RX12 = some m.cls := hown
  have hl : lv_has ls 4 [(0, .ref (ad 0)), (1, .int p0)] := hl
  have hP : va_P D vwCl (mw ad kk ks.1 V L) H := hP
  have hD : va_D A (mw ad kk ks.1 V L) := hD
  have hK : va_K D vwCl (mty kk) s := hK
  refine lv_iconst (v := (-1)) hx hb dX12_latestIn_0 (by decide) ?_
  refine lv_istore_n (lv' := [(2, .int (-1)), (0, .ref (ad 0)), (1, .int p0)]) hx hb dX12_latestIn_1 rfl hl (by decide) rfl (fun ls hl => ?_)
  refine lv_iconst (v := 0) hx hb dX12_latestIn_2 (by decide) ?_
  refine lv_istore_n (lv' := [(3, .int 0), (2, .int (-1)), (0, .ref (ad 0)), (1, .int p0)]) hx hb dX12_latestIn_3 rfl hl (by decide) rfl (fun ls hl => ?_)
  have lp3 : ∀ (fulp3 : Nat) (y1 : Int32) (y2 : Int32) (H : Heap) (locs : List Loc) (ls : Array Slot), 0 ≤ y1.toInt ∧ y1.toInt ≤ 300 → (-1) ≤ y2.toInt ∧ y2.toInt ≤ 299 → y1.toInt ≤ (V 0 60).toInt → y2.toInt < (V 0 60).toInt → Imp (0 ≤ y2.toInt) ((V 63 (Int32.toNatClampNeg y2)).toInt = 1) → (V 0 60).toInt - y1.toInt < (fulp3 : Int) → va_P D vwCl (mw ad kk ks.1 V L) H → va_D A (mw ad kk ks.1 V L) → va_S A s.heap H locs → lv_has ls 4 [(3, .int y1), (2, .int y2), (0, .ref (ad 0)), (1, .int p0)] → W p l e r_s_latestIn2 s m ([.ref (ad 0), .int p0] : List Value).toArray below meth c H locs 0 0 (MQ below (q_s_latestIn2 D ks ad kk V L p0 A) ([.ref (ad 0), .int p0] : List Value).toArray s 0 0 A) (F0 m 4 ls []) := by
    intro fulp3
    induction fulp3 with
    | zero =>
      intro y1 y2 H locs ls klp3_0 klp3_1 xlp3_0 xlp3_1 xlp3_2 hn  hP hD hS hl
      exfalso; omega
    | succ fulp3 ihlp3 =>
      intro y1 y2 H locs ls klp3_0 klp3_1 xlp3_0 xlp3_1 xlp3_2 hn  hP hD hS hl
      have r4 : 0 ≤ ((V 0 60)).toInt ∧ ((V 0 60)).toInt ≤ 300 := hMV 0 60
      have r5 : 0 ≤ ((V 63 (Int32.toNatClampNeg y2))).toInt ∧ ((V 63 (Int32.toNatClampNeg y2))).toInt ≤ 2 := hMV 63 (Int32.toNatClampNeg y2)
      refine lv_iload_n hx hb dX12_latestIn_4 rfl (lv_at hl 0 rfl) ?_
      refine lv_aload_n hx hb dX12_latestIn_5 rfl (lv_at hl 2 rfl) ?_
      refine va_get (D := D) (ci := 12) (v := .int (V 0 60)) (C := RX12) (T := TX12) (N := 100) hx hb hg inX12 hown hK hP 0 rfl rfl 60 (by decide) (hg _ w1770) (fun _ h9 => h9) rfl dX12_latestIn_6 ?_
      refine lv_icmp_ge (tgt := 63) hx hb dX12_latestIn_9 (by decide) (fun c6 => ?_) (fun c6 => ?_)
      · skip
        have f7 : ((V 0 60)).toInt ≤ y1.toInt := b_le rfl rfl c6
        refine lv_iload_n hx hb dX12_latestIn_63 rfl (lv_at hl 1 rfl) ?_
        exact W.iret (v := y2) hx hb hr (fun t ht hW => ⟨⟨y2, (), rfl, ⟨(show (-1) ≤ y2.toInt ∧ y2.toInt ≤ 299 from by first | omega | ((try (have i_xlp3_2 := Imp.go xlp3_2 (by omega))); omega)), (show y2.toInt < (V 0 60).toInt from by first | omega | ((try (have i_xlp3_2 := Imp.go xlp3_2 (by omega))); omega)), xlp3_2⟩, by rw [ht]; exact hP, va_K.moved hW.alike hK, hD⟩, hS.F ht⟩) hS.2.2 dX12_latestIn_64
      · skip
        have f8 : y1.toInt < ((V 0 60)).toInt := b_nle rfl rfl c6
        refine lv_aload_n hx hb dX12_latestIn_12 rfl (lv_at hl 2 rfl) ?_
        refine va_get (D := D) (ci := 12) (v := .ref (ad 63)) (C := RX12) (T := TX12) (N := 100) hx hb hg inX12 hown hK hP 0 rfl rfl 63 (by decide) (hg _ w1773) (fun _ h9 => h9) rfl dX12_latestIn_13 ?_
        refine lv_iload_n hx hb dX12_latestIn_16 rfl (lv_at hl 0 rfl) ?_
        refine va_iald (D := D) (i := y1) hx hb hK hP 48 47 rfl rfl (i_in (a := y1.toInt) rfl (by first | omega | ((try (have i_xlp3_2 := Imp.go xlp3_2 (by omega))); omega))) dX12_latestIn_17 ?_
        have r9 : 0 ≤ ((V 63 (Int32.toNatClampNeg y1))).toInt ∧ ((V 63 (Int32.toNatClampNeg y1))).toInt ≤ 2 := hMV 63 (Int32.toNatClampNeg y1)
        refine lv_iconst (v := 1) hx hb dX12_latestIn_18 (by decide) ?_
        refine lv_icmp_ne (tgt := 55) hx hb dX12_latestIn_19 (by decide) (fun c10 => ?_) (fun c10 => ?_)
        · skip
          have f11 : ((V 63 (Int32.toNatClampNeg y1))).toInt ≠ 1 := b_neq rfl (by decide) c10
          refine lv_iload_n hx hb dX12_latestIn_55 rfl (lv_at hl 1 rfl) ?_
          refine lv_istore_n (lv' := [(2, .int y2), (3, .int y1), (0, .ref (ad 0)), (1, .int p0)]) hx hb dX12_latestIn_56 rfl hl (by decide) rfl (fun ls hl => ?_)
          obtain ⟨z12, ez12⟩ : ∃ y : Int32, y = y1 + 1 := ⟨_, rfl⟩
          have hz12 : z12.toInt = y1.toInt + 1 := i_add ez12 rfl (by decide) (by omega)
          refine lv_iinc (v := z12) (lv' := [(3, .int z12), (2, .int y2), (0, .ref (ad 0)), (1, .int p0)]) hx hb dX12_latestIn_57 hl (k := 1) rfl (by rw [ez12]; rfl) (by decide) rfl (fun ls hl => ?_)
          refine lv_goto (tgt := 4) hx hb dX12_latestIn_60 (by decide) ?_
          exact ihlp3 z12 y2 H locs ls (by first | omega | ((try (have i_xlp3_2 := Imp.go xlp3_2 (by omega))); omega)) (by first | omega | ((try (have i_xlp3_2 := Imp.go xlp3_2 (by omega))); omega)) (show z12.toInt ≤ (V 0 60).toInt from by first | omega | ((try (have i_xlp3_2 := Imp.go xlp3_2 (by omega))); omega)) (show y2.toInt < (V 0 60).toInt from by first | omega | ((try (have i_xlp3_2 := Imp.go xlp3_2 (by omega))); omega)) (Imp.mk (fun hp => have hp : 0 ≤ y2.toInt := hp; (show (V 63 (Int32.toNatClampNeg y2)).toInt = 1 from by first | omega | ((try (have i_xlp3_2 := Imp.go xlp3_2 (by omega))); omega)))) (by first | omega | ((try (have i_xlp3_2 := Imp.go xlp3_2 (by omega))); omega)) hP hD hS (lv_sub hl [0, 1, 2, 3] rfl)
        · skip
          have f13 : ((V 63 (Int32.toNatClampNeg y1))).toInt = 1 := b_eq rfl (by decide) c10
          refine lv_aload_n hx hb dX12_latestIn_22 rfl (lv_at hl 2 rfl) ?_
          refine va_get (D := D) (ci := 12) (v := .ref (ad 62)) (C := RX12) (T := TX12) (N := 100) hx hb hg inX12 hown hK hP 0 rfl rfl 62 (by decide) (hg _ w1772) (fun _ h9 => h9) rfl dX12_latestIn_23 ?_
          refine lv_iload_n hx hb dX12_latestIn_26 rfl (lv_at hl 0 rfl) ?_
          refine va_iald (D := D) (i := y1) hx hb hK hP 47 46 rfl rfl (i_in (a := y1.toInt) rfl (by first | omega | ((try (have i_xlp3_2 := Imp.go xlp3_2 (by omega))); omega))) dX12_latestIn_27 ?_
          have r14 : 0 ≤ ((V 62 (Int32.toNatClampNeg y1))).toInt ∧ ((V 62 (Int32.toNatClampNeg y1))).toInt ≤ 39 := hMV 62 (Int32.toNatClampNeg y1)
          refine lv_iload_n hx hb dX12_latestIn_28 rfl (lv_at hl 3 rfl) ?_
          refine lv_icmp_ne (tgt := 55) hx hb dX12_latestIn_29 (by decide) (fun c15 => ?_) (fun c15 => ?_)
          · skip
            have f16 : ((V 62 (Int32.toNatClampNeg y1))).toInt ≠ p0.toInt := b_neq rfl rfl c15
            refine lv_iload_n hx hb dX12_latestIn_55 rfl (lv_at hl 1 rfl) ?_
            refine lv_istore_n (lv' := [(2, .int y2), (3, .int y1), (0, .ref (ad 0)), (1, .int p0)]) hx hb dX12_latestIn_56 rfl hl (by decide) rfl (fun ls hl => ?_)
            obtain ⟨z17, ez17⟩ : ∃ y : Int32, y = y1 + 1 := ⟨_, rfl⟩
            have hz17 : z17.toInt = y1.toInt + 1 := i_add ez17 rfl (by decide) (by omega)
            refine lv_iinc (v := z17) (lv' := [(3, .int z17), (2, .int y2), (0, .ref (ad 0)), (1, .int p0)]) hx hb dX12_latestIn_57 hl (k := 1) rfl (by rw [ez17]; rfl) (by decide) rfl (fun ls hl => ?_)
            refine lv_goto (tgt := 4) hx hb dX12_latestIn_60 (by decide) ?_
            exact ihlp3 z17 y2 H locs ls (by first | omega | ((try (have i_xlp3_2 := Imp.go xlp3_2 (by omega))); omega)) (by first | omega | ((try (have i_xlp3_2 := Imp.go xlp3_2 (by omega))); omega)) (show z17.toInt ≤ (V 0 60).toInt from by first | omega | ((try (have i_xlp3_2 := Imp.go xlp3_2 (by omega))); omega)) (show y2.toInt < (V 0 60).toInt from by first | omega | ((try (have i_xlp3_2 := Imp.go xlp3_2 (by omega))); omega)) (Imp.mk (fun hp => have hp : 0 ≤ y2.toInt := hp; (show (V 63 (Int32.toNatClampNeg y2)).toInt = 1 from by first | omega | ((try (have i_xlp3_2 := Imp.go xlp3_2 (by omega))); omega)))) (by first | omega | ((try (have i_xlp3_2 := Imp.go xlp3_2 (by omega))); omega)) hP hD hS (lv_sub hl [0, 1, 2, 3] rfl)
          · skip
            have f18 : ((V 62 (Int32.toNatClampNeg y1))).toInt = p0.toInt := b_eq rfl rfl c15
            refine lv_iload_n hx hb dX12_latestIn_32 rfl (lv_at hl 1 rfl) ?_
            refine lv_if_lt (tgt := 51) hx hb dX12_latestIn_33 (by decide) (fun c19 => ?_) (fun c19 => ?_)
            · skip
              have f20 : y2.toInt < 0 := b_lt rfl (by decide) c19
              refine lv_iload_n hx hb dX12_latestIn_51 rfl (lv_at hl 0 rfl) ?_
              refine lv_goto (tgt := 56) hx hb dX12_latestIn_52 (by decide) ?_
              refine lv_istore_n (lv' := [(2, .int y1), (3, .int y1), (0, .ref (ad 0)), (1, .int p0)]) hx hb dX12_latestIn_56 rfl hl (by decide) rfl (fun ls hl => ?_)
              obtain ⟨z21, ez21⟩ : ∃ y : Int32, y = y1 + 1 := ⟨_, rfl⟩
              have hz21 : z21.toInt = y1.toInt + 1 := i_add ez21 rfl (by decide) (by omega)
              refine lv_iinc (v := z21) (lv' := [(3, .int z21), (2, .int y1), (0, .ref (ad 0)), (1, .int p0)]) hx hb dX12_latestIn_57 hl (k := 1) rfl (by rw [ez21]; rfl) (by decide) rfl (fun ls hl => ?_)
              refine lv_goto (tgt := 4) hx hb dX12_latestIn_60 (by decide) ?_
              exact ihlp3 z21 y1 H locs ls (by first | omega | ((try (have i_xlp3_2 := Imp.go xlp3_2 (by omega))); omega)) (by first | omega | ((try (have i_xlp3_2 := Imp.go xlp3_2 (by omega))); omega)) (show z21.toInt ≤ (V 0 60).toInt from by first | omega | ((try (have i_xlp3_2 := Imp.go xlp3_2 (by omega))); omega)) (show y1.toInt < (V 0 60).toInt from by first | omega | ((try (have i_xlp3_2 := Imp.go xlp3_2 (by omega))); omega)) (Imp.mk (fun hp => have hp : 0 ≤ y1.toInt := hp; (show (V 63 (Int32.toNatClampNeg y1)).toInt = 1 from by first | omega | ((try (have i_xlp3_2 := Imp.go xlp3_2 (by omega))); omega)))) (by first | omega | ((try (have i_xlp3_2 := Imp.go xlp3_2 (by omega))); omega)) hP hD hS (lv_sub hl [0, 1, 2, 3] rfl)
            · skip
              have f22 : 0 ≤ y2.toInt := b_nlt rfl (by decide) c19
              refine lv_aload_n hx hb dX12_latestIn_36 rfl (lv_at hl 2 rfl) ?_
              refine va_get (D := D) (ci := 12) (v := .ref (ad 64)) (C := RX12) (T := TX12) (N := 100) hx hb hg inX12 hown hK hP 0 rfl rfl 64 (by decide) (hg _ w1774) (fun _ h9 => h9) rfl dX12_latestIn_37 ?_
              refine lv_iload_n hx hb dX12_latestIn_40 rfl (lv_at hl 0 rfl) ?_
              refine va_iald (D := D) (i := y1) hx hb hK hP 49 48 rfl rfl (i_in (a := y1.toInt) rfl (by first | omega | ((try (have i_xlp3_2 := Imp.go xlp3_2 (by omega))); omega))) dX12_latestIn_41 ?_
              refine lv_aload_n hx hb dX12_latestIn_42 rfl (lv_at hl 2 rfl) ?_
              refine va_get (D := D) (ci := 12) (v := .ref (ad 64)) (C := RX12) (T := TX12) (N := 100) hx hb hg inX12 hown hK hP 0 rfl rfl 64 (by decide) (hg _ w1774) (fun _ h9 => h9) rfl dX12_latestIn_43 ?_
              refine lv_iload_n hx hb dX12_latestIn_46 rfl (lv_at hl 1 rfl) ?_
              refine va_iald (D := D) (i := y2) hx hb hK hP 49 48 rfl rfl (i_in (a := y2.toInt) rfl (by first | omega | ((try (have i_xlp3_2 := Imp.go xlp3_2 (by omega))); omega))) dX12_latestIn_47 ?_
              refine lv_icmp_le (tgt := 55) hx hb dX12_latestIn_48 (by decide) (fun c23 => ?_) (fun c23 => ?_)
              · skip
                have f24 : ((V 64 (Int32.toNatClampNeg y1))).toInt ≤ ((V 64 (Int32.toNatClampNeg y2))).toInt := b_le rfl rfl c23
                refine lv_iload_n hx hb dX12_latestIn_55 rfl (lv_at hl 1 rfl) ?_
                refine lv_istore_n (lv' := [(2, .int y2), (3, .int y1), (0, .ref (ad 0)), (1, .int p0)]) hx hb dX12_latestIn_56 rfl hl (by decide) rfl (fun ls hl => ?_)
                obtain ⟨z25, ez25⟩ : ∃ y : Int32, y = y1 + 1 := ⟨_, rfl⟩
                have hz25 : z25.toInt = y1.toInt + 1 := i_add ez25 rfl (by decide) (by omega)
                refine lv_iinc (v := z25) (lv' := [(3, .int z25), (2, .int y2), (0, .ref (ad 0)), (1, .int p0)]) hx hb dX12_latestIn_57 hl (k := 1) rfl (by rw [ez25]; rfl) (by decide) rfl (fun ls hl => ?_)
                refine lv_goto (tgt := 4) hx hb dX12_latestIn_60 (by decide) ?_
                exact ihlp3 z25 y2 H locs ls (by first | omega | ((try (have i_xlp3_2 := Imp.go xlp3_2 (by omega))); omega)) (by first | omega | ((try (have i_xlp3_2 := Imp.go xlp3_2 (by omega))); omega)) (show z25.toInt ≤ (V 0 60).toInt from by first | omega | ((try (have i_xlp3_2 := Imp.go xlp3_2 (by omega))); omega)) (show y2.toInt < (V 0 60).toInt from by first | omega | ((try (have i_xlp3_2 := Imp.go xlp3_2 (by omega))); omega)) (Imp.mk (fun hp => have hp : 0 ≤ y2.toInt := hp; (show (V 63 (Int32.toNatClampNeg y2)).toInt = 1 from by first | omega | ((try (have i_xlp3_2 := Imp.go xlp3_2 (by omega))); omega)))) (by first | omega | ((try (have i_xlp3_2 := Imp.go xlp3_2 (by omega))); omega)) hP hD hS (lv_sub hl [0, 1, 2, 3] rfl)
              · skip
                have f26 : ((V 64 (Int32.toNatClampNeg y2))).toInt < ((V 64 (Int32.toNatClampNeg y1))).toInt := b_nle rfl rfl c23
                refine lv_iload_n hx hb dX12_latestIn_51 rfl (lv_at hl 0 rfl) ?_
                refine lv_goto (tgt := 56) hx hb dX12_latestIn_52 (by decide) ?_
                refine lv_istore_n (lv' := [(2, .int y1), (3, .int y1), (0, .ref (ad 0)), (1, .int p0)]) hx hb dX12_latestIn_56 rfl hl (by decide) rfl (fun ls hl => ?_)
                obtain ⟨z27, ez27⟩ : ∃ y : Int32, y = y1 + 1 := ⟨_, rfl⟩
                have hz27 : z27.toInt = y1.toInt + 1 := i_add ez27 rfl (by decide) (by omega)
                refine lv_iinc (v := z27) (lv' := [(3, .int z27), (2, .int y1), (0, .ref (ad 0)), (1, .int p0)]) hx hb dX12_latestIn_57 hl (k := 1) rfl (by rw [ez27]; rfl) (by decide) rfl (fun ls hl => ?_)
                refine lv_goto (tgt := 4) hx hb dX12_latestIn_60 (by decide) ?_
                exact ihlp3 z27 y1 H locs ls (by first | omega | ((try (have i_xlp3_2 := Imp.go xlp3_2 (by omega))); omega)) (by first | omega | ((try (have i_xlp3_2 := Imp.go xlp3_2 (by omega))); omega)) (show z27.toInt ≤ (V 0 60).toInt from by first | omega | ((try (have i_xlp3_2 := Imp.go xlp3_2 (by omega))); omega)) (show y1.toInt < (V 0 60).toInt from by first | omega | ((try (have i_xlp3_2 := Imp.go xlp3_2 (by omega))); omega)) (Imp.mk (fun hp => have hp : 0 ≤ y1.toInt := hp; (show (V 63 (Int32.toNatClampNeg y1)).toInt = 1 from by first | omega | ((try (have i_xlp3_2 := Imp.go xlp3_2 (by omega))); omega)))) (by first | omega | ((try (have i_xlp3_2 := Imp.go xlp3_2 (by omega))); omega)) hP hD hS (lv_sub hl [0, 1, 2, 3] rfl)
  have r28 : Int32.toInt 0 = 0 := by decide
  have r29 : Int32.toInt (-1) = (-1) := by decide
  have r30 : 0 ≤ ((V 0 60)).toInt ∧ ((V 0 60)).toInt ≤ 300 := hMV 0 60
  have r31 : 0 ≤ ((V 63 (Int32.toNatClampNeg (-1)))).toInt ∧ ((V 63 (Int32.toNatClampNeg (-1)))).toInt ≤ 2 := hMV 63 (Int32.toNatClampNeg (-1))
  exact lp3 (((V 0 60).toInt - (Int32.toInt 0) + 1 : Int).toNat) 0 (-1) H locs ls (by decide) (by decide) (show (Int32.toInt 0) ≤ (V 0 60).toInt from by omega) (show (Int32.toInt (-1)) < (V 0 60).toInt from by omega) (Imp.mk (fun hp => have hp : 0 ≤ (Int32.toInt (-1)) := hp; (show (V 63 (Int32.toNatClampNeg (-1))).toInt = 1 from by omega))) (by omega) hP hD hS (lv_sub hl [0, 1, 2, 3] rfl)
abbrev q_s_closeAll (D : va_G) (ks : KS) (ad : Nat → Nat) (kk : Nat → ClassId) (V : Vf) (L : Lf) (p0 : Int32) (A : Nat → Prop) : Array Value → State → Outcome → State → Prop := va_Qi (fun (r : Int32) (u : Vf × Lf) => rgd bM u.1 ∧ agr [(0, 60), (0, 65), (0, 68), (0, 69), (0, 73), (0, 76), (0, 90), (0, 91), (0, 92), (0, 93), (0, 95), (0, 96), (0, 98), (0, 99)] [56, 59, 61, 62, 63, 64, 66, 67, 74, 75, 77, 78, 79, 80, 94, 97] V u.1 ∧ u.2 = L ∧ ((u.1 0 93).toInt = (V 0 93).toInt) ∧ ((u.1 0 98).toInt = (V 0 98).toInt) ∧ ((u.1 0 65).toInt ≤ (u.1 0 60).toInt) ∧ ((u.1 0 73).toInt - (u.1 0 65).toInt + (mu u.1 : Int) ≤ (V 0 73).toInt - (V 0 65).toInt + (mu V : Int)) ∧ ((u.1 0 76).toInt - (u.1 0 69).toInt - (u.1 0 73).toInt ≤ (V 0 76).toInt - (V 0 69).toInt - (V 0 73).toInt) ∧ (RT0 u.1)) (fun u t => gq D A (mw ad kk ks.1 u.1 u.2) (mty kk) t) A
def K_s_closeAll (l : Launch) (D : va_G) (ks : KS) (d3 : Nat) : Prop := ∀ (sz : Nat) (ad : Nat → Nat) (kk : Nat → ClassId) (V : Vf) (L : Lf) (p0 : Int32) (hMV : rgd bM V) (rg_p0 : 0 ≤ p0.toInt ∧ p0.toInt ≤ 39) (r0 : RT0 V) (n1 : (V 0 65).toInt ≤ (V 0 60).toInt) (n3 : (V 0 73).toInt - (V 0 65).toInt + (mu V : Int) ≤ 998000) (n4 : (V 0 76).toInt - (V 0 69).toInt - (V 0 73).toInt ≤ 1000000000) (m5 : (V 0 98).toInt = 0) (m6 : (V 0 93).toInt = 0) (c1 : 2 ≤ (d3 : Int) ∨ ((V 57 (Int32.toNatClampNeg p0)).toInt ≠ 0 ∧ (1 ≤ (d3 : Int) ∨ (V 57 (Int32.toNatClampNeg p0)).toInt ≠ 1))) , Met l yX12_closeAll (Cond.code yX12_closeAll cX12_closeAll 5 (some .int) :: GW) (rK2 (2 * d3 + 1616) (40 * d3 + 40600)) (va_Pc [.ref (ad 0), .int p0] (gp D ks (mw ad kk ks.1 V L) (mty kk) sz)) (q_s_closeAll D ks ad kk V L p0 (va_A (mw ad kk ks.1 V L) sz)) 0 0 (va_A (mw ad kk ks.1 V L) sz)
set_option maxHeartbeats 4000000 in
set_option maxRecDepth 100000 in
theorem s_closeAll {l : Launch} {D : va_G} {ks : KS} {d3 : Nat} (hk_s_closeAll : ∀ d9, d3 = d9 + 1 → K_s_closeAll l D ks d9) : K_s_closeAll l D ks d3 := by
  intro sz ad kk V L p0 hMV rg_p0 r0 n1 n3 n4 m5 m6 c1
  refine g_met (q_s_closeAll D ks ad kk V L p0) (by decide) (Nat.le_of_ble_eq_true rfl) ?_
  intro p e s m below meth c A ls H locs hx hb hr hml hown hg hlocks hin hnw hgk hP hK hD hS hA hl
  have hown : s.vm.findClass RX12 = some m.cls := hown
  have hl : lv_has ls 5 [(0, .ref (ad 0)), (1, .int p0)] := hl
  have hP : va_P D vwCl (mw ad kk ks.1 V L) H := hP
  have hD : va_D A (mw ad kk ks.1 V L) := hD
  have hK : va_K D vwCl (mty kk) s := hK
  have agV : agr [(0, 60), (0, 65), (0, 68), (0, 69), (0, 73), (0, 76), (0, 90), (0, 91), (0, 92), (0, 93), (0, 95), (0, 96), (0, 98), (0, 99)] [56, 59, 61, 62, 63, 64, 66, 67, 74, 75, 77, 78, 79, 80, 94, 97] V V := agr.rf
  have r1 : 0 ≤ ((V 0 65)).toInt ∧ ((V 0 65)).toInt ≤ 1000000 := hMV 0 65
  have r2 : 0 ≤ ((V 0 60)).toInt ∧ ((V 0 60)).toInt ≤ 300 := hMV 0 60
  have r3 : 0 ≤ ((V 0 73)).toInt ∧ ((V 0 73)).toInt ≤ 1000000 := hMV 0 73
  have r4 : 0 ≤ ((V 0 76)).toInt ∧ ((V 0 76)).toInt ≤ 2000000000 := hMV 0 76
  have r5 : 0 ≤ ((V 0 69)).toInt ∧ ((V 0 69)).toInt ≤ 3000 := hMV 0 69
  have r6 : 0 ≤ ((V 0 98)).toInt ∧ ((V 0 98)).toInt ≤ 20000 := hMV 0 98
  have r7 : 0 ≤ ((V 0 93)).toInt ∧ ((V 0 93)).toInt ≤ 10 := hMV 0 93
  refine lv_iconst (v := 0) hx hb dX12_closeAll_0 (by decide) ?_
  refine lv_istore_n (lv' := [(2, .int 0), (0, .ref (ad 0)), (1, .int p0)]) hx hb dX12_closeAll_1 rfl hl (by decide) rfl (fun ls hl => ?_)
  refine lv_aload_n hx hb dX12_closeAll_2 rfl (lv_at hl 1 rfl) ?_
  refine va_get (D := D) (ci := 12) (v := .int (V 0 55)) (C := RX12) (T := TX12) (N := 100) hx hb hg inX12 hown hK hP 0 rfl rfl 55 (by decide) (hg _ w1765) (fun _ h9 => h9) rfl dX12_closeAll_3 ?_
  have r8 : 1 ≤ ((V 0 55)).toInt ∧ ((V 0 55)).toInt ≤ 40 := hMV 0 55
  refine lv_iconst (v := 1) hx hb dX12_closeAll_6 (by decide) ?_
  refine lv_isub hx hb dX12_closeAll_7 ?_
  refine lv_topi (fun z9 ez9 => ?_)
  have hz9 : z9.toInt = ((V 0 55)).toInt - 1 := i_sub ez9 rfl (by decide) (by omega)
  refine lv_istore_n (lv' := [(3, .int z9), (2, .int 0), (0, .ref (ad 0)), (1, .int p0)]) hx hb dX12_closeAll_8 rfl hl (by decide) rfl (fun ls hl => ?_)
  have lp13 : ∀ (fulp13 : Nat) (y10 : Int32) (y11 : Int32) (V12 : Vf) (H : Heap) (locs : List Loc) (ls : Array Slot), 0 ≤ y10.toInt ∧ y10.toInt ≤ 39 → (V12 0 93).toInt = (V 0 93).toInt → (V12 0 98).toInt = (V 0 98).toInt → (V12 0 65).toInt ≤ (V12 0 60).toInt → (V12 0 73).toInt - (V12 0 65).toInt + (mu V12 : Int) ≤ (V 0 73).toInt - (V 0 65).toInt + (mu V : Int) → (V12 0 76).toInt - (V12 0 69).toInt - (V12 0 73).toInt ≤ (V 0 76).toInt - (V 0 69).toInt - (V 0 73).toInt → RT0 V12 → y10.toInt < (fulp13 : Int) → agr [(0, 60), (0, 65), (0, 68), (0, 69), (0, 73), (0, 76), (0, 90), (0, 91), (0, 92), (0, 93), (0, 95), (0, 96), (0, 98), (0, 99)] [56, 59, 61, 62, 63, 64, 66, 67, 74, 75, 77, 78, 79, 80, 94, 97] V V12 → rgd bM V12 → va_P D vwCl (mw ad kk ks.1 V12 L) H → va_D A (mw ad kk ks.1 V12 L) → va_S A s.heap H locs → lv_has ls 5 [(3, .int y10), (2, .int y11), (0, .ref (ad 0)), (1, .int p0)] → W p l e (rK2 (2 * d3 + 1616) (40 * d3 + 40600)) s m ([.ref (ad 0), .int p0] : List Value).toArray below meth c H locs 0 0 (MQ below (q_s_closeAll D ks ad kk V L p0 A) ([.ref (ad 0), .int p0] : List Value).toArray s 0 0 A) (F0 m 9 ls []) := by
    intro fulp13
    induction fulp13 with
    | zero =>
      intro y10 y11 V12 H locs ls klp13_0 xlp13_0 xlp13_1 xlp13_2 xlp13_3 xlp13_4 xlp13_5 hn ajV12 hMV12 hP hD hS hl
      exfalso; omega
    | succ fulp13 ihlp13 =>
      intro y10 y11 V12 H locs ls klp13_0 xlp13_0 xlp13_1 xlp13_2 xlp13_3 xlp13_4 xlp13_5 hn ajV12 hMV12 hP hD hS hl
      have agV12 : agr [(0, 60), (0, 65), (0, 68), (0, 69), (0, 73), (0, 76), (0, 90), (0, 91), (0, 92), (0, 93), (0, 95), (0, 96), (0, 98), (0, 99)] [56, 59, 61, 62, 63, 64, 66, 67, 74, 75, 77, 78, 79, 80, 94, 97] V V12 := agV.tr ajV12 (by decide) (by decide)
      have r14 : 0 ≤ ((V12 0 93)).toInt ∧ ((V12 0 93)).toInt ≤ 10 := hMV12 0 93
      have r15 : 0 ≤ ((V12 0 98)).toInt ∧ ((V12 0 98)).toInt ≤ 20000 := hMV12 0 98
      have r16 : 0 ≤ ((V12 0 65)).toInt ∧ ((V12 0 65)).toInt ≤ 1000000 := hMV12 0 65
      have r17 : 0 ≤ ((V12 0 60)).toInt ∧ ((V12 0 60)).toInt ≤ 300 := hMV12 0 60
      have r18 : 0 ≤ ((V12 0 73)).toInt ∧ ((V12 0 73)).toInt ≤ 1000000 := hMV12 0 73
      have r19 : 0 ≤ ((V12 0 76)).toInt ∧ ((V12 0 76)).toInt ≤ 2000000000 := hMV12 0 76
      have r20 : 0 ≤ ((V12 0 69)).toInt ∧ ((V12 0 69)).toInt ≤ 3000 := hMV12 0 69
      refine lv_iload_n hx hb dX12_closeAll_9 rfl (lv_at hl 0 rfl) ?_
      refine lv_if_le (tgt := 104) hx hb dX12_closeAll_10 (by decide) (fun c21 => ?_) (fun c21 => ?_)
      · skip
        have f22 : y10.toInt ≤ 0 := b_le rfl (by decide) c21
        refine lv_aload_n hx hb dX12_closeAll_104 rfl (lv_at hl 2 rfl) ?_
        refine lv_iload_n hx hb dX12_closeAll_105 rfl (lv_at hl 3 rfl) ?_
        refine gA_int (gA_runV (As := [.int p0]) (rest := []) (ci := 12) (q0 := 0) hx hb hml hown hg hP hD hK hS hA hnw hgk (s_latestIn2 l D ks H.size ad kk V12 L p0 hMV12 ) w2352 w2354 w154 w172 w2355 rfl rfl hdV_yX12_latestIn ⟨(by show (0) + 1 ≤ (2 * d3 + 1616); omega), (by show 8 + (4 + 11) + (0) ≤ (40 * d3 + 40600); omega)⟩ rfl hl.1 rfl (Nat.le_of_ble_eq_true rfl) dX12_closeAll_106 ⟨Nat.le_of_ble_eq_true rfl, Nat.le_of_ble_eq_true rfl⟩) hP hD hK hS hA (fun z23 u24 H locs w25 hP hD hK hS => ?_)
        obtain ⟨rgz23, t26, t27⟩ := w25
        have rgz23 : (-1) ≤ z23.toInt ∧ z23.toInt ≤ 299 := rgz23
        have t26 : z23.toInt < (V12 0 60).toInt := t26
        have t27 : Imp (0 ≤ z23.toInt) ((V12 63 (Int32.toNatClampNeg z23)).toInt = 1) := t27
        refine lv_istore_n (lv' := [(3, .int z23), (2, .int y11), (0, .ref (ad 0)), (1, .int p0)]) hx hb dX12_closeAll_109 rfl hl (by decide) rfl (fun ls hl => ?_)
        have lp31 : ∀ (fulp31 : Nat) (y28 : Int32) (y29 : Int32) (V30 : Vf) (H : Heap) (locs : List Loc) (ls : Array Slot), (-1) ≤ y28.toInt ∧ y28.toInt ≤ 299 → (V30 0 93).toInt = (V 0 93).toInt → (V30 0 98).toInt = (V 0 98).toInt → (V30 0 65).toInt ≤ (V30 0 60).toInt → (V30 0 73).toInt - (V30 0 65).toInt + (mu V30 : Int) ≤ (V 0 73).toInt - (V 0 65).toInt + (mu V : Int) → (V30 0 76).toInt - (V30 0 69).toInt - (V30 0 73).toInt ≤ (V 0 76).toInt - (V 0 69).toInt - (V 0 73).toInt → Imp (0 ≤ y28.toInt) ((V30 63 (Int32.toNatClampNeg y28)).toInt = 1) → y28.toInt < (V30 0 60).toInt → RT0 V30 → (mu V30 : Int) < (fulp31 : Int) → agr [(0, 60), (0, 65), (0, 68), (0, 69), (0, 73), (0, 76), (0, 90), (0, 91), (0, 92), (0, 93), (0, 95), (0, 96), (0, 98), (0, 99)] [59, 61, 62, 63, 64, 66, 67, 74, 75, 77, 78, 79, 80, 94, 97] V12 V30 → rgd bM V30 → va_P D vwCl (mw ad kk ks.1 V30 L) H → va_D A (mw ad kk ks.1 V30 L) → va_S A s.heap H locs → lv_has ls 5 [(3, .int y28), (2, .int y29), (0, .ref (ad 0)), (1, .int p0)] → W p l e (rK2 (2 * d3 + 1616) (40 * d3 + 40600)) s m ([.ref (ad 0), .int p0] : List Value).toArray below meth c H locs 0 0 (MQ below (q_s_closeAll D ks ad kk V L p0 A) ([.ref (ad 0), .int p0] : List Value).toArray s 0 0 A) (F0 m 110 ls []) := by
          intro fulp31
          induction fulp31 with
          | zero =>
            intro y28 y29 V30 H locs ls klp31_0 xlp31_0 xlp31_1 xlp31_2 xlp31_3 xlp31_4 xlp31_5 xlp31_6 xlp31_7 hn ajV30 hMV30 hP hD hS hl
            exfalso; omega
          | succ fulp31 ihlp31 =>
            intro y28 y29 V30 H locs ls klp31_0 xlp31_0 xlp31_1 xlp31_2 xlp31_3 xlp31_4 xlp31_5 xlp31_6 xlp31_7 hn ajV30 hMV30 hP hD hS hl
            have agV30 : agr [(0, 60), (0, 65), (0, 68), (0, 69), (0, 73), (0, 76), (0, 90), (0, 91), (0, 92), (0, 93), (0, 95), (0, 96), (0, 98), (0, 99)] [56, 59, 61, 62, 63, 64, 66, 67, 74, 75, 77, 78, 79, 80, 94, 97] V V30 := agV12.tr ajV30 (by decide) (by decide)
            have r32 : 0 ≤ ((V30 0 93)).toInt ∧ ((V30 0 93)).toInt ≤ 10 := hMV30 0 93
            have r33 : 0 ≤ ((V30 0 98)).toInt ∧ ((V30 0 98)).toInt ≤ 20000 := hMV30 0 98
            have r34 : 0 ≤ ((V30 0 65)).toInt ∧ ((V30 0 65)).toInt ≤ 1000000 := hMV30 0 65
            have r35 : 0 ≤ ((V30 0 60)).toInt ∧ ((V30 0 60)).toInt ≤ 300 := hMV30 0 60
            have r36 : 0 ≤ ((V30 0 73)).toInt ∧ ((V30 0 73)).toInt ≤ 1000000 := hMV30 0 73
            have r37 : 0 ≤ ((V30 0 76)).toInt ∧ ((V30 0 76)).toInt ≤ 2000000000 := hMV30 0 76
            have r38 : 0 ≤ ((V30 0 69)).toInt ∧ ((V30 0 69)).toInt ≤ 3000 := hMV30 0 69
            have r39 : 0 ≤ ((V30 63 (Int32.toNatClampNeg y28))).toInt ∧ ((V30 63 (Int32.toNatClampNeg y28))).toInt ≤ 2 := hMV30 63 (Int32.toNatClampNeg y28)
            refine lv_iload_n hx hb dX12_closeAll_110 rfl (lv_at hl 0 rfl) ?_
            refine lv_if_lt (tgt := 154) hx hb dX12_closeAll_111 (by decide) (fun c40 => ?_) (fun c40 => ?_)
            · skip
              have f41 : y28.toInt < 0 := b_lt rfl (by decide) c40
              refine lv_aload_n hx hb dX12_closeAll_154 rfl (lv_at hl 2 rfl) ?_
              refine va_get (D := D) (ci := 12) (v := .ref (ad 56)) (C := RX12) (T := TX12) (N := 100) hx hb hg inX12 hown hK hP 0 rfl rfl 56 (by decide) (hg _ w1766) (fun _ h9 => h9) rfl dX12_closeAll_155 ?_
              refine lv_iload_n hx hb dX12_closeAll_158 rfl (lv_at hl 3 rfl) ?_
              refine lv_iload_n hx hb dX12_closeAll_159 rfl (lv_at hl 3 rfl) ?_
              refine lv_if_ne (tgt := 167) hx hb dX12_closeAll_160 (by decide) (fun c42 => ?_) (fun c42 => ?_)
              · skip
                have f43 : p0.toInt ≠ 0 := b_neq rfl (by decide) c42
                refine lv_iconst (v := 0) hx hb dX12_closeAll_167 (by decide) ?_
                refine va_zast (D := D) (i := p0) (x := 0) hx hb hK hP hD hS 42 41 rfl rfl (i_in (a := p0.toInt) rfl (by first | omega | ((try (have i_xlp31_5 := Imp.go xlp31_5 (by omega))); (try (have i_t27 := Imp.go t27 (by omega))); (try (have i_r0 := Imp.go r0 (by omega))); (try (have i_r0 := Imp.go r0 (by omega))); (try (have i_t27 := Imp.go t27 (by omega))); (try (have i_xlp31_5 := Imp.go xlp31_5 (by omega))); omega))) dX12_closeAll_168 (fun H locs hP hD hS => ?_)
                obtain ⟨V44, hV44⟩ : ∃ z, z = up2 V30 56 (Int32.toNatClampNeg p0) (vp_nar .boolean 0) := ⟨_, rfl⟩
                have hP : va_P D vwCl (mw ad kk ks.1 V44 L) H := by rw [hV44]; exact hP
                have hD : va_D A (mw ad kk ks.1 V44 L) := by rw [hV44]; exact hD
                have hMV44 : rgd bM V44 := hMV30.put hV44 (nar_b _)
                have agV44 : agr [(0, 60), (0, 65), (0, 68), (0, 69), (0, 73), (0, 76), (0, 90), (0, 91), (0, 92), (0, 93), (0, 95), (0, 96), (0, 98), (0, 99)] [56, 59, 61, 62, 63, 64, 66, 67, 74, 75, 77, 78, 79, 80, 94, 97] V V44 := agV30.up hV44 rfl
                refine lv_iconst (v := 0) hx hb dX12_closeAll_169 (by decide) ?_
                refine lv_istore (lv' := [(4, .int 0), (3, .int y28), (2, .int y29), (0, .ref (ad 0)), (1, .int p0)]) hx hb dX12_closeAll_170 hl (by decide) rfl (fun ls hl => ?_)
                have lp47 : ∀ (fulp47 : Nat) (y45 : Int32) (V46 : Vf) (H : Heap) (locs : List Loc) (ls : Array Slot), 0 ≤ y45.toInt ∧ y45.toInt ≤ 24 → 24 - y45.toInt < (fulp47 : Int) → agr [] [59] V44 V46 → rgd bM V46 → va_P D vwCl (mw ad kk ks.1 V46 L) H → va_D A (mw ad kk ks.1 V46 L) → va_S A s.heap H locs → lv_has ls 5 [(4, .int y45), (3, .int y28), (2, .int y29), (0, .ref (ad 0)), (1, .int p0)] → W p l e (rK2 (2 * d3 + 1616) (40 * d3 + 40600)) s m ([.ref (ad 0), .int p0] : List Value).toArray below meth c H locs 0 0 (MQ below (q_s_closeAll D ks ad kk V L p0 A) ([.ref (ad 0), .int p0] : List Value).toArray s 0 0 A) (F0 m 172 ls []) := by
                  intro fulp47
                  induction fulp47 with
                  | zero =>
                    intro y45 V46 H locs ls klp47_0 hn ajV46 hMV46 hP hD hS hl
                    exfalso; omega
                  | succ fulp47 ihlp47 =>
                    intro y45 V46 H locs ls klp47_0 hn ajV46 hMV46 hP hD hS hl
                    have agV46 : agr [(0, 60), (0, 65), (0, 68), (0, 69), (0, 73), (0, 76), (0, 90), (0, 91), (0, 92), (0, 93), (0, 95), (0, 96), (0, 98), (0, 99)] [56, 59, 61, 62, 63, 64, 66, 67, 74, 75, 77, 78, 79, 80, 94, 97] V V46 := agV44.tr ajV46 (by decide) (by decide)
                    refine lv_iload hx hb dX12_closeAll_172 (lv_at hl 0 rfl) ?_
                    refine lv_bipush (v := 24) hx hb dX12_closeAll_174 (by decide) ?_
                    refine lv_icmp_ge (tgt := 198) hx hb dX12_closeAll_176 (by decide) (fun c48 => ?_) (fun c48 => ?_)
                    · skip
                      have f49 : 24 ≤ y45.toInt := b_le (by decide) rfl c48
                      refine lv_iload_n hx hb dX12_closeAll_198 rfl (lv_at hl 2 rfl) ?_
                      have pq50 : (V46 0 93).toInt = ((V30 0 93)).toInt := congrArg Int32.toInt ((ajV46 0 93 rfl).trans (up2_o hV44 (by decide)))
                      have pq51 : (V46 0 98).toInt = ((V30 0 98)).toInt := congrArg Int32.toInt ((ajV46 0 98 rfl).trans (up2_o hV44 (by decide)))
                      have pq52 : (V46 0 65).toInt = ((V30 0 65)).toInt := congrArg Int32.toInt ((ajV46 0 65 rfl).trans (up2_o hV44 (by decide)))
                      have pq53 : (V46 0 60).toInt = ((V30 0 60)).toInt := congrArg Int32.toInt ((ajV46 0 60 rfl).trans (up2_o hV44 (by decide)))
                      have mq54 : mu V46 = mu V30 := mu_ag (show agr [] [56, 59] V30 V46 from (agr.tr (agr.up agr.rf hV44 rfl) ajV46 (by decide) (by decide))) rfl (fun _ => rfl)
                      have pq55 : (V46 0 73).toInt = ((V30 0 73)).toInt := congrArg Int32.toInt ((ajV46 0 73 rfl).trans (up2_o hV44 (by decide)))
                      have pq56 : (V46 0 76).toInt = ((V30 0 76)).toInt := congrArg Int32.toInt ((ajV46 0 76 rfl).trans (up2_o hV44 (by decide)))
                      have pq57 : (V46 0 69).toInt = ((V30 0 69)).toInt := congrArg Int32.toInt ((ajV46 0 69 rfl).trans (up2_o hV44 (by decide)))
                      have pq58 : (V46 0 95).toInt = ((V30 0 95)).toInt := congrArg Int32.toInt ((ajV46 0 95 rfl).trans (up2_o hV44 (by decide)))
                      have r59 : 0 ≤ ((V30 0 95)).toInt ∧ ((V30 0 95)).toInt ≤ 300 := hMV30 0 95
                      have fz60 : (V30 0 95).toInt = 0 := xlp31_7.2.2.2.2
                      have r061 : RT0 V46 := RT0.ag xlp31_7 hMV30 (show agr [] [56, 59] V30 V46 from (agr.tr (agr.up agr.rf hV44 rfl) ajV46 (by decide) (by decide))) ⟨⟨rfl, fun _ => rfl, fun _ => rfl, fun _ => rfl, fun _ => rfl, fun _ => rfl, fun _ => rfl⟩, by decide, by decide, rfl, rfl, fun _ => rfl, fun _ => rfl, fun _ => rfl⟩ (c0k.ag (show agr [] [56, 59] V30 V46 from (agr.tr (agr.up agr.rf hV44 rfl) ajV46 (by decide) (by decide))) rfl) (by omega)
                      exact W.iret (v := y29) hx hb hr (fun t ht hW => ⟨⟨y29, (V46, L), rfl, ⟨hMV46, agV46, rfl, (show (V46 0 93).toInt = (V 0 93).toInt from by first | omega | ((try (have i_xlp31_5 := Imp.go xlp31_5 (by omega))); (try (have i_t27 := Imp.go t27 (by omega))); (try (have i_r0 := Imp.go r0 (by omega))); (try (have i_r0 := Imp.go r0 (by omega))); (try (have i_t27 := Imp.go t27 (by omega))); (try (have i_xlp31_5 := Imp.go xlp31_5 (by omega))); omega)), (show (V46 0 98).toInt = (V 0 98).toInt from by first | omega | ((try (have i_xlp31_5 := Imp.go xlp31_5 (by omega))); (try (have i_t27 := Imp.go t27 (by omega))); (try (have i_r0 := Imp.go r0 (by omega))); (try (have i_r0 := Imp.go r0 (by omega))); (try (have i_t27 := Imp.go t27 (by omega))); (try (have i_xlp31_5 := Imp.go xlp31_5 (by omega))); omega)), (show (V46 0 65).toInt ≤ (V46 0 60).toInt from by first | omega | ((try (have i_xlp31_5 := Imp.go xlp31_5 (by omega))); (try (have i_t27 := Imp.go t27 (by omega))); (try (have i_r0 := Imp.go r0 (by omega))); (try (have i_r0 := Imp.go r0 (by omega))); (try (have i_t27 := Imp.go t27 (by omega))); (try (have i_xlp31_5 := Imp.go xlp31_5 (by omega))); omega)), (show (V46 0 73).toInt - (V46 0 65).toInt + (mu V46 : Int) ≤ (V 0 73).toInt - (V 0 65).toInt + (mu V : Int) from by first | omega | ((try (have i_xlp31_5 := Imp.go xlp31_5 (by omega))); (try (have i_t27 := Imp.go t27 (by omega))); (try (have i_r0 := Imp.go r0 (by omega))); (try (have i_r0 := Imp.go r0 (by omega))); (try (have i_t27 := Imp.go t27 (by omega))); (try (have i_xlp31_5 := Imp.go xlp31_5 (by omega))); omega)), (show (V46 0 76).toInt - (V46 0 69).toInt - (V46 0 73).toInt ≤ (V 0 76).toInt - (V 0 69).toInt - (V 0 73).toInt from by first | omega | ((try (have i_xlp31_5 := Imp.go xlp31_5 (by omega))); (try (have i_t27 := Imp.go t27 (by omega))); (try (have i_r0 := Imp.go r0 (by omega))); (try (have i_r0 := Imp.go r0 (by omega))); (try (have i_t27 := Imp.go t27 (by omega))); (try (have i_xlp31_5 := Imp.go xlp31_5 (by omega))); omega)), r061⟩, by rw [ht]; exact hP, va_K.moved hW.alike hK, hD⟩, hS.F ht⟩) hS.2.2 dX12_closeAll_199
                    · skip
                      have f62 : y45.toInt < 24 := b_nle (by decide) rfl c48
                      refine lv_aload_n hx hb dX12_closeAll_179 rfl (lv_at hl 3 rfl) ?_
                      refine va_get (D := D) (ci := 12) (v := .ref (ad 59)) (C := RX12) (T := TX12) (N := 100) hx hb hg inX12 hown hK hP 0 rfl rfl 59 (by decide) (hg _ w1769) (fun _ h9 => h9) rfl dX12_closeAll_180 ?_
                      refine lv_bipush (v := 24) hx hb dX12_closeAll_183 (by decide) ?_
                      refine lv_iload_n hx hb dX12_closeAll_185 rfl (lv_at hl 4 rfl) ?_
                      refine lv_imul hx hb dX12_closeAll_186 ?_
                      refine lv_topi (fun z63 ez63 => ?_)
                      have hz63 : z63.toInt = 24 * p0.toInt := i_mul ez63 (by decide) rfl (by omega)
                      refine lv_iload hx hb dX12_closeAll_187 (lv_at hl 0 rfl) ?_
                      refine lv_iadd hx hb dX12_closeAll_189 ?_
                      refine lv_topi (fun z64 ez64 => ?_)
                      have hz64 : z64.toInt = z63.toInt + y45.toInt := i_add ez64 rfl rfl (by omega)
                      refine lv_iconst (v := 0) hx hb dX12_closeAll_190 (by decide) ?_
                      refine va_zast (D := D) (i := z64) (x := 0) hx hb hK hP hD hS 45 44 rfl rfl (i_in (a := z64.toInt) rfl (by first | omega | ((try (have i_xlp31_5 := Imp.go xlp31_5 (by omega))); (try (have i_t27 := Imp.go t27 (by omega))); (try (have i_r0 := Imp.go r0 (by omega))); (try (have i_r0 := Imp.go r0 (by omega))); (try (have i_t27 := Imp.go t27 (by omega))); (try (have i_xlp31_5 := Imp.go xlp31_5 (by omega))); omega))) dX12_closeAll_191 (fun H locs hP hD hS => ?_)
                      obtain ⟨V65, hV65⟩ : ∃ z, z = up2 V46 59 (Int32.toNatClampNeg z64) (vp_nar .boolean 0) := ⟨_, rfl⟩
                      have hP : va_P D vwCl (mw ad kk ks.1 V65 L) H := by rw [hV65]; exact hP
                      have hD : va_D A (mw ad kk ks.1 V65 L) := by rw [hV65]; exact hD
                      have hMV65 : rgd bM V65 := hMV46.put hV65 (nar_b _)
                      have agV65 : agr [(0, 60), (0, 65), (0, 68), (0, 69), (0, 73), (0, 76), (0, 90), (0, 91), (0, 92), (0, 93), (0, 95), (0, 96), (0, 98), (0, 99)] [56, 59, 61, 62, 63, 64, 66, 67, 74, 75, 77, 78, 79, 80, 94, 97] V V65 := agV46.up hV65 rfl
                      obtain ⟨z66, ez66⟩ : ∃ y : Int32, y = y45 + 1 := ⟨_, rfl⟩
                      have hz66 : z66.toInt = y45.toInt + 1 := i_add ez66 rfl (by decide) (by omega)
                      refine lv_iinc (v := z66) (lv' := [(4, .int z66), (3, .int y28), (2, .int y29), (0, .ref (ad 0)), (1, .int p0)]) hx hb dX12_closeAll_192 hl (k := 0) rfl (by rw [ez66]; rfl) (by decide) rfl (fun ls hl => ?_)
                      refine lv_goto (tgt := 172) hx hb dX12_closeAll_195 (by decide) ?_
                      exact ihlp47 z66 V65 H locs ls (by first | omega | ((try (have i_xlp31_5 := Imp.go xlp31_5 (by omega))); (try (have i_t27 := Imp.go t27 (by omega))); (try (have i_r0 := Imp.go r0 (by omega))); (try (have i_r0 := Imp.go r0 (by omega))); (try (have i_t27 := Imp.go t27 (by omega))); (try (have i_xlp31_5 := Imp.go xlp31_5 (by omega))); omega)) (by first | omega | ((try (have i_xlp31_5 := Imp.go xlp31_5 (by omega))); (try (have i_t27 := Imp.go t27 (by omega))); (try (have i_r0 := Imp.go r0 (by omega))); (try (have i_r0 := Imp.go r0 (by omega))); (try (have i_t27 := Imp.go t27 (by omega))); (try (have i_xlp31_5 := Imp.go xlp31_5 (by omega))); omega)) (agr.up (agr.tr agr.rf ajV46 (by decide) (by decide)) hV65 rfl) hMV65 hP hD hS (lv_sub hl [0, 1, 2, 3, 4] rfl)
                have r67 : Int32.toInt 0 = 0 := by decide
                exact lp47 ((24 - (Int32.toInt 0) + 1 : Int).toNat) 0 V44 H locs ls (by decide) (by first | omega | ((try (have i_xlp31_5 := Imp.go xlp31_5 (by omega))); (try (have i_t27 := Imp.go t27 (by omega))); (try (have i_r0 := Imp.go r0 (by omega))); (try (have i_r0 := Imp.go r0 (by omega))); (try (have i_t27 := Imp.go t27 (by omega))); (try (have i_xlp31_5 := Imp.go xlp31_5 (by omega))); omega)) agr.rf hMV44 hP hD hS (lv_sub hl [0, 1, 2, 3, 4] rfl)
              · skip
                have f68 : p0.toInt = 0 := b_eq rfl (by decide) c42
                refine lv_iconst (v := 1) hx hb dX12_closeAll_163 (by decide) ?_
                refine lv_goto (tgt := 168) hx hb dX12_closeAll_164 (by decide) ?_
                refine va_zast (D := D) (i := p0) (x := 1) hx hb hK hP hD hS 42 41 rfl rfl (i_in (a := p0.toInt) rfl (by first | omega | ((try (have i_xlp31_5 := Imp.go xlp31_5 (by omega))); (try (have i_t27 := Imp.go t27 (by omega))); (try (have i_r0 := Imp.go r0 (by omega))); (try (have i_r0 := Imp.go r0 (by omega))); (try (have i_t27 := Imp.go t27 (by omega))); (try (have i_xlp31_5 := Imp.go xlp31_5 (by omega))); omega))) dX12_closeAll_168 (fun H locs hP hD hS => ?_)
                obtain ⟨V69, hV69⟩ : ∃ z, z = up2 V30 56 (Int32.toNatClampNeg p0) (vp_nar .boolean 1) := ⟨_, rfl⟩
                have hP : va_P D vwCl (mw ad kk ks.1 V69 L) H := by rw [hV69]; exact hP
                have hD : va_D A (mw ad kk ks.1 V69 L) := by rw [hV69]; exact hD
                have hMV69 : rgd bM V69 := hMV30.put hV69 (nar_b _)
                have agV69 : agr [(0, 60), (0, 65), (0, 68), (0, 69), (0, 73), (0, 76), (0, 90), (0, 91), (0, 92), (0, 93), (0, 95), (0, 96), (0, 98), (0, 99)] [56, 59, 61, 62, 63, 64, 66, 67, 74, 75, 77, 78, 79, 80, 94, 97] V V69 := agV30.up hV69 rfl
                refine lv_iconst (v := 0) hx hb dX12_closeAll_169 (by decide) ?_
                refine lv_istore (lv' := [(4, .int 0), (3, .int y28), (2, .int y29), (0, .ref (ad 0)), (1, .int p0)]) hx hb dX12_closeAll_170 hl (by decide) rfl (fun ls hl => ?_)
                have lp72 : ∀ (fulp72 : Nat) (y70 : Int32) (V71 : Vf) (H : Heap) (locs : List Loc) (ls : Array Slot), 0 ≤ y70.toInt ∧ y70.toInt ≤ 24 → 24 - y70.toInt < (fulp72 : Int) → agr [] [59] V69 V71 → rgd bM V71 → va_P D vwCl (mw ad kk ks.1 V71 L) H → va_D A (mw ad kk ks.1 V71 L) → va_S A s.heap H locs → lv_has ls 5 [(4, .int y70), (3, .int y28), (2, .int y29), (0, .ref (ad 0)), (1, .int p0)] → W p l e (rK2 (2 * d3 + 1616) (40 * d3 + 40600)) s m ([.ref (ad 0), .int p0] : List Value).toArray below meth c H locs 0 0 (MQ below (q_s_closeAll D ks ad kk V L p0 A) ([.ref (ad 0), .int p0] : List Value).toArray s 0 0 A) (F0 m 172 ls []) := by
                  intro fulp72
                  induction fulp72 with
                  | zero =>
                    intro y70 V71 H locs ls klp72_0 hn ajV71 hMV71 hP hD hS hl
                    exfalso; omega
                  | succ fulp72 ihlp72 =>
                    intro y70 V71 H locs ls klp72_0 hn ajV71 hMV71 hP hD hS hl
                    have agV71 : agr [(0, 60), (0, 65), (0, 68), (0, 69), (0, 73), (0, 76), (0, 90), (0, 91), (0, 92), (0, 93), (0, 95), (0, 96), (0, 98), (0, 99)] [56, 59, 61, 62, 63, 64, 66, 67, 74, 75, 77, 78, 79, 80, 94, 97] V V71 := agV69.tr ajV71 (by decide) (by decide)
                    refine lv_iload hx hb dX12_closeAll_172 (lv_at hl 0 rfl) ?_
                    refine lv_bipush (v := 24) hx hb dX12_closeAll_174 (by decide) ?_
                    refine lv_icmp_ge (tgt := 198) hx hb dX12_closeAll_176 (by decide) (fun c73 => ?_) (fun c73 => ?_)
                    · skip
                      have f74 : 24 ≤ y70.toInt := b_le (by decide) rfl c73
                      refine lv_iload_n hx hb dX12_closeAll_198 rfl (lv_at hl 2 rfl) ?_
                      have pq75 : (V71 0 93).toInt = ((V30 0 93)).toInt := congrArg Int32.toInt ((ajV71 0 93 rfl).trans (up2_o hV69 (by decide)))
                      have pq76 : (V71 0 98).toInt = ((V30 0 98)).toInt := congrArg Int32.toInt ((ajV71 0 98 rfl).trans (up2_o hV69 (by decide)))
                      have pq77 : (V71 0 65).toInt = ((V30 0 65)).toInt := congrArg Int32.toInt ((ajV71 0 65 rfl).trans (up2_o hV69 (by decide)))
                      have pq78 : (V71 0 60).toInt = ((V30 0 60)).toInt := congrArg Int32.toInt ((ajV71 0 60 rfl).trans (up2_o hV69 (by decide)))
                      have mq79 : mu V71 = mu V30 := mu_ag (show agr [] [56, 59] V30 V71 from (agr.tr (agr.up agr.rf hV69 rfl) ajV71 (by decide) (by decide))) rfl (fun _ => rfl)
                      have pq80 : (V71 0 73).toInt = ((V30 0 73)).toInt := congrArg Int32.toInt ((ajV71 0 73 rfl).trans (up2_o hV69 (by decide)))
                      have pq81 : (V71 0 76).toInt = ((V30 0 76)).toInt := congrArg Int32.toInt ((ajV71 0 76 rfl).trans (up2_o hV69 (by decide)))
                      have pq82 : (V71 0 69).toInt = ((V30 0 69)).toInt := congrArg Int32.toInt ((ajV71 0 69 rfl).trans (up2_o hV69 (by decide)))
                      have pq83 : (V71 0 95).toInt = ((V30 0 95)).toInt := congrArg Int32.toInt ((ajV71 0 95 rfl).trans (up2_o hV69 (by decide)))
                      have r84 : 0 ≤ ((V30 0 95)).toInt ∧ ((V30 0 95)).toInt ≤ 300 := hMV30 0 95
                      have fz85 : (V30 0 95).toInt = 0 := xlp31_7.2.2.2.2
                      have r086 : RT0 V71 := RT0.ag xlp31_7 hMV30 (show agr [] [56, 59] V30 V71 from (agr.tr (agr.up agr.rf hV69 rfl) ajV71 (by decide) (by decide))) ⟨⟨rfl, fun _ => rfl, fun _ => rfl, fun _ => rfl, fun _ => rfl, fun _ => rfl, fun _ => rfl⟩, by decide, by decide, rfl, rfl, fun _ => rfl, fun _ => rfl, fun _ => rfl⟩ (c0k.ag (show agr [] [56, 59] V30 V71 from (agr.tr (agr.up agr.rf hV69 rfl) ajV71 (by decide) (by decide))) rfl) (by omega)
                      exact W.iret (v := y29) hx hb hr (fun t ht hW => ⟨⟨y29, (V71, L), rfl, ⟨hMV71, agV71, rfl, (show (V71 0 93).toInt = (V 0 93).toInt from by first | omega | ((try (have i_xlp31_5 := Imp.go xlp31_5 (by omega))); (try (have i_t27 := Imp.go t27 (by omega))); (try (have i_r0 := Imp.go r0 (by omega))); (try (have i_r0 := Imp.go r0 (by omega))); (try (have i_t27 := Imp.go t27 (by omega))); (try (have i_xlp31_5 := Imp.go xlp31_5 (by omega))); omega)), (show (V71 0 98).toInt = (V 0 98).toInt from by first | omega | ((try (have i_xlp31_5 := Imp.go xlp31_5 (by omega))); (try (have i_t27 := Imp.go t27 (by omega))); (try (have i_r0 := Imp.go r0 (by omega))); (try (have i_r0 := Imp.go r0 (by omega))); (try (have i_t27 := Imp.go t27 (by omega))); (try (have i_xlp31_5 := Imp.go xlp31_5 (by omega))); omega)), (show (V71 0 65).toInt ≤ (V71 0 60).toInt from by first | omega | ((try (have i_xlp31_5 := Imp.go xlp31_5 (by omega))); (try (have i_t27 := Imp.go t27 (by omega))); (try (have i_r0 := Imp.go r0 (by omega))); (try (have i_r0 := Imp.go r0 (by omega))); (try (have i_t27 := Imp.go t27 (by omega))); (try (have i_xlp31_5 := Imp.go xlp31_5 (by omega))); omega)), (show (V71 0 73).toInt - (V71 0 65).toInt + (mu V71 : Int) ≤ (V 0 73).toInt - (V 0 65).toInt + (mu V : Int) from by first | omega | ((try (have i_xlp31_5 := Imp.go xlp31_5 (by omega))); (try (have i_t27 := Imp.go t27 (by omega))); (try (have i_r0 := Imp.go r0 (by omega))); (try (have i_r0 := Imp.go r0 (by omega))); (try (have i_t27 := Imp.go t27 (by omega))); (try (have i_xlp31_5 := Imp.go xlp31_5 (by omega))); omega)), (show (V71 0 76).toInt - (V71 0 69).toInt - (V71 0 73).toInt ≤ (V 0 76).toInt - (V 0 69).toInt - (V 0 73).toInt from by first | omega | ((try (have i_xlp31_5 := Imp.go xlp31_5 (by omega))); (try (have i_t27 := Imp.go t27 (by omega))); (try (have i_r0 := Imp.go r0 (by omega))); (try (have i_r0 := Imp.go r0 (by omega))); (try (have i_t27 := Imp.go t27 (by omega))); (try (have i_xlp31_5 := Imp.go xlp31_5 (by omega))); omega)), r086⟩, by rw [ht]; exact hP, va_K.moved hW.alike hK, hD⟩, hS.F ht⟩) hS.2.2 dX12_closeAll_199
                    · skip
                      have f87 : y70.toInt < 24 := b_nle (by decide) rfl c73
                      refine lv_aload_n hx hb dX12_closeAll_179 rfl (lv_at hl 3 rfl) ?_
                      refine va_get (D := D) (ci := 12) (v := .ref (ad 59)) (C := RX12) (T := TX12) (N := 100) hx hb hg inX12 hown hK hP 0 rfl rfl 59 (by decide) (hg _ w1769) (fun _ h9 => h9) rfl dX12_closeAll_180 ?_
                      refine lv_bipush (v := 24) hx hb dX12_closeAll_183 (by decide) ?_
                      refine lv_iload_n hx hb dX12_closeAll_185 rfl (lv_at hl 4 rfl) ?_
                      refine lv_imul hx hb dX12_closeAll_186 ?_
                      refine lv_topi (fun z88 ez88 => ?_)
                      have hz88 : z88.toInt = 24 * p0.toInt := i_mul ez88 (by decide) rfl (by omega)
                      refine lv_iload hx hb dX12_closeAll_187 (lv_at hl 0 rfl) ?_
                      refine lv_iadd hx hb dX12_closeAll_189 ?_
                      refine lv_topi (fun z89 ez89 => ?_)
                      have hz89 : z89.toInt = z88.toInt + y70.toInt := i_add ez89 rfl rfl (by omega)
                      refine lv_iconst (v := 0) hx hb dX12_closeAll_190 (by decide) ?_
                      refine va_zast (D := D) (i := z89) (x := 0) hx hb hK hP hD hS 45 44 rfl rfl (i_in (a := z89.toInt) rfl (by first | omega | ((try (have i_xlp31_5 := Imp.go xlp31_5 (by omega))); (try (have i_t27 := Imp.go t27 (by omega))); (try (have i_r0 := Imp.go r0 (by omega))); (try (have i_r0 := Imp.go r0 (by omega))); (try (have i_t27 := Imp.go t27 (by omega))); (try (have i_xlp31_5 := Imp.go xlp31_5 (by omega))); omega))) dX12_closeAll_191 (fun H locs hP hD hS => ?_)
                      obtain ⟨V90, hV90⟩ : ∃ z, z = up2 V71 59 (Int32.toNatClampNeg z89) (vp_nar .boolean 0) := ⟨_, rfl⟩
                      have hP : va_P D vwCl (mw ad kk ks.1 V90 L) H := by rw [hV90]; exact hP
                      have hD : va_D A (mw ad kk ks.1 V90 L) := by rw [hV90]; exact hD
                      have hMV90 : rgd bM V90 := hMV71.put hV90 (nar_b _)
                      have agV90 : agr [(0, 60), (0, 65), (0, 68), (0, 69), (0, 73), (0, 76), (0, 90), (0, 91), (0, 92), (0, 93), (0, 95), (0, 96), (0, 98), (0, 99)] [56, 59, 61, 62, 63, 64, 66, 67, 74, 75, 77, 78, 79, 80, 94, 97] V V90 := agV71.up hV90 rfl
                      obtain ⟨z91, ez91⟩ : ∃ y : Int32, y = y70 + 1 := ⟨_, rfl⟩
                      have hz91 : z91.toInt = y70.toInt + 1 := i_add ez91 rfl (by decide) (by omega)
                      refine lv_iinc (v := z91) (lv' := [(4, .int z91), (3, .int y28), (2, .int y29), (0, .ref (ad 0)), (1, .int p0)]) hx hb dX12_closeAll_192 hl (k := 0) rfl (by rw [ez91]; rfl) (by decide) rfl (fun ls hl => ?_)
                      refine lv_goto (tgt := 172) hx hb dX12_closeAll_195 (by decide) ?_
                      exact ihlp72 z91 V90 H locs ls (by first | omega | ((try (have i_xlp31_5 := Imp.go xlp31_5 (by omega))); (try (have i_t27 := Imp.go t27 (by omega))); (try (have i_r0 := Imp.go r0 (by omega))); (try (have i_r0 := Imp.go r0 (by omega))); (try (have i_t27 := Imp.go t27 (by omega))); (try (have i_xlp31_5 := Imp.go xlp31_5 (by omega))); omega)) (by first | omega | ((try (have i_xlp31_5 := Imp.go xlp31_5 (by omega))); (try (have i_t27 := Imp.go t27 (by omega))); (try (have i_r0 := Imp.go r0 (by omega))); (try (have i_r0 := Imp.go r0 (by omega))); (try (have i_t27 := Imp.go t27 (by omega))); (try (have i_xlp31_5 := Imp.go xlp31_5 (by omega))); omega)) (agr.up (agr.tr agr.rf ajV71 (by decide) (by decide)) hV90 rfl) hMV90 hP hD hS (lv_sub hl [0, 1, 2, 3, 4] rfl)
                have r92 : Int32.toInt 0 = 0 := by decide
                exact lp72 ((24 - (Int32.toInt 0) + 1 : Int).toNat) 0 V69 H locs ls (by decide) (by first | omega | ((try (have i_xlp31_5 := Imp.go xlp31_5 (by omega))); (try (have i_t27 := Imp.go t27 (by omega))); (try (have i_r0 := Imp.go r0 (by omega))); (try (have i_r0 := Imp.go r0 (by omega))); (try (have i_t27 := Imp.go t27 (by omega))); (try (have i_xlp31_5 := Imp.go xlp31_5 (by omega))); omega)) agr.rf hMV69 hP hD hS (lv_sub hl [0, 1, 2, 3, 4] rfl)
            · skip
              have f93 : 0 ≤ y28.toInt := b_nlt rfl (by decide) c40
              have r94 : 0 ≤ ((V30 0 95)).toInt ∧ ((V30 0 95)).toInt ≤ 300 := hMV30 0 95
              have pq95 : (V30 0 54).toInt = ((V 0 54)).toInt := congrArg Int32.toInt ((ajV30 0 54 rfl).trans (ajV12 0 54 rfl))
              have r96 : 0 ≤ ((V 0 54)).toInt ∧ ((V 0 54)).toInt ≤ 1 := hMV 0 54
              have rdy : (V30 0 54).toInt = 1 := (xlp31_7.2.2.1).resolve_right (by omega)
              have fz : (V30 0 95).toInt = 0 := xlp31_7.2.2.2.2
              have rt97 : RT V30 := RT0.rt xlp31_7 rdy
              refine lv_aload_n hx hb dX12_closeAll_114 rfl (lv_at hl 2 rfl) ?_
              refine lv_iload_n hx hb dX12_closeAll_115 rfl (lv_at hl 0 rfl) ?_
              refine gA_int (gA_runV (As := [.int y28]) (rest := []) (ci := 12) (q0 := 0) hx hb hml hown hg hP hD hK hS hA hnw hgk (s_closesT l D ks H.size ad kk V30 L y28 hMV30 (by first | omega | ((try (have i_xlp31_5 := Imp.go xlp31_5 (by omega))); (try (have i_t27 := Imp.go t27 (by omega))); (try (have i_r0 := Imp.go r0 (by omega))); (try (have i_r0 := Imp.go r0 (by omega))); (try (have i_t27 := Imp.go t27 (by omega))); (try (have i_xlp31_5 := Imp.go xlp31_5 (by omega))); omega)) rt97 (show (V30 0 65).toInt ≤ (V30 0 60).toInt from by first | omega | ((try (have i_xlp31_5 := Imp.go xlp31_5 (by omega))); (try (have i_t27 := Imp.go t27 (by omega))); (try (have i_r0 := Imp.go r0 (by omega))); (try (have i_r0 := Imp.go r0 (by omega))); (try (have i_t27 := Imp.go t27 (by omega))); (try (have i_xlp31_5 := Imp.go xlp31_5 (by omega))); omega)) (show (V30 0 95).toInt ≤ (V30 0 65).toInt from by first | omega | ((try (have i_xlp31_5 := Imp.go xlp31_5 (by omega))); (try (have i_t27 := Imp.go t27 (by omega))); (try (have i_r0 := Imp.go r0 (by omega))); (try (have i_r0 := Imp.go r0 (by omega))); (try (have i_t27 := Imp.go t27 (by omega))); (try (have i_xlp31_5 := Imp.go xlp31_5 (by omega))); omega)) (show (V30 0 73).toInt + (V30 0 95).toInt - (V30 0 65).toInt ≤ 999000 from by first | omega | ((try (have i_xlp31_5 := Imp.go xlp31_5 (by omega))); (try (have i_t27 := Imp.go t27 (by omega))); (try (have i_r0 := Imp.go r0 (by omega))); (try (have i_r0 := Imp.go r0 (by omega))); (try (have i_t27 := Imp.go t27 (by omega))); (try (have i_xlp31_5 := Imp.go xlp31_5 (by omega))); omega)) (show (V30 0 76).toInt - (V30 0 69).toInt - (V30 0 73).toInt ≤ 1000000000 from by first | omega | ((try (have i_xlp31_5 := Imp.go xlp31_5 (by omega))); (try (have i_t27 := Imp.go t27 (by omega))); (try (have i_r0 := Imp.go r0 (by omega))); (try (have i_r0 := Imp.go r0 (by omega))); (try (have i_t27 := Imp.go t27 (by omega))); (try (have i_xlp31_5 := Imp.go xlp31_5 (by omega))); omega)) (show y28.toInt < (V30 0 60).toInt from by first | omega | ((try (have i_xlp31_5 := Imp.go xlp31_5 (by omega))); (try (have i_t27 := Imp.go t27 (by omega))); (try (have i_r0 := Imp.go r0 (by omega))); (try (have i_r0 := Imp.go r0 (by omega))); (try (have i_t27 := Imp.go t27 (by omega))); (try (have i_xlp31_5 := Imp.go xlp31_5 (by omega))); omega)) (show (V30 0 98).toInt + 400 * 10 + 30 ≤ 19000 from by first | omega | ((try (have i_xlp31_5 := Imp.go xlp31_5 (by omega))); (try (have i_t27 := Imp.go t27 (by omega))); (try (have i_r0 := Imp.go r0 (by omega))); (try (have i_r0 := Imp.go r0 (by omega))); (try (have i_t27 := Imp.go t27 (by omega))); (try (have i_xlp31_5 := Imp.go xlp31_5 (by omega))); omega)) (show 1 ≤ (V30 63 (Int32.toNatClampNeg y28)).toInt from by first | omega | ((try (have i_xlp31_5 := Imp.go xlp31_5 (by omega))); (try (have i_t27 := Imp.go t27 (by omega))); (try (have i_r0 := Imp.go r0 (by omega))); (try (have i_r0 := Imp.go r0 (by omega))); (try (have i_t27 := Imp.go t27 (by omega))); (try (have i_xlp31_5 := Imp.go xlp31_5 (by omega))); omega))) w2332 w2334 w151 w172 w2335 rfl rfl hdV_yX12_closes ⟨(by show (1613) + 1 ≤ (2 * d3 + 1616); omega), (by show 8 + (4 + 11) + (40500) ≤ (40 * d3 + 40600); omega)⟩ rfl hl.1 rfl (Nat.le_of_ble_eq_true rfl) dX12_closeAll_116 ⟨Nat.le_of_ble_eq_true rfl, Nat.le_of_ble_eq_true rfl⟩) hP hD hK hS hA (fun z98 u99 H locs w100 hP hD hK hS => ?_)
              obtain ⟨V114, L115⟩ := u99
              obtain ⟨hMV114, ajV114, axL115, rgz98, t101, t102, t103, t104, t105, t106, t107, t108, t109, t110, t111, t112, t113⟩ := w100
              have axL115 : L = L115 := Eq.symm axL115
              subst axL115
              have hP : va_P D vwCl (mw ad kk ks.1 V114 L) H := hP
              have hD : va_D A (mw ad kk ks.1 V114 L) := hD
              have hMV114 : rgd bM V114 := hMV114
              have ajV114 : agr [(0, 60), (0, 65), (0, 68), (0, 69), (0, 73), (0, 76), (0, 90), (0, 91), (0, 92), (0, 93), (0, 95), (0, 96), (0, 98)] [59, 61, 62, 63, 64, 66, 67, 74, 75, 77, 78, 79, 80, 94, 97] V30 V114 := ajV114
              have agV114 : agr [(0, 60), (0, 65), (0, 68), (0, 69), (0, 73), (0, 76), (0, 90), (0, 91), (0, 92), (0, 93), (0, 95), (0, 96), (0, 98), (0, 99)] [56, 59, 61, 62, 63, 64, 66, 67, 74, 75, 77, 78, 79, 80, 94, 97] V V114 := agV30.tr ajV114 (by decide) (by decide)
              have rgz98 : 0 ≤ z98.toInt ∧ z98.toInt ≤ 1 := rgz98
              have t101 : (V114 0 93).toInt = (V30 0 93).toInt := t101
              have t102 : (V114 0 98).toInt = (V30 0 98).toInt := t102
              have t103 : (V30 0 60).toInt ≤ (V114 0 60).toInt := t103
              have t104 : (V30 0 65).toInt ≤ (V114 0 65).toInt := t104
              have t105 : (V114 0 65).toInt - (V30 0 65).toInt ≤ (V114 0 60).toInt - (V30 0 60).toInt := t105
              have t106 : (V114 0 73).toInt + (V114 0 95).toInt - (V114 0 65).toInt ≤ (V30 0 73).toInt + (V30 0 95).toInt - (V30 0 65).toInt + 1 := t106
              have t107 : (V30 0 73).toInt ≤ (V114 0 73).toInt := t107
              have t108 : (V30 0 69).toInt ≤ (V114 0 69).toInt := t108
              have t109 : (V114 0 95).toInt = (V30 0 95).toInt := t109
              have t110 : (V114 0 76).toInt - (V114 0 69).toInt - (V114 0 73).toInt ≤ (V30 0 76).toInt - (V30 0 69).toInt - (V30 0 73).toInt := t110
              have t111 : (V114 63 (Int32.toNatClampNeg y28)).toInt = 2 := t111
              have t112 : RT V114 := t112
              have t113 : FRM V30 V114 (-1) := t113
              have r116 : 0 ≤ ((V114 0 93)).toInt ∧ ((V114 0 93)).toInt ≤ 10 := hMV114 0 93
              have r117 : 0 ≤ ((V114 0 98)).toInt ∧ ((V114 0 98)).toInt ≤ 20000 := hMV114 0 98
              have r118 : 0 ≤ ((V114 0 60)).toInt ∧ ((V114 0 60)).toInt ≤ 300 := hMV114 0 60
              have r119 : 0 ≤ ((V114 0 65)).toInt ∧ ((V114 0 65)).toInt ≤ 1000000 := hMV114 0 65
              have r120 : 0 ≤ ((V114 0 73)).toInt ∧ ((V114 0 73)).toInt ≤ 1000000 := hMV114 0 73
              have r121 : 0 ≤ ((V114 0 95)).toInt ∧ ((V114 0 95)).toInt ≤ 300 := hMV114 0 95
              have r122 : 0 ≤ ((V114 0 69)).toInt ∧ ((V114 0 69)).toInt ≤ 3000 := hMV114 0 69
              have r123 : 0 ≤ ((V114 0 76)).toInt ∧ ((V114 0 76)).toInt ≤ 2000000000 := hMV114 0 76
              have pq124 : (V114 0 54).toInt = ((V 0 54)).toInt := congrArg Int32.toInt ((ajV114 0 54 rfl).trans ((ajV30 0 54 rfl).trans (ajV12 0 54 rfl)))
              have r0125 : RT0 V114 := RT.r0 t112 (by omega) (by omega)
              have ko := i_clamp (x := y28) rfl (by omega)
              have r126 : 0 ≤ ((V114 63 (Int32.toNatClampNeg y28))).toInt ∧ ((V114 63 (Int32.toNatClampNeg y28))).toInt ≤ 2 := hMV114 63 (Int32.toNatClampNeg y28)
              have h0 : 0 ≤ (V30 0 60).toInt := (hMV30 0 60).1
              have h3 : (V114 0 60).toInt ≤ 300 := (hMV114 0 60).2
              have md := mu_drop t113 h0 (x := Int32.toNatClampNeg y28) (by omega) (by first | omega | ((try (have i_xlp31_5 := Imp.go xlp31_5 (by omega))); (try (have i_t27 := Imp.go t27 (by omega))); (try (have i_r0 := Imp.go r0 (by omega))); (try (have i_r0 := Imp.go r0 (by omega))); (try (have i_t27 := Imp.go t27 (by omega))); (try (have i_xlp31_5 := Imp.go xlp31_5 (by omega))); omega)) (by omega) h3 (fun o => (hMV30 63 o).1)
              refine lv_istore (lv' := [(4, .int z98), (3, .int y28), (2, .int y29), (0, .ref (ad 0)), (1, .int p0)]) hx hb dX12_closeAll_119 hl (by decide) rfl (fun ls hl => ?_)
              refine lv_aload_n hx hb dX12_closeAll_121 rfl (lv_at hl 3 rfl) ?_
              refine lv_aload_n hx hb dX12_closeAll_122 rfl (lv_at hl 3 rfl) ?_
              refine va_get (D := D) (ci := 12) (v := .int (V114 0 99)) (C := RX12) (T := TX12) (N := 100) hx hb hg inX12 hown hK hP 0 rfl rfl 99 (by decide) (hg _ w1809) (fun _ h9 => h9) rfl dX12_closeAll_123 ?_
              refine g_top (v := (V30 0 99)) (ajV114 0 99 rfl) ?_
              have r127 : 0 ≤ ((V30 0 99)).toInt ∧ ((V30 0 99)).toInt ≤ 1 := hMV30 0 99
              refine lv_if_ne (tgt := 134) hx hb dX12_closeAll_126 (by decide) (fun c128 => ?_) (fun c128 => ?_)
              · skip
                have f129 : ((V30 0 99)).toInt ≠ 0 := b_neq rfl (by decide) c128
                refine lv_iconst (v := 1) hx hb dX12_closeAll_134 (by decide) ?_
                refine lv_goto (tgt := 139) hx hb dX12_closeAll_135 (by decide) ?_
                refine va_put (D := D) (ci := 12) (v := .int 1) (ty := tyX12 99) (C := RX12) (T := TX12) (N := 100) hx hb hg inX12 tyX12 tyX12_ok nmX12 hown hK hP hD hS 0 rfl rfl 99 (by decide) (hg _ w1809) (fun _ h9 => h9) rfl (tyX12_ok 99 (by decide)) rfl rfl (Nat.le_of_ble_eq_true rfl) dX12_closeAll_139 (fun H locs hP hD hS => ?_)
                obtain ⟨V130, hV130⟩ : ∃ z, z = up2 V114 0 99 1 := ⟨_, rfl⟩
                have hP : va_P D vwCl (mw ad kk ks.1 V130 L) H := by rw [hV130]; exact hP
                have hD : va_D A (mw ad kk ks.1 V130 L) := by rw [hV130]; exact hD
                have hMV130 : rgd bM V130 := hMV114.put hV130 (by decide)
                have agV130 : agr [(0, 60), (0, 65), (0, 68), (0, 69), (0, 73), (0, 76), (0, 90), (0, 91), (0, 92), (0, 93), (0, 95), (0, 96), (0, 98), (0, 99)] [56, 59, 61, 62, 63, 64, 66, 67, 74, 75, 77, 78, 79, 80, 94, 97] V V130 := agV114.up hV130 rfl
                obtain ⟨z131, ez131⟩ : ∃ y : Int32, y = y29 + 1 := ⟨_, rfl⟩
                refine lv_iinc (v := z131) (lv' := [(2, .int z131), (4, .int z98), (3, .int y28), (0, .ref (ad 0)), (1, .int p0)]) hx hb dX12_closeAll_142 hl (k := 2) rfl (by rw [ez131]; rfl) (by decide) rfl (fun ls hl => ?_)
                refine lv_aload_n hx hb dX12_closeAll_145 rfl (lv_at hl 3 rfl) ?_
                refine lv_iload_n hx hb dX12_closeAll_146 rfl (lv_at hl 4 rfl) ?_
                refine gA_int (gA_runV (As := [.int p0]) (rest := []) (ci := 12) (q0 := 0) hx hb hml hown hg hP hD hK hS hA hnw hgk (s_latestIn2 l D ks H.size ad kk V130 L p0 hMV130 ) w2352 w2354 w154 w172 w2355 rfl rfl hdV_yX12_latestIn ⟨(by show (0) + 1 ≤ (2 * d3 + 1616); omega), (by show 8 + (4 + 11) + (0) ≤ (40 * d3 + 40600); omega)⟩ rfl hl.1 rfl (Nat.le_of_ble_eq_true rfl) dX12_closeAll_147 ⟨Nat.le_of_ble_eq_true rfl, Nat.le_of_ble_eq_true rfl⟩) hP hD hK hS hA (fun z132 u133 H locs w134 hP hD hK hS => ?_)
                obtain ⟨rgz132, t135, t136⟩ := w134
                have rgz132 : (-1) ≤ z132.toInt ∧ z132.toInt ≤ 299 := rgz132
                have t135 : z132.toInt < (V130 0 60).toInt := t135
                have t136 : Imp (0 ≤ z132.toInt) ((V130 63 (Int32.toNatClampNeg z132)).toInt = 1) := t136
                have pq137 : (V130 0 60).toInt = ((V114 0 60)).toInt := congrArg Int32.toInt (up2_k hV130 (by decide))
                refine lv_istore_n (lv' := [(3, .int z132), (2, .int z131), (4, .int z98), (0, .ref (ad 0)), (1, .int p0)]) hx hb dX12_closeAll_150 rfl hl (by decide) rfl (fun ls hl => ?_)
                refine lv_goto (tgt := 110) hx hb dX12_closeAll_151 (by decide) ?_
                have pq138 : (V130 0 93).toInt = ((V114 0 93)).toInt := congrArg Int32.toInt (up2_k hV130 (by decide))
                have pq139 : (V130 0 98).toInt = ((V114 0 98)).toInt := congrArg Int32.toInt (up2_k hV130 (by decide))
                have pq140 : (V130 0 65).toInt = ((V114 0 65)).toInt := congrArg Int32.toInt (up2_k hV130 (by decide))
                have mq141 : mu V130 = mu V114 := mu_ag (show agr [(0, 99)] [] V114 V130 from (agr.up agr.rf hV130 rfl)) rfl (fun _ => rfl)
                have pq142 : (V130 0 73).toInt = ((V114 0 73)).toInt := congrArg Int32.toInt (up2_k hV130 (by decide))
                have pq143 : (V130 0 76).toInt = ((V114 0 76)).toInt := congrArg Int32.toInt (up2_k hV130 (by decide))
                have pq144 : (V130 0 69).toInt = ((V114 0 69)).toInt := congrArg Int32.toInt (up2_k hV130 (by decide))
                have pq145 : (V130 63 (Int32.toNatClampNeg z132)).toInt = ((V114 63 (Int32.toNatClampNeg z132))).toInt := congrArg Int32.toInt (up2_o hV130 (by decide))
                have r146 : 0 ≤ ((V114 63 (Int32.toNatClampNeg z132))).toInt ∧ ((V114 63 (Int32.toNatClampNeg z132))).toInt ≤ 2 := hMV114 63 (Int32.toNatClampNeg z132)
                have pq147 : (V130 0 95).toInt = ((V114 0 95)).toInt := congrArg Int32.toInt (up2_k hV130 (by decide))
                have fz148 : (V114 0 95).toInt = 0 := r0125.2.2.2.2
                have r0149 : RT0 V130 := RT0.ag r0125 hMV114 (show agr [(0, 99)] [] V114 V130 from (agr.up agr.rf hV130 rfl)) ⟨⟨rfl, fun _ => rfl, fun _ => rfl, fun _ => rfl, fun _ => rfl, fun _ => rfl, fun _ => rfl⟩, by decide, by decide, rfl, rfl, fun _ => rfl, fun _ => rfl, fun _ => rfl⟩ (c0k.ag (show agr [(0, 99)] [] V114 V130 from (agr.up agr.rf hV130 rfl)) rfl) (by omega)
                exact ihlp31 z132 z131 V130 H locs ls (by first | omega | ((try (have i_t136 := Imp.go t136 (by omega))); (try (have i_xlp31_5 := Imp.go xlp31_5 (by omega))); (try (have i_t27 := Imp.go t27 (by omega))); (try (have i_r0 := Imp.go r0 (by omega))); (try (have i_r0 := Imp.go r0 (by omega))); (try (have i_t27 := Imp.go t27 (by omega))); (try (have i_xlp31_5 := Imp.go xlp31_5 (by omega))); (try (have i_t136 := Imp.go t136 (by omega))); omega)) (show (V130 0 93).toInt = (V 0 93).toInt from by first | omega | ((try (have i_t136 := Imp.go t136 (by omega))); (try (have i_xlp31_5 := Imp.go xlp31_5 (by omega))); (try (have i_t27 := Imp.go t27 (by omega))); (try (have i_r0 := Imp.go r0 (by omega))); (try (have i_r0 := Imp.go r0 (by omega))); (try (have i_t27 := Imp.go t27 (by omega))); (try (have i_xlp31_5 := Imp.go xlp31_5 (by omega))); (try (have i_t136 := Imp.go t136 (by omega))); omega)) (show (V130 0 98).toInt = (V 0 98).toInt from by first | omega | ((try (have i_t136 := Imp.go t136 (by omega))); (try (have i_xlp31_5 := Imp.go xlp31_5 (by omega))); (try (have i_t27 := Imp.go t27 (by omega))); (try (have i_r0 := Imp.go r0 (by omega))); (try (have i_r0 := Imp.go r0 (by omega))); (try (have i_t27 := Imp.go t27 (by omega))); (try (have i_xlp31_5 := Imp.go xlp31_5 (by omega))); (try (have i_t136 := Imp.go t136 (by omega))); omega)) (show (V130 0 65).toInt ≤ (V130 0 60).toInt from by first | omega | ((try (have i_t136 := Imp.go t136 (by omega))); (try (have i_xlp31_5 := Imp.go xlp31_5 (by omega))); (try (have i_t27 := Imp.go t27 (by omega))); (try (have i_r0 := Imp.go r0 (by omega))); (try (have i_r0 := Imp.go r0 (by omega))); (try (have i_t27 := Imp.go t27 (by omega))); (try (have i_xlp31_5 := Imp.go xlp31_5 (by omega))); (try (have i_t136 := Imp.go t136 (by omega))); omega)) (show (V130 0 73).toInt - (V130 0 65).toInt + (mu V130 : Int) ≤ (V 0 73).toInt - (V 0 65).toInt + (mu V : Int) from by first | omega | ((try (have i_t136 := Imp.go t136 (by omega))); (try (have i_xlp31_5 := Imp.go xlp31_5 (by omega))); (try (have i_t27 := Imp.go t27 (by omega))); (try (have i_r0 := Imp.go r0 (by omega))); (try (have i_r0 := Imp.go r0 (by omega))); (try (have i_t27 := Imp.go t27 (by omega))); (try (have i_xlp31_5 := Imp.go xlp31_5 (by omega))); (try (have i_t136 := Imp.go t136 (by omega))); omega)) (show (V130 0 76).toInt - (V130 0 69).toInt - (V130 0 73).toInt ≤ (V 0 76).toInt - (V 0 69).toInt - (V 0 73).toInt from by first | omega | ((try (have i_t136 := Imp.go t136 (by omega))); (try (have i_xlp31_5 := Imp.go xlp31_5 (by omega))); (try (have i_t27 := Imp.go t27 (by omega))); (try (have i_r0 := Imp.go r0 (by omega))); (try (have i_r0 := Imp.go r0 (by omega))); (try (have i_t27 := Imp.go t27 (by omega))); (try (have i_xlp31_5 := Imp.go xlp31_5 (by omega))); (try (have i_t136 := Imp.go t136 (by omega))); omega)) (Imp.mk (fun hp => have hp : 0 ≤ z132.toInt := hp; (show (V130 63 (Int32.toNatClampNeg z132)).toInt = 1 from by first | omega | ((try (have i_t136 := Imp.go t136 (by omega))); (try (have i_xlp31_5 := Imp.go xlp31_5 (by omega))); (try (have i_t27 := Imp.go t27 (by omega))); (try (have i_r0 := Imp.go r0 (by omega))); (try (have i_r0 := Imp.go r0 (by omega))); (try (have i_t27 := Imp.go t27 (by omega))); (try (have i_xlp31_5 := Imp.go xlp31_5 (by omega))); (try (have i_t136 := Imp.go t136 (by omega))); omega)))) (show z132.toInt < (V130 0 60).toInt from by first | omega | ((try (have i_t136 := Imp.go t136 (by omega))); (try (have i_xlp31_5 := Imp.go xlp31_5 (by omega))); (try (have i_t27 := Imp.go t27 (by omega))); (try (have i_r0 := Imp.go r0 (by omega))); (try (have i_r0 := Imp.go r0 (by omega))); (try (have i_t27 := Imp.go t27 (by omega))); (try (have i_xlp31_5 := Imp.go xlp31_5 (by omega))); (try (have i_t136 := Imp.go t136 (by omega))); omega)) r0149 (by first | omega | ((try (have i_t136 := Imp.go t136 (by omega))); (try (have i_xlp31_5 := Imp.go xlp31_5 (by omega))); (try (have i_t27 := Imp.go t27 (by omega))); (try (have i_r0 := Imp.go r0 (by omega))); (try (have i_r0 := Imp.go r0 (by omega))); (try (have i_t27 := Imp.go t27 (by omega))); (try (have i_xlp31_5 := Imp.go xlp31_5 (by omega))); (try (have i_t136 := Imp.go t136 (by omega))); omega)) (agr.up (agr.tr (agr.tr agr.rf ajV30 (by decide) (by decide)) ajV114 (by decide) (by decide)) hV130 rfl) hMV130 hP hD hS (lv_sub hl [0, 1, 3, 4] rfl)
              · skip
                have f150 : ((V30 0 99)).toInt = 0 := b_eq rfl (by decide) c128
                refine lv_iload hx hb dX12_closeAll_129 (lv_at hl 0 rfl) ?_
                refine lv_if_eq (tgt := 138) hx hb dX12_closeAll_131 (by decide) (fun c151 => ?_) (fun c151 => ?_)
                · skip
                  have f152 : z98.toInt = 0 := b_eq rfl (by decide) c151
                  refine lv_iconst (v := 0) hx hb dX12_closeAll_138 (by decide) ?_
                  refine va_put (D := D) (ci := 12) (v := .int 0) (ty := tyX12 99) (C := RX12) (T := TX12) (N := 100) hx hb hg inX12 tyX12 tyX12_ok nmX12 hown hK hP hD hS 0 rfl rfl 99 (by decide) (hg _ w1809) (fun _ h9 => h9) rfl (tyX12_ok 99 (by decide)) rfl rfl (Nat.le_of_ble_eq_true rfl) dX12_closeAll_139 (fun H locs hP hD hS => ?_)
                  obtain ⟨V153, hV153⟩ : ∃ z, z = up2 V114 0 99 0 := ⟨_, rfl⟩
                  have hP : va_P D vwCl (mw ad kk ks.1 V153 L) H := by rw [hV153]; exact hP
                  have hD : va_D A (mw ad kk ks.1 V153 L) := by rw [hV153]; exact hD
                  have hMV153 : rgd bM V153 := hMV114.put hV153 (by decide)
                  have agV153 : agr [(0, 60), (0, 65), (0, 68), (0, 69), (0, 73), (0, 76), (0, 90), (0, 91), (0, 92), (0, 93), (0, 95), (0, 96), (0, 98), (0, 99)] [56, 59, 61, 62, 63, 64, 66, 67, 74, 75, 77, 78, 79, 80, 94, 97] V V153 := agV114.up hV153 rfl
                  obtain ⟨z154, ez154⟩ : ∃ y : Int32, y = y29 + 1 := ⟨_, rfl⟩
                  refine lv_iinc (v := z154) (lv' := [(2, .int z154), (4, .int z98), (3, .int y28), (0, .ref (ad 0)), (1, .int p0)]) hx hb dX12_closeAll_142 hl (k := 2) rfl (by rw [ez154]; rfl) (by decide) rfl (fun ls hl => ?_)
                  refine lv_aload_n hx hb dX12_closeAll_145 rfl (lv_at hl 3 rfl) ?_
                  refine lv_iload_n hx hb dX12_closeAll_146 rfl (lv_at hl 4 rfl) ?_
                  refine gA_int (gA_runV (As := [.int p0]) (rest := []) (ci := 12) (q0 := 0) hx hb hml hown hg hP hD hK hS hA hnw hgk (s_latestIn2 l D ks H.size ad kk V153 L p0 hMV153 ) w2352 w2354 w154 w172 w2355 rfl rfl hdV_yX12_latestIn ⟨(by show (0) + 1 ≤ (2 * d3 + 1616); omega), (by show 8 + (4 + 11) + (0) ≤ (40 * d3 + 40600); omega)⟩ rfl hl.1 rfl (Nat.le_of_ble_eq_true rfl) dX12_closeAll_147 ⟨Nat.le_of_ble_eq_true rfl, Nat.le_of_ble_eq_true rfl⟩) hP hD hK hS hA (fun z155 u156 H locs w157 hP hD hK hS => ?_)
                  obtain ⟨rgz155, t158, t159⟩ := w157
                  have rgz155 : (-1) ≤ z155.toInt ∧ z155.toInt ≤ 299 := rgz155
                  have t158 : z155.toInt < (V153 0 60).toInt := t158
                  have t159 : Imp (0 ≤ z155.toInt) ((V153 63 (Int32.toNatClampNeg z155)).toInt = 1) := t159
                  have pq160 : (V153 0 60).toInt = ((V114 0 60)).toInt := congrArg Int32.toInt (up2_k hV153 (by decide))
                  refine lv_istore_n (lv' := [(3, .int z155), (2, .int z154), (4, .int z98), (0, .ref (ad 0)), (1, .int p0)]) hx hb dX12_closeAll_150 rfl hl (by decide) rfl (fun ls hl => ?_)
                  refine lv_goto (tgt := 110) hx hb dX12_closeAll_151 (by decide) ?_
                  have pq161 : (V153 0 93).toInt = ((V114 0 93)).toInt := congrArg Int32.toInt (up2_k hV153 (by decide))
                  have pq162 : (V153 0 98).toInt = ((V114 0 98)).toInt := congrArg Int32.toInt (up2_k hV153 (by decide))
                  have pq163 : (V153 0 65).toInt = ((V114 0 65)).toInt := congrArg Int32.toInt (up2_k hV153 (by decide))
                  have mq164 : mu V153 = mu V114 := mu_ag (show agr [(0, 99)] [] V114 V153 from (agr.up agr.rf hV153 rfl)) rfl (fun _ => rfl)
                  have pq165 : (V153 0 73).toInt = ((V114 0 73)).toInt := congrArg Int32.toInt (up2_k hV153 (by decide))
                  have pq166 : (V153 0 76).toInt = ((V114 0 76)).toInt := congrArg Int32.toInt (up2_k hV153 (by decide))
                  have pq167 : (V153 0 69).toInt = ((V114 0 69)).toInt := congrArg Int32.toInt (up2_k hV153 (by decide))
                  have pq168 : (V153 63 (Int32.toNatClampNeg z155)).toInt = ((V114 63 (Int32.toNatClampNeg z155))).toInt := congrArg Int32.toInt (up2_o hV153 (by decide))
                  have r169 : 0 ≤ ((V114 63 (Int32.toNatClampNeg z155))).toInt ∧ ((V114 63 (Int32.toNatClampNeg z155))).toInt ≤ 2 := hMV114 63 (Int32.toNatClampNeg z155)
                  have pq170 : (V153 0 95).toInt = ((V114 0 95)).toInt := congrArg Int32.toInt (up2_k hV153 (by decide))
                  have fz171 : (V114 0 95).toInt = 0 := r0125.2.2.2.2
                  have r0172 : RT0 V153 := RT0.ag r0125 hMV114 (show agr [(0, 99)] [] V114 V153 from (agr.up agr.rf hV153 rfl)) ⟨⟨rfl, fun _ => rfl, fun _ => rfl, fun _ => rfl, fun _ => rfl, fun _ => rfl, fun _ => rfl⟩, by decide, by decide, rfl, rfl, fun _ => rfl, fun _ => rfl, fun _ => rfl⟩ (c0k.ag (show agr [(0, 99)] [] V114 V153 from (agr.up agr.rf hV153 rfl)) rfl) (by omega)
                  exact ihlp31 z155 z154 V153 H locs ls (by first | omega | ((try (have i_t159 := Imp.go t159 (by omega))); (try (have i_xlp31_5 := Imp.go xlp31_5 (by omega))); (try (have i_t27 := Imp.go t27 (by omega))); (try (have i_r0 := Imp.go r0 (by omega))); (try (have i_r0 := Imp.go r0 (by omega))); (try (have i_t27 := Imp.go t27 (by omega))); (try (have i_xlp31_5 := Imp.go xlp31_5 (by omega))); (try (have i_t159 := Imp.go t159 (by omega))); omega)) (show (V153 0 93).toInt = (V 0 93).toInt from by first | omega | ((try (have i_t159 := Imp.go t159 (by omega))); (try (have i_xlp31_5 := Imp.go xlp31_5 (by omega))); (try (have i_t27 := Imp.go t27 (by omega))); (try (have i_r0 := Imp.go r0 (by omega))); (try (have i_r0 := Imp.go r0 (by omega))); (try (have i_t27 := Imp.go t27 (by omega))); (try (have i_xlp31_5 := Imp.go xlp31_5 (by omega))); (try (have i_t159 := Imp.go t159 (by omega))); omega)) (show (V153 0 98).toInt = (V 0 98).toInt from by first | omega | ((try (have i_t159 := Imp.go t159 (by omega))); (try (have i_xlp31_5 := Imp.go xlp31_5 (by omega))); (try (have i_t27 := Imp.go t27 (by omega))); (try (have i_r0 := Imp.go r0 (by omega))); (try (have i_r0 := Imp.go r0 (by omega))); (try (have i_t27 := Imp.go t27 (by omega))); (try (have i_xlp31_5 := Imp.go xlp31_5 (by omega))); (try (have i_t159 := Imp.go t159 (by omega))); omega)) (show (V153 0 65).toInt ≤ (V153 0 60).toInt from by first | omega | ((try (have i_t159 := Imp.go t159 (by omega))); (try (have i_xlp31_5 := Imp.go xlp31_5 (by omega))); (try (have i_t27 := Imp.go t27 (by omega))); (try (have i_r0 := Imp.go r0 (by omega))); (try (have i_r0 := Imp.go r0 (by omega))); (try (have i_t27 := Imp.go t27 (by omega))); (try (have i_xlp31_5 := Imp.go xlp31_5 (by omega))); (try (have i_t159 := Imp.go t159 (by omega))); omega)) (show (V153 0 73).toInt - (V153 0 65).toInt + (mu V153 : Int) ≤ (V 0 73).toInt - (V 0 65).toInt + (mu V : Int) from by first | omega | ((try (have i_t159 := Imp.go t159 (by omega))); (try (have i_xlp31_5 := Imp.go xlp31_5 (by omega))); (try (have i_t27 := Imp.go t27 (by omega))); (try (have i_r0 := Imp.go r0 (by omega))); (try (have i_r0 := Imp.go r0 (by omega))); (try (have i_t27 := Imp.go t27 (by omega))); (try (have i_xlp31_5 := Imp.go xlp31_5 (by omega))); (try (have i_t159 := Imp.go t159 (by omega))); omega)) (show (V153 0 76).toInt - (V153 0 69).toInt - (V153 0 73).toInt ≤ (V 0 76).toInt - (V 0 69).toInt - (V 0 73).toInt from by first | omega | ((try (have i_t159 := Imp.go t159 (by omega))); (try (have i_xlp31_5 := Imp.go xlp31_5 (by omega))); (try (have i_t27 := Imp.go t27 (by omega))); (try (have i_r0 := Imp.go r0 (by omega))); (try (have i_r0 := Imp.go r0 (by omega))); (try (have i_t27 := Imp.go t27 (by omega))); (try (have i_xlp31_5 := Imp.go xlp31_5 (by omega))); (try (have i_t159 := Imp.go t159 (by omega))); omega)) (Imp.mk (fun hp => have hp : 0 ≤ z155.toInt := hp; (show (V153 63 (Int32.toNatClampNeg z155)).toInt = 1 from by first | omega | ((try (have i_t159 := Imp.go t159 (by omega))); (try (have i_xlp31_5 := Imp.go xlp31_5 (by omega))); (try (have i_t27 := Imp.go t27 (by omega))); (try (have i_r0 := Imp.go r0 (by omega))); (try (have i_r0 := Imp.go r0 (by omega))); (try (have i_t27 := Imp.go t27 (by omega))); (try (have i_xlp31_5 := Imp.go xlp31_5 (by omega))); (try (have i_t159 := Imp.go t159 (by omega))); omega)))) (show z155.toInt < (V153 0 60).toInt from by first | omega | ((try (have i_t159 := Imp.go t159 (by omega))); (try (have i_xlp31_5 := Imp.go xlp31_5 (by omega))); (try (have i_t27 := Imp.go t27 (by omega))); (try (have i_r0 := Imp.go r0 (by omega))); (try (have i_r0 := Imp.go r0 (by omega))); (try (have i_t27 := Imp.go t27 (by omega))); (try (have i_xlp31_5 := Imp.go xlp31_5 (by omega))); (try (have i_t159 := Imp.go t159 (by omega))); omega)) r0172 (by first | omega | ((try (have i_t159 := Imp.go t159 (by omega))); (try (have i_xlp31_5 := Imp.go xlp31_5 (by omega))); (try (have i_t27 := Imp.go t27 (by omega))); (try (have i_r0 := Imp.go r0 (by omega))); (try (have i_r0 := Imp.go r0 (by omega))); (try (have i_t27 := Imp.go t27 (by omega))); (try (have i_xlp31_5 := Imp.go xlp31_5 (by omega))); (try (have i_t159 := Imp.go t159 (by omega))); omega)) (agr.up (agr.tr (agr.tr agr.rf ajV30 (by decide) (by decide)) ajV114 (by decide) (by decide)) hV153 rfl) hMV153 hP hD hS (lv_sub hl [0, 1, 3, 4] rfl)
                · skip
                  have f173 : z98.toInt ≠ 0 := b_neq rfl (by decide) c151
                  refine lv_iconst (v := 1) hx hb dX12_closeAll_134 (by decide) ?_
                  refine lv_goto (tgt := 139) hx hb dX12_closeAll_135 (by decide) ?_
                  refine va_put (D := D) (ci := 12) (v := .int 1) (ty := tyX12 99) (C := RX12) (T := TX12) (N := 100) hx hb hg inX12 tyX12 tyX12_ok nmX12 hown hK hP hD hS 0 rfl rfl 99 (by decide) (hg _ w1809) (fun _ h9 => h9) rfl (tyX12_ok 99 (by decide)) rfl rfl (Nat.le_of_ble_eq_true rfl) dX12_closeAll_139 (fun H locs hP hD hS => ?_)
                  obtain ⟨V174, hV174⟩ : ∃ z, z = up2 V114 0 99 1 := ⟨_, rfl⟩
                  have hP : va_P D vwCl (mw ad kk ks.1 V174 L) H := by rw [hV174]; exact hP
                  have hD : va_D A (mw ad kk ks.1 V174 L) := by rw [hV174]; exact hD
                  have hMV174 : rgd bM V174 := hMV114.put hV174 (by decide)
                  have agV174 : agr [(0, 60), (0, 65), (0, 68), (0, 69), (0, 73), (0, 76), (0, 90), (0, 91), (0, 92), (0, 93), (0, 95), (0, 96), (0, 98), (0, 99)] [56, 59, 61, 62, 63, 64, 66, 67, 74, 75, 77, 78, 79, 80, 94, 97] V V174 := agV114.up hV174 rfl
                  obtain ⟨z175, ez175⟩ : ∃ y : Int32, y = y29 + 1 := ⟨_, rfl⟩
                  refine lv_iinc (v := z175) (lv' := [(2, .int z175), (4, .int z98), (3, .int y28), (0, .ref (ad 0)), (1, .int p0)]) hx hb dX12_closeAll_142 hl (k := 2) rfl (by rw [ez175]; rfl) (by decide) rfl (fun ls hl => ?_)
                  refine lv_aload_n hx hb dX12_closeAll_145 rfl (lv_at hl 3 rfl) ?_
                  refine lv_iload_n hx hb dX12_closeAll_146 rfl (lv_at hl 4 rfl) ?_
                  refine gA_int (gA_runV (As := [.int p0]) (rest := []) (ci := 12) (q0 := 0) hx hb hml hown hg hP hD hK hS hA hnw hgk (s_latestIn2 l D ks H.size ad kk V174 L p0 hMV174 ) w2352 w2354 w154 w172 w2355 rfl rfl hdV_yX12_latestIn ⟨(by show (0) + 1 ≤ (2 * d3 + 1616); omega), (by show 8 + (4 + 11) + (0) ≤ (40 * d3 + 40600); omega)⟩ rfl hl.1 rfl (Nat.le_of_ble_eq_true rfl) dX12_closeAll_147 ⟨Nat.le_of_ble_eq_true rfl, Nat.le_of_ble_eq_true rfl⟩) hP hD hK hS hA (fun z176 u177 H locs w178 hP hD hK hS => ?_)
                  obtain ⟨rgz176, t179, t180⟩ := w178
                  have rgz176 : (-1) ≤ z176.toInt ∧ z176.toInt ≤ 299 := rgz176
                  have t179 : z176.toInt < (V174 0 60).toInt := t179
                  have t180 : Imp (0 ≤ z176.toInt) ((V174 63 (Int32.toNatClampNeg z176)).toInt = 1) := t180
                  have pq181 : (V174 0 60).toInt = ((V114 0 60)).toInt := congrArg Int32.toInt (up2_k hV174 (by decide))
                  refine lv_istore_n (lv' := [(3, .int z176), (2, .int z175), (4, .int z98), (0, .ref (ad 0)), (1, .int p0)]) hx hb dX12_closeAll_150 rfl hl (by decide) rfl (fun ls hl => ?_)
                  refine lv_goto (tgt := 110) hx hb dX12_closeAll_151 (by decide) ?_
                  have pq182 : (V174 0 93).toInt = ((V114 0 93)).toInt := congrArg Int32.toInt (up2_k hV174 (by decide))
                  have pq183 : (V174 0 98).toInt = ((V114 0 98)).toInt := congrArg Int32.toInt (up2_k hV174 (by decide))
                  have pq184 : (V174 0 65).toInt = ((V114 0 65)).toInt := congrArg Int32.toInt (up2_k hV174 (by decide))
                  have mq185 : mu V174 = mu V114 := mu_ag (show agr [(0, 99)] [] V114 V174 from (agr.up agr.rf hV174 rfl)) rfl (fun _ => rfl)
                  have pq186 : (V174 0 73).toInt = ((V114 0 73)).toInt := congrArg Int32.toInt (up2_k hV174 (by decide))
                  have pq187 : (V174 0 76).toInt = ((V114 0 76)).toInt := congrArg Int32.toInt (up2_k hV174 (by decide))
                  have pq188 : (V174 0 69).toInt = ((V114 0 69)).toInt := congrArg Int32.toInt (up2_k hV174 (by decide))
                  have pq189 : (V174 63 (Int32.toNatClampNeg z176)).toInt = ((V114 63 (Int32.toNatClampNeg z176))).toInt := congrArg Int32.toInt (up2_o hV174 (by decide))
                  have r190 : 0 ≤ ((V114 63 (Int32.toNatClampNeg z176))).toInt ∧ ((V114 63 (Int32.toNatClampNeg z176))).toInt ≤ 2 := hMV114 63 (Int32.toNatClampNeg z176)
                  have pq191 : (V174 0 95).toInt = ((V114 0 95)).toInt := congrArg Int32.toInt (up2_k hV174 (by decide))
                  have fz192 : (V114 0 95).toInt = 0 := r0125.2.2.2.2
                  have r0193 : RT0 V174 := RT0.ag r0125 hMV114 (show agr [(0, 99)] [] V114 V174 from (agr.up agr.rf hV174 rfl)) ⟨⟨rfl, fun _ => rfl, fun _ => rfl, fun _ => rfl, fun _ => rfl, fun _ => rfl, fun _ => rfl⟩, by decide, by decide, rfl, rfl, fun _ => rfl, fun _ => rfl, fun _ => rfl⟩ (c0k.ag (show agr [(0, 99)] [] V114 V174 from (agr.up agr.rf hV174 rfl)) rfl) (by omega)
                  exact ihlp31 z176 z175 V174 H locs ls (by first | omega | ((try (have i_t180 := Imp.go t180 (by omega))); (try (have i_xlp31_5 := Imp.go xlp31_5 (by omega))); (try (have i_t27 := Imp.go t27 (by omega))); (try (have i_r0 := Imp.go r0 (by omega))); (try (have i_r0 := Imp.go r0 (by omega))); (try (have i_t27 := Imp.go t27 (by omega))); (try (have i_xlp31_5 := Imp.go xlp31_5 (by omega))); (try (have i_t180 := Imp.go t180 (by omega))); omega)) (show (V174 0 93).toInt = (V 0 93).toInt from by first | omega | ((try (have i_t180 := Imp.go t180 (by omega))); (try (have i_xlp31_5 := Imp.go xlp31_5 (by omega))); (try (have i_t27 := Imp.go t27 (by omega))); (try (have i_r0 := Imp.go r0 (by omega))); (try (have i_r0 := Imp.go r0 (by omega))); (try (have i_t27 := Imp.go t27 (by omega))); (try (have i_xlp31_5 := Imp.go xlp31_5 (by omega))); (try (have i_t180 := Imp.go t180 (by omega))); omega)) (show (V174 0 98).toInt = (V 0 98).toInt from by first | omega | ((try (have i_t180 := Imp.go t180 (by omega))); (try (have i_xlp31_5 := Imp.go xlp31_5 (by omega))); (try (have i_t27 := Imp.go t27 (by omega))); (try (have i_r0 := Imp.go r0 (by omega))); (try (have i_r0 := Imp.go r0 (by omega))); (try (have i_t27 := Imp.go t27 (by omega))); (try (have i_xlp31_5 := Imp.go xlp31_5 (by omega))); (try (have i_t180 := Imp.go t180 (by omega))); omega)) (show (V174 0 65).toInt ≤ (V174 0 60).toInt from by first | omega | ((try (have i_t180 := Imp.go t180 (by omega))); (try (have i_xlp31_5 := Imp.go xlp31_5 (by omega))); (try (have i_t27 := Imp.go t27 (by omega))); (try (have i_r0 := Imp.go r0 (by omega))); (try (have i_r0 := Imp.go r0 (by omega))); (try (have i_t27 := Imp.go t27 (by omega))); (try (have i_xlp31_5 := Imp.go xlp31_5 (by omega))); (try (have i_t180 := Imp.go t180 (by omega))); omega)) (show (V174 0 73).toInt - (V174 0 65).toInt + (mu V174 : Int) ≤ (V 0 73).toInt - (V 0 65).toInt + (mu V : Int) from by first | omega | ((try (have i_t180 := Imp.go t180 (by omega))); (try (have i_xlp31_5 := Imp.go xlp31_5 (by omega))); (try (have i_t27 := Imp.go t27 (by omega))); (try (have i_r0 := Imp.go r0 (by omega))); (try (have i_r0 := Imp.go r0 (by omega))); (try (have i_t27 := Imp.go t27 (by omega))); (try (have i_xlp31_5 := Imp.go xlp31_5 (by omega))); (try (have i_t180 := Imp.go t180 (by omega))); omega)) (show (V174 0 76).toInt - (V174 0 69).toInt - (V174 0 73).toInt ≤ (V 0 76).toInt - (V 0 69).toInt - (V 0 73).toInt from by first | omega | ((try (have i_t180 := Imp.go t180 (by omega))); (try (have i_xlp31_5 := Imp.go xlp31_5 (by omega))); (try (have i_t27 := Imp.go t27 (by omega))); (try (have i_r0 := Imp.go r0 (by omega))); (try (have i_r0 := Imp.go r0 (by omega))); (try (have i_t27 := Imp.go t27 (by omega))); (try (have i_xlp31_5 := Imp.go xlp31_5 (by omega))); (try (have i_t180 := Imp.go t180 (by omega))); omega)) (Imp.mk (fun hp => have hp : 0 ≤ z176.toInt := hp; (show (V174 63 (Int32.toNatClampNeg z176)).toInt = 1 from by first | omega | ((try (have i_t180 := Imp.go t180 (by omega))); (try (have i_xlp31_5 := Imp.go xlp31_5 (by omega))); (try (have i_t27 := Imp.go t27 (by omega))); (try (have i_r0 := Imp.go r0 (by omega))); (try (have i_r0 := Imp.go r0 (by omega))); (try (have i_t27 := Imp.go t27 (by omega))); (try (have i_xlp31_5 := Imp.go xlp31_5 (by omega))); (try (have i_t180 := Imp.go t180 (by omega))); omega)))) (show z176.toInt < (V174 0 60).toInt from by first | omega | ((try (have i_t180 := Imp.go t180 (by omega))); (try (have i_xlp31_5 := Imp.go xlp31_5 (by omega))); (try (have i_t27 := Imp.go t27 (by omega))); (try (have i_r0 := Imp.go r0 (by omega))); (try (have i_r0 := Imp.go r0 (by omega))); (try (have i_t27 := Imp.go t27 (by omega))); (try (have i_xlp31_5 := Imp.go xlp31_5 (by omega))); (try (have i_t180 := Imp.go t180 (by omega))); omega)) r0193 (by first | omega | ((try (have i_t180 := Imp.go t180 (by omega))); (try (have i_xlp31_5 := Imp.go xlp31_5 (by omega))); (try (have i_t27 := Imp.go t27 (by omega))); (try (have i_r0 := Imp.go r0 (by omega))); (try (have i_r0 := Imp.go r0 (by omega))); (try (have i_t27 := Imp.go t27 (by omega))); (try (have i_xlp31_5 := Imp.go xlp31_5 (by omega))); (try (have i_t180 := Imp.go t180 (by omega))); omega)) (agr.up (agr.tr (agr.tr agr.rf ajV30 (by decide) (by decide)) ajV114 (by decide) (by decide)) hV174 rfl) hMV174 hP hD hS (lv_sub hl [0, 1, 3, 4] rfl)
        have r194 : 0 ≤ ((V12 63 (Int32.toNatClampNeg z23))).toInt ∧ ((V12 63 (Int32.toNatClampNeg z23))).toInt ≤ 2 := hMV12 63 (Int32.toNatClampNeg z23)
        exact lp31 (((mu V12 : Int) + 1 : Int).toNat) z23 y11 V12 H locs ls (by first | omega | ((try (have i_t27 := Imp.go t27 (by omega))); (try (have i_r0 := Imp.go r0 (by omega))); (try (have i_r0 := Imp.go r0 (by omega))); (try (have i_t27 := Imp.go t27 (by omega))); omega)) (show (V12 0 93).toInt = (V 0 93).toInt from by first | omega | ((try (have i_t27 := Imp.go t27 (by omega))); (try (have i_r0 := Imp.go r0 (by omega))); (try (have i_r0 := Imp.go r0 (by omega))); (try (have i_t27 := Imp.go t27 (by omega))); omega)) (show (V12 0 98).toInt = (V 0 98).toInt from by first | omega | ((try (have i_t27 := Imp.go t27 (by omega))); (try (have i_r0 := Imp.go r0 (by omega))); (try (have i_r0 := Imp.go r0 (by omega))); (try (have i_t27 := Imp.go t27 (by omega))); omega)) (show (V12 0 65).toInt ≤ (V12 0 60).toInt from by first | omega | ((try (have i_t27 := Imp.go t27 (by omega))); (try (have i_r0 := Imp.go r0 (by omega))); (try (have i_r0 := Imp.go r0 (by omega))); (try (have i_t27 := Imp.go t27 (by omega))); omega)) (show (V12 0 73).toInt - (V12 0 65).toInt + (mu V12 : Int) ≤ (V 0 73).toInt - (V 0 65).toInt + (mu V : Int) from by first | omega | ((try (have i_t27 := Imp.go t27 (by omega))); (try (have i_r0 := Imp.go r0 (by omega))); (try (have i_r0 := Imp.go r0 (by omega))); (try (have i_t27 := Imp.go t27 (by omega))); omega)) (show (V12 0 76).toInt - (V12 0 69).toInt - (V12 0 73).toInt ≤ (V 0 76).toInt - (V 0 69).toInt - (V 0 73).toInt from by first | omega | ((try (have i_t27 := Imp.go t27 (by omega))); (try (have i_r0 := Imp.go r0 (by omega))); (try (have i_r0 := Imp.go r0 (by omega))); (try (have i_t27 := Imp.go t27 (by omega))); omega)) (Imp.mk (fun hp => have hp : 0 ≤ z23.toInt := hp; (show (V12 63 (Int32.toNatClampNeg z23)).toInt = 1 from by first | omega | ((try (have i_t27 := Imp.go t27 (by omega))); (try (have i_r0 := Imp.go r0 (by omega))); (try (have i_r0 := Imp.go r0 (by omega))); (try (have i_t27 := Imp.go t27 (by omega))); omega)))) (show z23.toInt < (V12 0 60).toInt from by first | omega | ((try (have i_t27 := Imp.go t27 (by omega))); (try (have i_r0 := Imp.go r0 (by omega))); (try (have i_r0 := Imp.go r0 (by omega))); (try (have i_t27 := Imp.go t27 (by omega))); omega)) xlp13_5 (by first | omega | ((try (have i_t27 := Imp.go t27 (by omega))); (try (have i_r0 := Imp.go r0 (by omega))); (try (have i_r0 := Imp.go r0 (by omega))); (try (have i_t27 := Imp.go t27 (by omega))); omega)) agr.rf hMV12 hP hD hS (lv_sub hl [0, 1, 2, 3] rfl)
      · skip
        have f195 : 0 < y10.toInt := b_nle rfl (by decide) c21
        refine lv_aload_n hx hb dX12_closeAll_13 rfl (lv_at hl 2 rfl) ?_
        refine va_get (D := D) (ci := 12) (v := .ref (ad 56)) (C := RX12) (T := TX12) (N := 100) hx hb hg inX12 hown hK hP 0 rfl rfl 56 (by decide) (hg _ w1766) (fun _ h9 => h9) rfl dX12_closeAll_14 ?_
        refine lv_iload_n hx hb dX12_closeAll_17 rfl (lv_at hl 0 rfl) ?_
        refine va_zald (D := D) (i := y10) hx hb hK hP 42 41 rfl rfl (i_in (a := y10.toInt) rfl (by first | omega | ((try (have i_r0 := Imp.go r0 (by omega))); omega))) dX12_closeAll_18 ?_
        have r196 : 0 ≤ ((V12 56 (Int32.toNatClampNeg y10))).toInt ∧ ((V12 56 (Int32.toNatClampNeg y10))).toInt ≤ 1 := hMV12 56 (Int32.toNatClampNeg y10)
        refine lv_if_eq (tgt := 78) hx hb dX12_closeAll_19 (by decide) (fun c197 => ?_) (fun c197 => ?_)
        · skip
          have f198 : ((V12 56 (Int32.toNatClampNeg y10))).toInt = 0 := b_eq rfl (by decide) c197
          refine lv_iconst (v := 0) hx hb dX12_closeAll_78 (by decide) ?_
          refine lv_istore (lv' := [(4, .int 0), (3, .int y10), (2, .int y11), (0, .ref (ad 0)), (1, .int p0)]) hx hb dX12_closeAll_79 hl (by decide) rfl (fun ls hl => ?_)
          refine lv_iload_n hx hb dX12_closeAll_81 rfl (lv_at hl 2 rfl) ?_
          refine lv_iload hx hb dX12_closeAll_82 (lv_at hl 0 rfl) ?_
          refine lv_if_eq (tgt := 95) hx hb dX12_closeAll_84 (by decide) (fun _ => ?_) (fun q => absurd (by decide) q)
          refine lv_iconst (v := 0) hx hb dX12_closeAll_95 (by decide) ?_
          refine lv_iadd hx hb dX12_closeAll_96 ?_
          have r199 := i_full y11
          refine lv_topi (fun z200 ez200 => ?_)
          have hz200 : z200.toInt = y11.toInt + 0 := i_add ez200 rfl (by decide) (by omega)
          refine lv_istore_n (lv' := [(2, .int z200), (4, .int 0), (3, .int y10), (0, .ref (ad 0)), (1, .int p0)]) hx hb dX12_closeAll_97 rfl hl (by decide) rfl (fun ls hl => ?_)
          obtain ⟨z201, ez201⟩ : ∃ y : Int32, y = y10 + (-1) := ⟨_, rfl⟩
          have hz201 : z201.toInt = y10.toInt + (-1) := i_add ez201 rfl (by decide) (by omega)
          refine lv_iinc (v := z201) (lv' := [(3, .int z201), (2, .int z200), (4, .int 0), (0, .ref (ad 0)), (1, .int p0)]) hx hb dX12_closeAll_98 hl (k := 2) rfl (by rw [ez201]; rfl) (by decide) rfl (fun ls hl => ?_)
          refine lv_goto (tgt := 9) hx hb dX12_closeAll_101 (by decide) ?_
          have r202 : Int32.toInt 0 = 0 := by decide
          exact ihlp13 z201 z200 V12 H locs ls (by first | omega | ((try (have i_r0 := Imp.go r0 (by omega))); omega)) (show (V12 0 93).toInt = (V 0 93).toInt from by first | omega | ((try (have i_r0 := Imp.go r0 (by omega))); omega)) (show (V12 0 98).toInt = (V 0 98).toInt from by first | omega | ((try (have i_r0 := Imp.go r0 (by omega))); omega)) (show (V12 0 65).toInt ≤ (V12 0 60).toInt from by first | omega | ((try (have i_r0 := Imp.go r0 (by omega))); omega)) (show (V12 0 73).toInt - (V12 0 65).toInt + (mu V12 : Int) ≤ (V 0 73).toInt - (V 0 65).toInt + (mu V : Int) from by first | omega | ((try (have i_r0 := Imp.go r0 (by omega))); omega)) (show (V12 0 76).toInt - (V12 0 69).toInt - (V12 0 73).toInt ≤ (V 0 76).toInt - (V 0 69).toInt - (V 0 73).toInt from by first | omega | ((try (have i_r0 := Imp.go r0 (by omega))); omega)) xlp13_5 (by first | omega | ((try (have i_r0 := Imp.go r0 (by omega))); omega)) (agr.tr agr.rf ajV12 (by decide) (by decide)) hMV12 hP hD hS (lv_sub hl [0, 1, 3, 4] rfl)
        · skip
          have f203 : ((V12 56 (Int32.toNatClampNeg y10))).toInt ≠ 0 := b_neq rfl (by decide) c197
          refine lv_aload_n hx hb dX12_closeAll_22 rfl (lv_at hl 2 rfl) ?_
          refine va_get (D := D) (ci := 12) (v := .ref (ad 57)) (C := RX12) (T := TX12) (N := 100) hx hb hg inX12 hown hK hP 0 rfl rfl 57 (by decide) (hg _ w1767) (fun _ h9 => h9) rfl dX12_closeAll_23 ?_
          refine lv_iload_n hx hb dX12_closeAll_26 rfl (lv_at hl 3 rfl) ?_
          refine va_iald (D := D) (i := p0) hx hb hK hP 43 42 rfl rfl (i_in (a := p0.toInt) rfl (by first | omega | ((try (have i_r0 := Imp.go r0 (by omega))); omega))) dX12_closeAll_27 ?_
          refine g_top (v := (V 57 (Int32.toNatClampNeg p0))) (ajV12 57 (Int32.toNatClampNeg p0) rfl) ?_
          refine lv_if_ne (tgt := 44) hx hb dX12_closeAll_28 (by decide) (fun c204 => ?_) (fun c204 => ?_)
          · skip
            have f205 : ((V 57 (Int32.toNatClampNeg p0))).toInt ≠ 0 := b_neq rfl (by decide) c204
            refine lv_aload_n hx hb dX12_closeAll_44 rfl (lv_at hl 2 rfl) ?_
            refine va_get (D := D) (ci := 12) (v := .ref (ad 57)) (C := RX12) (T := TX12) (N := 100) hx hb hg inX12 hown hK hP 0 rfl rfl 57 (by decide) (hg _ w1767) (fun _ h9 => h9) rfl dX12_closeAll_45 ?_
            refine lv_iload_n hx hb dX12_closeAll_48 rfl (lv_at hl 3 rfl) ?_
            refine va_iald (D := D) (i := p0) hx hb hK hP 43 42 rfl rfl (i_in (a := p0.toInt) rfl (by first | omega | ((try (have i_r0 := Imp.go r0 (by omega))); omega))) dX12_closeAll_49 ?_
            refine g_top (v := (V 57 (Int32.toNatClampNeg p0))) (ajV12 57 (Int32.toNatClampNeg p0) rfl) ?_
            refine lv_iconst (v := 1) hx hb dX12_closeAll_50 (by decide) ?_
            refine lv_icmp_ne (tgt := 78) hx hb dX12_closeAll_51 (by decide) (fun c206 => ?_) (fun c206 => ?_)
            · skip
              have f207 : ((V 57 (Int32.toNatClampNeg p0))).toInt ≠ 1 := b_neq rfl (by decide) c206
              refine lv_iconst (v := 0) hx hb dX12_closeAll_78 (by decide) ?_
              refine lv_istore (lv' := [(4, .int 0), (3, .int y10), (2, .int y11), (0, .ref (ad 0)), (1, .int p0)]) hx hb dX12_closeAll_79 hl (by decide) rfl (fun ls hl => ?_)
              refine lv_iload_n hx hb dX12_closeAll_81 rfl (lv_at hl 2 rfl) ?_
              refine lv_iload hx hb dX12_closeAll_82 (lv_at hl 0 rfl) ?_
              refine lv_if_eq (tgt := 95) hx hb dX12_closeAll_84 (by decide) (fun _ => ?_) (fun q => absurd (by decide) q)
              refine lv_iconst (v := 0) hx hb dX12_closeAll_95 (by decide) ?_
              refine lv_iadd hx hb dX12_closeAll_96 ?_
              have r208 := i_full y11
              refine lv_topi (fun z209 ez209 => ?_)
              have hz209 : z209.toInt = y11.toInt + 0 := i_add ez209 rfl (by decide) (by omega)
              refine lv_istore_n (lv' := [(2, .int z209), (4, .int 0), (3, .int y10), (0, .ref (ad 0)), (1, .int p0)]) hx hb dX12_closeAll_97 rfl hl (by decide) rfl (fun ls hl => ?_)
              obtain ⟨z210, ez210⟩ : ∃ y : Int32, y = y10 + (-1) := ⟨_, rfl⟩
              have hz210 : z210.toInt = y10.toInt + (-1) := i_add ez210 rfl (by decide) (by omega)
              refine lv_iinc (v := z210) (lv' := [(3, .int z210), (2, .int z209), (4, .int 0), (0, .ref (ad 0)), (1, .int p0)]) hx hb dX12_closeAll_98 hl (k := 2) rfl (by rw [ez210]; rfl) (by decide) rfl (fun ls hl => ?_)
              refine lv_goto (tgt := 9) hx hb dX12_closeAll_101 (by decide) ?_
              have r211 : Int32.toInt 0 = 0 := by decide
              exact ihlp13 z210 z209 V12 H locs ls (by first | omega | ((try (have i_r0 := Imp.go r0 (by omega))); omega)) (show (V12 0 93).toInt = (V 0 93).toInt from by first | omega | ((try (have i_r0 := Imp.go r0 (by omega))); omega)) (show (V12 0 98).toInt = (V 0 98).toInt from by first | omega | ((try (have i_r0 := Imp.go r0 (by omega))); omega)) (show (V12 0 65).toInt ≤ (V12 0 60).toInt from by first | omega | ((try (have i_r0 := Imp.go r0 (by omega))); omega)) (show (V12 0 73).toInt - (V12 0 65).toInt + (mu V12 : Int) ≤ (V 0 73).toInt - (V 0 65).toInt + (mu V : Int) from by first | omega | ((try (have i_r0 := Imp.go r0 (by omega))); omega)) (show (V12 0 76).toInt - (V12 0 69).toInt - (V12 0 73).toInt ≤ (V 0 76).toInt - (V 0 69).toInt - (V 0 73).toInt from by first | omega | ((try (have i_r0 := Imp.go r0 (by omega))); omega)) xlp13_5 (by first | omega | ((try (have i_r0 := Imp.go r0 (by omega))); omega)) (agr.tr agr.rf ajV12 (by decide) (by decide)) hMV12 hP hD hS (lv_sub hl [0, 1, 3, 4] rfl)
            · skip
              have f212 : ((V 57 (Int32.toNatClampNeg p0))).toInt = 1 := b_eq rfl (by decide) c206
              refine lv_aload_n hx hb dX12_closeAll_54 rfl (lv_at hl 2 rfl) ?_
              refine va_get (D := D) (ci := 12) (v := .ref (ad 57)) (C := RX12) (T := TX12) (N := 100) hx hb hg inX12 hown hK hP 0 rfl rfl 57 (by decide) (hg _ w1767) (fun _ h9 => h9) rfl dX12_closeAll_55 ?_
              refine lv_iload_n hx hb dX12_closeAll_58 rfl (lv_at hl 0 rfl) ?_
              refine va_iald (D := D) (i := y10) hx hb hK hP 43 42 rfl rfl (i_in (a := y10.toInt) rfl (by first | omega | ((try (have i_r0 := Imp.go r0 (by omega))); omega))) dX12_closeAll_59 ?_
              refine g_top (v := (V 57 (Int32.toNatClampNeg y10))) (ajV12 57 (Int32.toNatClampNeg y10) rfl) ?_
              refine lv_iconst (v := 2) hx hb dX12_closeAll_60 (by decide) ?_
              refine lv_icmp_ne (tgt := 78) hx hb dX12_closeAll_61 (by decide) (fun c213 => ?_) (fun c213 => ?_)
              · skip
                have f214 : ((V 57 (Int32.toNatClampNeg y10))).toInt ≠ 2 := b_neq rfl (by decide) c213
                refine lv_iconst (v := 0) hx hb dX12_closeAll_78 (by decide) ?_
                refine lv_istore (lv' := [(4, .int 0), (3, .int y10), (2, .int y11), (0, .ref (ad 0)), (1, .int p0)]) hx hb dX12_closeAll_79 hl (by decide) rfl (fun ls hl => ?_)
                refine lv_iload_n hx hb dX12_closeAll_81 rfl (lv_at hl 2 rfl) ?_
                refine lv_iload hx hb dX12_closeAll_82 (lv_at hl 0 rfl) ?_
                refine lv_if_eq (tgt := 95) hx hb dX12_closeAll_84 (by decide) (fun _ => ?_) (fun q => absurd (by decide) q)
                refine lv_iconst (v := 0) hx hb dX12_closeAll_95 (by decide) ?_
                refine lv_iadd hx hb dX12_closeAll_96 ?_
                have r215 := i_full y11
                refine lv_topi (fun z216 ez216 => ?_)
                have hz216 : z216.toInt = y11.toInt + 0 := i_add ez216 rfl (by decide) (by omega)
                refine lv_istore_n (lv' := [(2, .int z216), (4, .int 0), (3, .int y10), (0, .ref (ad 0)), (1, .int p0)]) hx hb dX12_closeAll_97 rfl hl (by decide) rfl (fun ls hl => ?_)
                obtain ⟨z217, ez217⟩ : ∃ y : Int32, y = y10 + (-1) := ⟨_, rfl⟩
                have hz217 : z217.toInt = y10.toInt + (-1) := i_add ez217 rfl (by decide) (by omega)
                refine lv_iinc (v := z217) (lv' := [(3, .int z217), (2, .int z216), (4, .int 0), (0, .ref (ad 0)), (1, .int p0)]) hx hb dX12_closeAll_98 hl (k := 2) rfl (by rw [ez217]; rfl) (by decide) rfl (fun ls hl => ?_)
                refine lv_goto (tgt := 9) hx hb dX12_closeAll_101 (by decide) ?_
                have r218 : Int32.toInt 0 = 0 := by decide
                exact ihlp13 z217 z216 V12 H locs ls (by first | omega | ((try (have i_r0 := Imp.go r0 (by omega))); omega)) (show (V12 0 93).toInt = (V 0 93).toInt from by first | omega | ((try (have i_r0 := Imp.go r0 (by omega))); omega)) (show (V12 0 98).toInt = (V 0 98).toInt from by first | omega | ((try (have i_r0 := Imp.go r0 (by omega))); omega)) (show (V12 0 65).toInt ≤ (V12 0 60).toInt from by first | omega | ((try (have i_r0 := Imp.go r0 (by omega))); omega)) (show (V12 0 73).toInt - (V12 0 65).toInt + (mu V12 : Int) ≤ (V 0 73).toInt - (V 0 65).toInt + (mu V : Int) from by first | omega | ((try (have i_r0 := Imp.go r0 (by omega))); omega)) (show (V12 0 76).toInt - (V12 0 69).toInt - (V12 0 73).toInt ≤ (V 0 76).toInt - (V 0 69).toInt - (V 0 73).toInt from by first | omega | ((try (have i_r0 := Imp.go r0 (by omega))); omega)) xlp13_5 (by first | omega | ((try (have i_r0 := Imp.go r0 (by omega))); omega)) (agr.tr agr.rf ajV12 (by decide) (by decide)) hMV12 hP hD hS (lv_sub hl [0, 1, 3, 4] rfl)
              · skip
                have f219 : ((V 57 (Int32.toNatClampNeg y10))).toInt = 2 := b_eq rfl (by decide) c213
                refine lv_aload_n hx hb dX12_closeAll_64 rfl (lv_at hl 2 rfl) ?_
                refine va_get (D := D) (ci := 12) (v := .ref (ad 58)) (C := RX12) (T := TX12) (N := 100) hx hb hg inX12 hown hK hP 0 rfl rfl 58 (by decide) (hg _ w1768) (fun _ h9 => h9) rfl dX12_closeAll_65 ?_
                refine lv_iload_n hx hb dX12_closeAll_68 rfl (lv_at hl 0 rfl) ?_
                refine va_iald (D := D) (i := y10) hx hb hK hP 44 43 rfl rfl (i_in (a := y10.toInt) rfl (by first | omega | ((try (have i_r0 := Imp.go r0 (by omega))); omega))) dX12_closeAll_69 ?_
                refine g_top (v := (V 58 (Int32.toNatClampNeg y10))) (ajV12 58 (Int32.toNatClampNeg y10) rfl) ?_
                have r220 : (-1) ≤ ((V 58 (Int32.toNatClampNeg y10))).toInt ∧ ((V 58 (Int32.toNatClampNeg y10))).toInt ≤ 39 := hMV 58 (Int32.toNatClampNeg y10)
                refine lv_iload_n hx hb dX12_closeAll_70 rfl (lv_at hl 3 rfl) ?_
                refine lv_icmp_ne (tgt := 78) hx hb dX12_closeAll_71 (by decide) (fun c221 => ?_) (fun c221 => ?_)
                · skip
                  have f222 : ((V 58 (Int32.toNatClampNeg y10))).toInt ≠ p0.toInt := b_neq rfl rfl c221
                  refine lv_iconst (v := 0) hx hb dX12_closeAll_78 (by decide) ?_
                  refine lv_istore (lv' := [(4, .int 0), (3, .int y10), (2, .int y11), (0, .ref (ad 0)), (1, .int p0)]) hx hb dX12_closeAll_79 hl (by decide) rfl (fun ls hl => ?_)
                  refine lv_iload_n hx hb dX12_closeAll_81 rfl (lv_at hl 2 rfl) ?_
                  refine lv_iload hx hb dX12_closeAll_82 (lv_at hl 0 rfl) ?_
                  refine lv_if_eq (tgt := 95) hx hb dX12_closeAll_84 (by decide) (fun _ => ?_) (fun q => absurd (by decide) q)
                  refine lv_iconst (v := 0) hx hb dX12_closeAll_95 (by decide) ?_
                  refine lv_iadd hx hb dX12_closeAll_96 ?_
                  have r223 := i_full y11
                  refine lv_topi (fun z224 ez224 => ?_)
                  have hz224 : z224.toInt = y11.toInt + 0 := i_add ez224 rfl (by decide) (by omega)
                  refine lv_istore_n (lv' := [(2, .int z224), (4, .int 0), (3, .int y10), (0, .ref (ad 0)), (1, .int p0)]) hx hb dX12_closeAll_97 rfl hl (by decide) rfl (fun ls hl => ?_)
                  obtain ⟨z225, ez225⟩ : ∃ y : Int32, y = y10 + (-1) := ⟨_, rfl⟩
                  have hz225 : z225.toInt = y10.toInt + (-1) := i_add ez225 rfl (by decide) (by omega)
                  refine lv_iinc (v := z225) (lv' := [(3, .int z225), (2, .int z224), (4, .int 0), (0, .ref (ad 0)), (1, .int p0)]) hx hb dX12_closeAll_98 hl (k := 2) rfl (by rw [ez225]; rfl) (by decide) rfl (fun ls hl => ?_)
                  refine lv_goto (tgt := 9) hx hb dX12_closeAll_101 (by decide) ?_
                  have r226 : Int32.toInt 0 = 0 := by decide
                  exact ihlp13 z225 z224 V12 H locs ls (by first | omega | ((try (have i_r0 := Imp.go r0 (by omega))); omega)) (show (V12 0 93).toInt = (V 0 93).toInt from by first | omega | ((try (have i_r0 := Imp.go r0 (by omega))); omega)) (show (V12 0 98).toInt = (V 0 98).toInt from by first | omega | ((try (have i_r0 := Imp.go r0 (by omega))); omega)) (show (V12 0 65).toInt ≤ (V12 0 60).toInt from by first | omega | ((try (have i_r0 := Imp.go r0 (by omega))); omega)) (show (V12 0 73).toInt - (V12 0 65).toInt + (mu V12 : Int) ≤ (V 0 73).toInt - (V 0 65).toInt + (mu V : Int) from by first | omega | ((try (have i_r0 := Imp.go r0 (by omega))); omega)) (show (V12 0 76).toInt - (V12 0 69).toInt - (V12 0 73).toInt ≤ (V 0 76).toInt - (V 0 69).toInt - (V 0 73).toInt from by first | omega | ((try (have i_r0 := Imp.go r0 (by omega))); omega)) xlp13_5 (by first | omega | ((try (have i_r0 := Imp.go r0 (by omega))); omega)) (agr.tr agr.rf ajV12 (by decide) (by decide)) hMV12 hP hD hS (lv_sub hl [0, 1, 3, 4] rfl)
                · skip
                  have f227 : ((V 58 (Int32.toNatClampNeg y10))).toInt = p0.toInt := b_eq rfl rfl c221
                  refine lv_iconst (v := 1) hx hb dX12_closeAll_74 (by decide) ?_
                  refine lv_goto (tgt := 79) hx hb dX12_closeAll_75 (by decide) ?_
                  refine lv_istore (lv' := [(4, .int 1), (3, .int y10), (2, .int y11), (0, .ref (ad 0)), (1, .int p0)]) hx hb dX12_closeAll_79 hl (by decide) rfl (fun ls hl => ?_)
                  refine lv_iload_n hx hb dX12_closeAll_81 rfl (lv_at hl 2 rfl) ?_
                  refine lv_iload hx hb dX12_closeAll_82 (lv_at hl 0 rfl) ?_
                  refine lv_if_eq (tgt := 95) hx hb dX12_closeAll_84 (by decide) (fun q => absurd q (by decide)) (fun _ => ?_)
                  obtain ⟨d9, hd9⟩ : ∃ d9, d3 = d9 + 1 := ⟨d3 - 1, by first | omega | ((try (have i_r0 := Imp.go r0 (by omega))); omega)⟩
                  refine lv_aload_n hx hb dX12_closeAll_87 rfl (lv_at hl 3 rfl) ?_
                  refine lv_iload_n hx hb dX12_closeAll_88 rfl (lv_at hl 1 rfl) ?_
                  have pq228 : (V12 57 (Int32.toNatClampNeg y10)).toInt = ((V 57 (Int32.toNatClampNeg y10))).toInt := congrArg Int32.toInt (ajV12 57 (Int32.toNatClampNeg y10) rfl)
                  refine gA_int (gA_runV (As := [.int y10]) (rest := [.int y11]) (ci := 12) (q0 := 0) hx hb hml hown hg hP hD hK hS hA hnw hgk ((hk_s_closeAll d9 hd9) H.size ad kk V12 L y10 hMV12 (by first | omega | ((try (have i_r0 := Imp.go r0 (by omega))); omega)) xlp13_5 (show (V12 0 65).toInt ≤ (V12 0 60).toInt from by first | omega | ((try (have i_r0 := Imp.go r0 (by omega))); omega)) (show (V12 0 73).toInt - (V12 0 65).toInt + (mu V12 : Int) ≤ 998000 from by first | omega | ((try (have i_r0 := Imp.go r0 (by omega))); omega)) (show (V12 0 76).toInt - (V12 0 69).toInt - (V12 0 73).toInt ≤ 1000000000 from by first | omega | ((try (have i_r0 := Imp.go r0 (by omega))); omega)) (show (V12 0 98).toInt = 0 from by first | omega | ((try (have i_r0 := Imp.go r0 (by omega))); omega)) (show (V12 0 93).toInt = 0 from by first | omega | ((try (have i_r0 := Imp.go r0 (by omega))); omega)) (show 2 ≤ ((d9 : Nat) : Int) ∨ ((V12 57 (Int32.toNatClampNeg y10)).toInt ≠ 0 ∧ (1 ≤ ((d9 : Nat) : Int) ∨ (V12 57 (Int32.toNatClampNeg y10)).toInt ≠ 1)) from by first | omega | ((try (have i_r0 := Imp.go r0 (by omega))); omega))) w2348 w2350 w153 w172 w2351 rfl rfl hdV_yX12_closeAll ⟨(by show (2 * (d9) + 1616) + 1 ≤ (2 * d3 + 1616); omega), (by show 8 + (5 + 11) + (40 * (d9) + 40600) ≤ (40 * d3 + 40600); omega)⟩ rfl hl.1 rfl (Nat.le_of_ble_eq_true rfl) dX12_closeAll_89 ⟨Nat.le_of_ble_eq_true rfl, Nat.le_of_ble_eq_true rfl⟩) hP hD hK hS hA (fun z229 u230 H locs w231 hP hD hK hS => ?_)
                  obtain ⟨V238, L239⟩ := u230
                  obtain ⟨hMV238, ajV238, axL239, t232, t233, t234, t235, t236, t237⟩ := w231
                  have axL239 : L = L239 := Eq.symm axL239
                  subst axL239
                  have hP : va_P D vwCl (mw ad kk ks.1 V238 L) H := hP
                  have hD : va_D A (mw ad kk ks.1 V238 L) := hD
                  have hMV238 : rgd bM V238 := hMV238
                  have ajV238 : agr [(0, 60), (0, 65), (0, 68), (0, 69), (0, 73), (0, 76), (0, 90), (0, 91), (0, 92), (0, 93), (0, 95), (0, 96), (0, 98), (0, 99)] [56, 59, 61, 62, 63, 64, 66, 67, 74, 75, 77, 78, 79, 80, 94, 97] V12 V238 := ajV238
                  have agV238 : agr [(0, 60), (0, 65), (0, 68), (0, 69), (0, 73), (0, 76), (0, 90), (0, 91), (0, 92), (0, 93), (0, 95), (0, 96), (0, 98), (0, 99)] [56, 59, 61, 62, 63, 64, 66, 67, 74, 75, 77, 78, 79, 80, 94, 97] V V238 := agV12.tr ajV238 (by decide) (by decide)
                  have t232 : (V238 0 93).toInt = (V12 0 93).toInt := t232
                  have t233 : (V238 0 98).toInt = (V12 0 98).toInt := t233
                  have t234 : (V238 0 65).toInt ≤ (V238 0 60).toInt := t234
                  have t235 : (V238 0 73).toInt - (V238 0 65).toInt + (mu V238 : Int) ≤ (V12 0 73).toInt - (V12 0 65).toInt + (mu V12 : Int) := t235
                  have t236 : (V238 0 76).toInt - (V238 0 69).toInt - (V238 0 73).toInt ≤ (V12 0 76).toInt - (V12 0 69).toInt - (V12 0 73).toInt := t236
                  have t237 : RT0 V238 := t237
                  have r240 : 0 ≤ ((V238 0 93)).toInt ∧ ((V238 0 93)).toInt ≤ 10 := hMV238 0 93
                  have r241 : 0 ≤ ((V238 0 98)).toInt ∧ ((V238 0 98)).toInt ≤ 20000 := hMV238 0 98
                  have r242 : 0 ≤ ((V238 0 65)).toInt ∧ ((V238 0 65)).toInt ≤ 1000000 := hMV238 0 65
                  have r243 : 0 ≤ ((V238 0 60)).toInt ∧ ((V238 0 60)).toInt ≤ 300 := hMV238 0 60
                  have r244 : 0 ≤ ((V238 0 73)).toInt ∧ ((V238 0 73)).toInt ≤ 1000000 := hMV238 0 73
                  have r245 : 0 ≤ ((V238 0 76)).toInt ∧ ((V238 0 76)).toInt ≤ 2000000000 := hMV238 0 76
                  have r246 : 0 ≤ ((V238 0 69)).toInt ∧ ((V238 0 69)).toInt ≤ 3000 := hMV238 0 69
                  refine lv_goto (tgt := 96) hx hb dX12_closeAll_92 (by decide) ?_
                  refine lv_iadd hx hb dX12_closeAll_96 ?_
                  have r247 := i_full y11
                  have r248 := i_full z229
                  refine lv_topi (fun z249 ez249 => ?_)
                  have hz249 : Imp (-2147483648 ≤ y11.toInt + z229.toInt ∧ y11.toInt + z229.toInt ≤ 2147483647) (z249.toInt = y11.toInt + z229.toInt) := Imp.mk (fun hp => i_add ez249 rfl rfl hp)
                  refine lv_istore_n (lv' := [(2, .int z249), (4, .int 1), (3, .int y10), (0, .ref (ad 0)), (1, .int p0)]) hx hb dX12_closeAll_97 rfl hl (by decide) rfl (fun ls hl => ?_)
                  obtain ⟨z250, ez250⟩ : ∃ y : Int32, y = y10 + (-1) := ⟨_, rfl⟩
                  have hz250 : z250.toInt = y10.toInt + (-1) := i_add ez250 rfl (by decide) (by omega)
                  refine lv_iinc (v := z250) (lv' := [(3, .int z250), (2, .int z249), (4, .int 1), (0, .ref (ad 0)), (1, .int p0)]) hx hb dX12_closeAll_98 hl (k := 2) rfl (by rw [ez250]; rfl) (by decide) rfl (fun ls hl => ?_)
                  refine lv_goto (tgt := 9) hx hb dX12_closeAll_101 (by decide) ?_
                  have r251 : Int32.toInt 1 = 1 := by decide
                  exact ihlp13 z250 z249 V238 H locs ls (by first | omega | ((try (have i_hz249 := Imp.go hz249 (by omega))); (try (have i_r0 := Imp.go r0 (by omega))); (try (have i_r0 := Imp.go r0 (by omega))); (try (have i_hz249 := Imp.go hz249 (by omega))); omega)) (show (V238 0 93).toInt = (V 0 93).toInt from by first | omega | ((try (have i_hz249 := Imp.go hz249 (by omega))); (try (have i_r0 := Imp.go r0 (by omega))); (try (have i_r0 := Imp.go r0 (by omega))); (try (have i_hz249 := Imp.go hz249 (by omega))); omega)) (show (V238 0 98).toInt = (V 0 98).toInt from by first | omega | ((try (have i_hz249 := Imp.go hz249 (by omega))); (try (have i_r0 := Imp.go r0 (by omega))); (try (have i_r0 := Imp.go r0 (by omega))); (try (have i_hz249 := Imp.go hz249 (by omega))); omega)) (show (V238 0 65).toInt ≤ (V238 0 60).toInt from by first | omega | ((try (have i_hz249 := Imp.go hz249 (by omega))); (try (have i_r0 := Imp.go r0 (by omega))); (try (have i_r0 := Imp.go r0 (by omega))); (try (have i_hz249 := Imp.go hz249 (by omega))); omega)) (show (V238 0 73).toInt - (V238 0 65).toInt + (mu V238 : Int) ≤ (V 0 73).toInt - (V 0 65).toInt + (mu V : Int) from by first | omega | ((try (have i_hz249 := Imp.go hz249 (by omega))); (try (have i_r0 := Imp.go r0 (by omega))); (try (have i_r0 := Imp.go r0 (by omega))); (try (have i_hz249 := Imp.go hz249 (by omega))); omega)) (show (V238 0 76).toInt - (V238 0 69).toInt - (V238 0 73).toInt ≤ (V 0 76).toInt - (V 0 69).toInt - (V 0 73).toInt from by first | omega | ((try (have i_hz249 := Imp.go hz249 (by omega))); (try (have i_r0 := Imp.go r0 (by omega))); (try (have i_r0 := Imp.go r0 (by omega))); (try (have i_hz249 := Imp.go hz249 (by omega))); omega)) t237 (by first | omega | ((try (have i_hz249 := Imp.go hz249 (by omega))); (try (have i_r0 := Imp.go r0 (by omega))); (try (have i_r0 := Imp.go r0 (by omega))); (try (have i_hz249 := Imp.go hz249 (by omega))); omega)) (agr.tr (agr.tr agr.rf ajV12 (by decide) (by decide)) ajV238 (by decide) (by decide)) hMV238 hP hD hS (lv_sub hl [0, 1, 3, 4] rfl)
          · skip
            have f252 : ((V 57 (Int32.toNatClampNeg p0))).toInt = 0 := b_eq rfl (by decide) c204
            refine lv_aload_n hx hb dX12_closeAll_31 rfl (lv_at hl 2 rfl) ?_
            refine va_get (D := D) (ci := 12) (v := .ref (ad 57)) (C := RX12) (T := TX12) (N := 100) hx hb hg inX12 hown hK hP 0 rfl rfl 57 (by decide) (hg _ w1767) (fun _ h9 => h9) rfl dX12_closeAll_32 ?_
            refine lv_iload_n hx hb dX12_closeAll_35 rfl (lv_at hl 0 rfl) ?_
            refine va_iald (D := D) (i := y10) hx hb hK hP 43 42 rfl rfl (i_in (a := y10.toInt) rfl (by first | omega | ((try (have i_r0 := Imp.go r0 (by omega))); omega))) dX12_closeAll_36 ?_
            refine g_top (v := (V 57 (Int32.toNatClampNeg y10))) (ajV12 57 (Int32.toNatClampNeg y10) rfl) ?_
            refine lv_iconst (v := 1) hx hb dX12_closeAll_37 (by decide) ?_
            refine lv_icmp_ne (tgt := 78) hx hb dX12_closeAll_38 (by decide) (fun c253 => ?_) (fun c253 => ?_)
            · skip
              have f254 : ((V 57 (Int32.toNatClampNeg y10))).toInt ≠ 1 := b_neq rfl (by decide) c253
              refine lv_iconst (v := 0) hx hb dX12_closeAll_78 (by decide) ?_
              refine lv_istore (lv' := [(4, .int 0), (3, .int y10), (2, .int y11), (0, .ref (ad 0)), (1, .int p0)]) hx hb dX12_closeAll_79 hl (by decide) rfl (fun ls hl => ?_)
              refine lv_iload_n hx hb dX12_closeAll_81 rfl (lv_at hl 2 rfl) ?_
              refine lv_iload hx hb dX12_closeAll_82 (lv_at hl 0 rfl) ?_
              refine lv_if_eq (tgt := 95) hx hb dX12_closeAll_84 (by decide) (fun _ => ?_) (fun q => absurd (by decide) q)
              refine lv_iconst (v := 0) hx hb dX12_closeAll_95 (by decide) ?_
              refine lv_iadd hx hb dX12_closeAll_96 ?_
              have r255 := i_full y11
              refine lv_topi (fun z256 ez256 => ?_)
              have hz256 : z256.toInt = y11.toInt + 0 := i_add ez256 rfl (by decide) (by omega)
              refine lv_istore_n (lv' := [(2, .int z256), (4, .int 0), (3, .int y10), (0, .ref (ad 0)), (1, .int p0)]) hx hb dX12_closeAll_97 rfl hl (by decide) rfl (fun ls hl => ?_)
              obtain ⟨z257, ez257⟩ : ∃ y : Int32, y = y10 + (-1) := ⟨_, rfl⟩
              have hz257 : z257.toInt = y10.toInt + (-1) := i_add ez257 rfl (by decide) (by omega)
              refine lv_iinc (v := z257) (lv' := [(3, .int z257), (2, .int z256), (4, .int 0), (0, .ref (ad 0)), (1, .int p0)]) hx hb dX12_closeAll_98 hl (k := 2) rfl (by rw [ez257]; rfl) (by decide) rfl (fun ls hl => ?_)
              refine lv_goto (tgt := 9) hx hb dX12_closeAll_101 (by decide) ?_
              have r258 : Int32.toInt 0 = 0 := by decide
              exact ihlp13 z257 z256 V12 H locs ls (by first | omega | ((try (have i_r0 := Imp.go r0 (by omega))); omega)) (show (V12 0 93).toInt = (V 0 93).toInt from by first | omega | ((try (have i_r0 := Imp.go r0 (by omega))); omega)) (show (V12 0 98).toInt = (V 0 98).toInt from by first | omega | ((try (have i_r0 := Imp.go r0 (by omega))); omega)) (show (V12 0 65).toInt ≤ (V12 0 60).toInt from by first | omega | ((try (have i_r0 := Imp.go r0 (by omega))); omega)) (show (V12 0 73).toInt - (V12 0 65).toInt + (mu V12 : Int) ≤ (V 0 73).toInt - (V 0 65).toInt + (mu V : Int) from by first | omega | ((try (have i_r0 := Imp.go r0 (by omega))); omega)) (show (V12 0 76).toInt - (V12 0 69).toInt - (V12 0 73).toInt ≤ (V 0 76).toInt - (V 0 69).toInt - (V 0 73).toInt from by first | omega | ((try (have i_r0 := Imp.go r0 (by omega))); omega)) xlp13_5 (by first | omega | ((try (have i_r0 := Imp.go r0 (by omega))); omega)) (agr.tr agr.rf ajV12 (by decide) (by decide)) hMV12 hP hD hS (lv_sub hl [0, 1, 3, 4] rfl)
            · skip
              have f259 : ((V 57 (Int32.toNatClampNeg y10))).toInt = 1 := b_eq rfl (by decide) c253
              refine lv_goto (tgt := 74) hx hb dX12_closeAll_41 (by decide) ?_
              refine lv_iconst (v := 1) hx hb dX12_closeAll_74 (by decide) ?_
              refine lv_goto (tgt := 79) hx hb dX12_closeAll_75 (by decide) ?_
              refine lv_istore (lv' := [(4, .int 1), (3, .int y10), (2, .int y11), (0, .ref (ad 0)), (1, .int p0)]) hx hb dX12_closeAll_79 hl (by decide) rfl (fun ls hl => ?_)
              refine lv_iload_n hx hb dX12_closeAll_81 rfl (lv_at hl 2 rfl) ?_
              refine lv_iload hx hb dX12_closeAll_82 (lv_at hl 0 rfl) ?_
              refine lv_if_eq (tgt := 95) hx hb dX12_closeAll_84 (by decide) (fun q => absurd q (by decide)) (fun _ => ?_)
              obtain ⟨d9, hd9⟩ : ∃ d9, d3 = d9 + 1 := ⟨d3 - 1, by first | omega | ((try (have i_r0 := Imp.go r0 (by omega))); omega)⟩
              refine lv_aload_n hx hb dX12_closeAll_87 rfl (lv_at hl 3 rfl) ?_
              refine lv_iload_n hx hb dX12_closeAll_88 rfl (lv_at hl 1 rfl) ?_
              have pq260 : (V12 57 (Int32.toNatClampNeg y10)).toInt = ((V 57 (Int32.toNatClampNeg y10))).toInt := congrArg Int32.toInt (ajV12 57 (Int32.toNatClampNeg y10) rfl)
              refine gA_int (gA_runV (As := [.int y10]) (rest := [.int y11]) (ci := 12) (q0 := 0) hx hb hml hown hg hP hD hK hS hA hnw hgk ((hk_s_closeAll d9 hd9) H.size ad kk V12 L y10 hMV12 (by first | omega | ((try (have i_r0 := Imp.go r0 (by omega))); omega)) xlp13_5 (show (V12 0 65).toInt ≤ (V12 0 60).toInt from by first | omega | ((try (have i_r0 := Imp.go r0 (by omega))); omega)) (show (V12 0 73).toInt - (V12 0 65).toInt + (mu V12 : Int) ≤ 998000 from by first | omega | ((try (have i_r0 := Imp.go r0 (by omega))); omega)) (show (V12 0 76).toInt - (V12 0 69).toInt - (V12 0 73).toInt ≤ 1000000000 from by first | omega | ((try (have i_r0 := Imp.go r0 (by omega))); omega)) (show (V12 0 98).toInt = 0 from by first | omega | ((try (have i_r0 := Imp.go r0 (by omega))); omega)) (show (V12 0 93).toInt = 0 from by first | omega | ((try (have i_r0 := Imp.go r0 (by omega))); omega)) (show 2 ≤ ((d9 : Nat) : Int) ∨ ((V12 57 (Int32.toNatClampNeg y10)).toInt ≠ 0 ∧ (1 ≤ ((d9 : Nat) : Int) ∨ (V12 57 (Int32.toNatClampNeg y10)).toInt ≠ 1)) from by first | omega | ((try (have i_r0 := Imp.go r0 (by omega))); omega))) w2348 w2350 w153 w172 w2351 rfl rfl hdV_yX12_closeAll ⟨(by show (2 * (d9) + 1616) + 1 ≤ (2 * d3 + 1616); omega), (by show 8 + (5 + 11) + (40 * (d9) + 40600) ≤ (40 * d3 + 40600); omega)⟩ rfl hl.1 rfl (Nat.le_of_ble_eq_true rfl) dX12_closeAll_89 ⟨Nat.le_of_ble_eq_true rfl, Nat.le_of_ble_eq_true rfl⟩) hP hD hK hS hA (fun z261 u262 H locs w263 hP hD hK hS => ?_)
              obtain ⟨V270, L271⟩ := u262
              obtain ⟨hMV270, ajV270, axL271, t264, t265, t266, t267, t268, t269⟩ := w263
              have axL271 : L = L271 := Eq.symm axL271
              subst axL271
              have hP : va_P D vwCl (mw ad kk ks.1 V270 L) H := hP
              have hD : va_D A (mw ad kk ks.1 V270 L) := hD
              have hMV270 : rgd bM V270 := hMV270
              have ajV270 : agr [(0, 60), (0, 65), (0, 68), (0, 69), (0, 73), (0, 76), (0, 90), (0, 91), (0, 92), (0, 93), (0, 95), (0, 96), (0, 98), (0, 99)] [56, 59, 61, 62, 63, 64, 66, 67, 74, 75, 77, 78, 79, 80, 94, 97] V12 V270 := ajV270
              have agV270 : agr [(0, 60), (0, 65), (0, 68), (0, 69), (0, 73), (0, 76), (0, 90), (0, 91), (0, 92), (0, 93), (0, 95), (0, 96), (0, 98), (0, 99)] [56, 59, 61, 62, 63, 64, 66, 67, 74, 75, 77, 78, 79, 80, 94, 97] V V270 := agV12.tr ajV270 (by decide) (by decide)
              have t264 : (V270 0 93).toInt = (V12 0 93).toInt := t264
              have t265 : (V270 0 98).toInt = (V12 0 98).toInt := t265
              have t266 : (V270 0 65).toInt ≤ (V270 0 60).toInt := t266
              have t267 : (V270 0 73).toInt - (V270 0 65).toInt + (mu V270 : Int) ≤ (V12 0 73).toInt - (V12 0 65).toInt + (mu V12 : Int) := t267
              have t268 : (V270 0 76).toInt - (V270 0 69).toInt - (V270 0 73).toInt ≤ (V12 0 76).toInt - (V12 0 69).toInt - (V12 0 73).toInt := t268
              have t269 : RT0 V270 := t269
              have r272 : 0 ≤ ((V270 0 93)).toInt ∧ ((V270 0 93)).toInt ≤ 10 := hMV270 0 93
              have r273 : 0 ≤ ((V270 0 98)).toInt ∧ ((V270 0 98)).toInt ≤ 20000 := hMV270 0 98
              have r274 : 0 ≤ ((V270 0 65)).toInt ∧ ((V270 0 65)).toInt ≤ 1000000 := hMV270 0 65
              have r275 : 0 ≤ ((V270 0 60)).toInt ∧ ((V270 0 60)).toInt ≤ 300 := hMV270 0 60
              have r276 : 0 ≤ ((V270 0 73)).toInt ∧ ((V270 0 73)).toInt ≤ 1000000 := hMV270 0 73
              have r277 : 0 ≤ ((V270 0 76)).toInt ∧ ((V270 0 76)).toInt ≤ 2000000000 := hMV270 0 76
              have r278 : 0 ≤ ((V270 0 69)).toInt ∧ ((V270 0 69)).toInt ≤ 3000 := hMV270 0 69
              refine lv_goto (tgt := 96) hx hb dX12_closeAll_92 (by decide) ?_
              refine lv_iadd hx hb dX12_closeAll_96 ?_
              have r279 := i_full y11
              have r280 := i_full z261
              refine lv_topi (fun z281 ez281 => ?_)
              have hz281 : Imp (-2147483648 ≤ y11.toInt + z261.toInt ∧ y11.toInt + z261.toInt ≤ 2147483647) (z281.toInt = y11.toInt + z261.toInt) := Imp.mk (fun hp => i_add ez281 rfl rfl hp)
              refine lv_istore_n (lv' := [(2, .int z281), (4, .int 1), (3, .int y10), (0, .ref (ad 0)), (1, .int p0)]) hx hb dX12_closeAll_97 rfl hl (by decide) rfl (fun ls hl => ?_)
              obtain ⟨z282, ez282⟩ : ∃ y : Int32, y = y10 + (-1) := ⟨_, rfl⟩
              have hz282 : z282.toInt = y10.toInt + (-1) := i_add ez282 rfl (by decide) (by omega)
              refine lv_iinc (v := z282) (lv' := [(3, .int z282), (2, .int z281), (4, .int 1), (0, .ref (ad 0)), (1, .int p0)]) hx hb dX12_closeAll_98 hl (k := 2) rfl (by rw [ez282]; rfl) (by decide) rfl (fun ls hl => ?_)
              refine lv_goto (tgt := 9) hx hb dX12_closeAll_101 (by decide) ?_
              have r283 : Int32.toInt 1 = 1 := by decide
              exact ihlp13 z282 z281 V270 H locs ls (by first | omega | ((try (have i_hz281 := Imp.go hz281 (by omega))); (try (have i_r0 := Imp.go r0 (by omega))); (try (have i_r0 := Imp.go r0 (by omega))); (try (have i_hz281 := Imp.go hz281 (by omega))); omega)) (show (V270 0 93).toInt = (V 0 93).toInt from by first | omega | ((try (have i_hz281 := Imp.go hz281 (by omega))); (try (have i_r0 := Imp.go r0 (by omega))); (try (have i_r0 := Imp.go r0 (by omega))); (try (have i_hz281 := Imp.go hz281 (by omega))); omega)) (show (V270 0 98).toInt = (V 0 98).toInt from by first | omega | ((try (have i_hz281 := Imp.go hz281 (by omega))); (try (have i_r0 := Imp.go r0 (by omega))); (try (have i_r0 := Imp.go r0 (by omega))); (try (have i_hz281 := Imp.go hz281 (by omega))); omega)) (show (V270 0 65).toInt ≤ (V270 0 60).toInt from by first | omega | ((try (have i_hz281 := Imp.go hz281 (by omega))); (try (have i_r0 := Imp.go r0 (by omega))); (try (have i_r0 := Imp.go r0 (by omega))); (try (have i_hz281 := Imp.go hz281 (by omega))); omega)) (show (V270 0 73).toInt - (V270 0 65).toInt + (mu V270 : Int) ≤ (V 0 73).toInt - (V 0 65).toInt + (mu V : Int) from by first | omega | ((try (have i_hz281 := Imp.go hz281 (by omega))); (try (have i_r0 := Imp.go r0 (by omega))); (try (have i_r0 := Imp.go r0 (by omega))); (try (have i_hz281 := Imp.go hz281 (by omega))); omega)) (show (V270 0 76).toInt - (V270 0 69).toInt - (V270 0 73).toInt ≤ (V 0 76).toInt - (V 0 69).toInt - (V 0 73).toInt from by first | omega | ((try (have i_hz281 := Imp.go hz281 (by omega))); (try (have i_r0 := Imp.go r0 (by omega))); (try (have i_r0 := Imp.go r0 (by omega))); (try (have i_hz281 := Imp.go hz281 (by omega))); omega)) t269 (by first | omega | ((try (have i_hz281 := Imp.go hz281 (by omega))); (try (have i_r0 := Imp.go r0 (by omega))); (try (have i_r0 := Imp.go r0 (by omega))); (try (have i_hz281 := Imp.go hz281 (by omega))); omega)) (agr.tr (agr.tr agr.rf ajV12 (by decide) (by decide)) ajV270 (by decide) (by decide)) hMV270 hP hD hS (lv_sub hl [0, 1, 3, 4] rfl)
  have r284 : Int32.toInt 0 = 0 := by decide
  exact lp13 ((z9.toInt + 1 : Int).toNat) z9 0 V H locs ls (by first | omega | ((try (have i_r0 := Imp.go r0 (by omega))); omega)) (show (V 0 93).toInt = (V 0 93).toInt from by first | omega | ((try (have i_r0 := Imp.go r0 (by omega))); omega)) (show (V 0 98).toInt = (V 0 98).toInt from by first | omega | ((try (have i_r0 := Imp.go r0 (by omega))); omega)) (show (V 0 65).toInt ≤ (V 0 60).toInt from by first | omega | ((try (have i_r0 := Imp.go r0 (by omega))); omega)) (show (V 0 73).toInt - (V 0 65).toInt + (mu V : Int) ≤ (V 0 73).toInt - (V 0 65).toInt + (mu V : Int) from by first | omega | ((try (have i_r0 := Imp.go r0 (by omega))); omega)) (show (V 0 76).toInt - (V 0 69).toInt - (V 0 73).toInt ≤ (V 0 76).toInt - (V 0 69).toInt - (V 0 73).toInt from by first | omega | ((try (have i_r0 := Imp.go r0 (by omega))); omega)) r0 (by first | omega | ((try (have i_r0 := Imp.go r0 (by omega))); omega)) agr.rf hMV hP hD hS (lv_sub hl [0, 1, 2, 3] rfl)
theorem K_closeAll {l : Launch} {D : va_G} {ks : KS} : ∀ d3, K_s_closeAll l D ks d3
  | 0 => s_closeAll (fun d9 h => absurd h (by omega))
  | d + 1 => s_closeAll (fun d9 h => by
    have e : d9 = d := by omega
    subst e
    exact K_closeAll d9)
