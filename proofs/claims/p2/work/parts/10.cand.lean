/-- the needs of the components of the BOOK that is there have a type -/
def BV (V : Vf) : Prop := ∀ (c k : Int) (i m : Int32), 0 ≤ c → c < (V 19 (Int32.toNatClampNeg (V 0 11))).toInt → i.toInt = 24 * (V 0 11).toInt + c → 0 ≤ k → k < (V 27 (Int32.toNatClampNeg i)).toInt → m.toInt = 8 * (24 * (V 0 11).toInt + c) + k → 0 ≤ (V 28 (Int32.toNatClampNeg m)).toInt
theorem BV_agr {fs : List (Nat × Nat)} {cs : List Nat} {V W : Vf} (h : BV V) (a : agr fs cs V W) (h1 : wrL fs cs 0 11 = false) (h2 : ∀ k, wrL fs cs 19 k = false) (h3 : ∀ k, wrL fs cs 27 k = false) (h4 : ∀ k, wrL fs cs 28 k = false) : BV W := by
  intro c k i m q0 q1 q2 q3 q4 q5
  rw [a 0 11 h1] at q1 q2 q5
  rw [a _ _ (h2 _)] at q1
  rw [a _ _ (h3 _)] at q4
  rw [a _ _ (h4 _)]
  exact h c k i m q0 q1 q2 q3 q4 q5

theorem w1727 : Cond.fieldLink RX12 68 "WiringHouseModel" "componentIs" "[Z" ∈ GW := gw_mem 1727 (by decide +kernel) rfl
theorem w1734 : Cond.fieldLink RX12 89 "WiringHouseModel" "needType" "[I" ∈ GW := gw_mem 1734 (by decide +kernel) rfl
theorem w1737 : Cond.fieldLink RX12 98 "WiringHouseModel" "needCalled" "[I" ∈ GW := gw_mem 1737 (by decide +kernel) rfl
theorem w2179 : Cond.code yX12_suits cX12_suits 4 (some .boolean) ∈ GW := gw_mem 2179 (by decide +kernel) rfl
theorem w2176 : Cond.methodLink RX12 441 yX12_suits ∈ GW := gw_mem 2176 (by decide +kernel) rfl
theorem w2178 : Cond.instanceMethod yX12_suits ∈ GW := gw_mem 2178 (by decide +kernel) rfl
theorem w120 : Cond.selects RX12 yX12_suits yX12_suits ∈ GW := gw_mem 120 (by decide +kernel) rfl
theorem hdV_yX12_suits : yX12_suits.cls = RX12 ∧ yX12_suits.cls ≠ "java/lang/invoke/MethodHandle" ∧ yX12_suits.cls ≠ "java/lang/invoke/VarHandle" ∧ (parseMethodDescriptor yX12_suits.desc).map (fun d => d.parameters.length) = some 2 := by decide +kernel
theorem w1736 : Cond.fieldLink RX12 95 "WiringHouseModel" "needAll" "[Z" ∈ GW := gw_mem 1736 (by decide +kernel) rfl
theorem w1786 : Cond.fieldLink RX12 198 "WiringHouseModel" "candidates" "[I" ∈ GW := gw_mem 1786 (by decide +kernel) rfl
theorem w2175 : Cond.code yX12_candidatesOf cX12_candidatesOf 5 (some .int) ∈ GW := gw_mem 2175 (by decide +kernel) rfl
theorem w2172 : Cond.methodLink RX12 455 yX12_candidatesOf ∈ GW := gw_mem 2172 (by decide +kernel) rfl
theorem w2174 : Cond.instanceMethod yX12_candidatesOf ∈ GW := gw_mem 2174 (by decide +kernel) rfl
theorem w119 : Cond.selects RX12 yX12_candidatesOf yX12_candidatesOf ∈ GW := gw_mem 119 (by decide +kernel) rfl
theorem hdV_yX12_candidatesOf : yX12_candidatesOf.cls = RX12 ∧ yX12_candidatesOf.cls ≠ "java/lang/invoke/MethodHandle" ∧ yX12_candidatesOf.cls ≠ "java/lang/invoke/VarHandle" ∧ (parseMethodDescriptor yX12_candidatesOf.desc).map (fun d => d.parameters.length) = some 1 := by decide +kernel
theorem dX12_suits_0 : decode cX12_suits 0 = .ok (.bipush 24, 2) := by decide +kernel
theorem dX12_suits_2 : decode cX12_suits 2 = .ok (.aload_n 0, 1) := by decide +kernel
theorem dX12_suits_3 : decode cX12_suits 3 = .ok (.getfield 286, 3) := by decide +kernel
theorem dX12_suits_6 : decode cX12_suits 6 = .ok (.imul, 1) := by decide +kernel
theorem dX12_suits_7 : decode cX12_suits 7 = .ok (.iload_n 2, 1) := by decide +kernel
theorem dX12_suits_8 : decode cX12_suits 8 = .ok (.iadd, 1) := by decide +kernel
theorem dX12_suits_9 : decode cX12_suits 9 = .ok (.istore_n 3, 1) := by decide +kernel
theorem dX12_suits_10 : decode cX12_suits 10 = .ok (.aload_n 0, 1) := by decide +kernel
theorem dX12_suits_11 : decode cX12_suits 11 = .ok (.iload_n 2, 1) := by decide +kernel
theorem dX12_suits_12 : decode cX12_suits 12 = .ok (.invokevirtual 438, 3) := by decide +kernel
theorem dX12_suits_15 : decode cX12_suits 15 = .ok (.ifCond .eq 50, 3) := by decide +kernel
theorem dX12_suits_65 : decode cX12_suits 65 = .ok (.iconst 0, 1) := by decide +kernel
theorem dX12_suits_66 : decode cX12_suits 66 = .ok (.ireturn, 1) := by decide +kernel
theorem dX12_suits_18 : decode cX12_suits 18 = .ok (.aload_n 0, 1) := by decide +kernel
theorem dX12_suits_19 : decode cX12_suits 19 = .ok (.getfield 68, 3) := by decide +kernel
theorem dX12_suits_22 : decode cX12_suits 22 = .ok (.bipush 24, 2) := by decide +kernel
theorem dX12_suits_24 : decode cX12_suits 24 = .ok (.iload_n 3, 1) := by decide +kernel
theorem dX12_suits_25 : decode cX12_suits 25 = .ok (.imul, 1) := by decide +kernel
theorem dX12_suits_26 : decode cX12_suits 26 = .ok (.aload_n 0, 1) := by decide +kernel
theorem dX12_suits_27 : decode cX12_suits 27 = .ok (.getfield 89, 3) := by decide +kernel
theorem dX12_suits_30 : decode cX12_suits 30 = .ok (.iload_n 1, 1) := by decide +kernel
theorem dX12_suits_31 : decode cX12_suits 31 = .ok (.iaload, 1) := by decide +kernel
theorem dX12_suits_32 : decode cX12_suits 32 = .ok (.iadd, 1) := by decide +kernel
theorem dX12_suits_33 : decode cX12_suits 33 = .ok (.baload, 1) := by decide +kernel
theorem dX12_suits_34 : decode cX12_suits 34 = .ok (.ifCond .eq 31, 3) := by decide +kernel
theorem dX12_suits_37 : decode cX12_suits 37 = .ok (.aload_n 0, 1) := by decide +kernel
theorem dX12_suits_38 : decode cX12_suits 38 = .ok (.getfield 98, 3) := by decide +kernel
theorem dX12_suits_41 : decode cX12_suits 41 = .ok (.iload_n 1, 1) := by decide +kernel
theorem dX12_suits_42 : decode cX12_suits 42 = .ok (.iaload, 1) := by decide +kernel
theorem dX12_suits_43 : decode cX12_suits 43 = .ok (.ifCond .lt 18, 3) := by decide +kernel
theorem dX12_suits_61 : decode cX12_suits 61 = .ok (.iconst 1, 1) := by decide +kernel
theorem dX12_suits_62 : decode cX12_suits 62 = .ok (.goto 4, 3) := by decide +kernel
theorem dX12_suits_46 : decode cX12_suits 46 = .ok (.aload_n 0, 1) := by decide +kernel
theorem dX12_suits_47 : decode cX12_suits 47 = .ok (.getfield 74, 3) := by decide +kernel
theorem dX12_suits_50 : decode cX12_suits 50 = .ok (.iload_n 3, 1) := by decide +kernel
theorem dX12_suits_51 : decode cX12_suits 51 = .ok (.iaload, 1) := by decide +kernel
theorem dX12_suits_52 : decode cX12_suits 52 = .ok (.aload_n 0, 1) := by decide +kernel
theorem dX12_suits_53 : decode cX12_suits 53 = .ok (.getfield 98, 3) := by decide +kernel
theorem dX12_suits_56 : decode cX12_suits 56 = .ok (.iload_n 1, 1) := by decide +kernel
theorem dX12_suits_57 : decode cX12_suits 57 = .ok (.iaload, 1) := by decide +kernel
theorem dX12_suits_58 : decode cX12_suits 58 = .ok (.if_icmp .ne 7, 3) := by decide +kernel
theorem dX12_candidatesOf_0 : decode cX12_candidatesOf 0 = .ok (.iconst 0, 1) := by decide +kernel
theorem dX12_candidatesOf_1 : decode cX12_candidatesOf 1 = .ok (.istore_n 2, 1) := by decide +kernel
theorem dX12_candidatesOf_2 : decode cX12_candidatesOf 2 = .ok (.iconst 0, 1) := by decide +kernel
theorem dX12_candidatesOf_3 : decode cX12_candidatesOf 3 = .ok (.istore_n 3, 1) := by decide +kernel
theorem dX12_candidatesOf_4 : decode cX12_candidatesOf 4 = .ok (.iload_n 3, 1) := by decide +kernel
theorem dX12_candidatesOf_5 : decode cX12_candidatesOf 5 = .ok (.aload_n 0, 1) := by decide +kernel
theorem dX12_candidatesOf_6 : decode cX12_candidatesOf 6 = .ok (.getfield 62, 3) := by decide +kernel
theorem dX12_candidatesOf_9 : decode cX12_candidatesOf 9 = .ok (.aload_n 0, 1) := by decide +kernel
theorem dX12_candidatesOf_10 : decode cX12_candidatesOf 10 = .ok (.getfield 286, 3) := by decide +kernel
theorem dX12_candidatesOf_13 : decode cX12_candidatesOf 13 = .ok (.iaload, 1) := by decide +kernel
theorem dX12_candidatesOf_14 : decode cX12_candidatesOf 14 = .ok (.if_icmp .ge 55, 3) := by decide +kernel
theorem dX12_candidatesOf_69 : decode cX12_candidatesOf 69 = .ok (.iconst 0, 1) := by decide +kernel
theorem dX12_candidatesOf_70 : decode cX12_candidatesOf 70 = .ok (.istore_n 3, 1) := by decide +kernel
theorem dX12_candidatesOf_71 : decode cX12_candidatesOf 71 = .ok (.iconst 0, 1) := by decide +kernel
theorem dX12_candidatesOf_72 : decode cX12_candidatesOf 72 = .ok (.istore 4, 2) := by decide +kernel
theorem dX12_candidatesOf_74 : decode cX12_candidatesOf 74 = .ok (.iload 4, 2) := by decide +kernel
theorem dX12_candidatesOf_76 : decode cX12_candidatesOf 76 = .ok (.aload_n 0, 1) := by decide +kernel
theorem dX12_candidatesOf_77 : decode cX12_candidatesOf 77 = .ok (.getfield 62, 3) := by decide +kernel
theorem dX12_candidatesOf_80 : decode cX12_candidatesOf 80 = .ok (.aload_n 0, 1) := by decide +kernel
theorem dX12_candidatesOf_81 : decode cX12_candidatesOf 81 = .ok (.getfield 286, 3) := by decide +kernel
theorem dX12_candidatesOf_84 : decode cX12_candidatesOf 84 = .ok (.iaload, 1) := by decide +kernel
theorem dX12_candidatesOf_85 : decode cX12_candidatesOf 85 = .ok (.if_icmp .ge 58, 3) := by decide +kernel
theorem dX12_candidatesOf_143 : decode cX12_candidatesOf 143 = .ok (.iload_n 3, 1) := by decide +kernel
theorem dX12_candidatesOf_144 : decode cX12_candidatesOf 144 = .ok (.ireturn, 1) := by decide +kernel
theorem dX12_candidatesOf_88 : decode cX12_candidatesOf 88 = .ok (.aload_n 0, 1) := by decide +kernel
theorem dX12_candidatesOf_89 : decode cX12_candidatesOf 89 = .ok (.iload_n 1, 1) := by decide +kernel
theorem dX12_candidatesOf_90 : decode cX12_candidatesOf 90 = .ok (.iload 4, 2) := by decide +kernel
theorem dX12_candidatesOf_92 : decode cX12_candidatesOf 92 = .ok (.invokevirtual 441, 3) := by decide +kernel
theorem dX12_candidatesOf_95 : decode cX12_candidatesOf 95 = .ok (.ifCond .eq 42, 3) := by decide +kernel
theorem dX12_candidatesOf_137 : decode cX12_candidatesOf 137 = .ok (.iinc 4 1, 3) := by decide +kernel
theorem dX12_candidatesOf_140 : decode cX12_candidatesOf 140 = .ok (.goto (-66), 3) := by decide +kernel
theorem dX12_candidatesOf_98 : decode cX12_candidatesOf 98 = .ok (.aload_n 0, 1) := by decide +kernel
theorem dX12_candidatesOf_99 : decode cX12_candidatesOf 99 = .ok (.getfield 95, 3) := by decide +kernel
theorem dX12_candidatesOf_102 : decode cX12_candidatesOf 102 = .ok (.iload_n 1, 1) := by decide +kernel
theorem dX12_candidatesOf_103 : decode cX12_candidatesOf 103 = .ok (.baload, 1) := by decide +kernel
theorem dX12_candidatesOf_104 : decode cX12_candidatesOf 104 = .ok (.ifCond .ne 22, 3) := by decide +kernel
theorem dX12_candidatesOf_126 : decode cX12_candidatesOf 126 = .ok (.aload_n 0, 1) := by decide +kernel
theorem dX12_candidatesOf_127 : decode cX12_candidatesOf 127 = .ok (.getfield 198, 3) := by decide +kernel
theorem dX12_candidatesOf_130 : decode cX12_candidatesOf 130 = .ok (.iload_n 3, 1) := by decide +kernel
theorem dX12_candidatesOf_131 : decode cX12_candidatesOf 131 = .ok (.iload 4, 2) := by decide +kernel
theorem dX12_candidatesOf_133 : decode cX12_candidatesOf 133 = .ok (.iastore, 1) := by decide +kernel
theorem dX12_candidatesOf_134 : decode cX12_candidatesOf 134 = .ok (.iinc 3 1, 3) := by decide +kernel
theorem dX12_candidatesOf_107 : decode cX12_candidatesOf 107 = .ok (.aload_n 0, 1) := by decide +kernel
theorem dX12_candidatesOf_108 : decode cX12_candidatesOf 108 = .ok (.getfield 77, 3) := by decide +kernel
theorem dX12_candidatesOf_111 : decode cX12_candidatesOf 111 = .ok (.bipush 24, 2) := by decide +kernel
theorem dX12_candidatesOf_113 : decode cX12_candidatesOf 113 = .ok (.aload_n 0, 1) := by decide +kernel
theorem dX12_candidatesOf_114 : decode cX12_candidatesOf 114 = .ok (.getfield 286, 3) := by decide +kernel
theorem dX12_candidatesOf_117 : decode cX12_candidatesOf 117 = .ok (.imul, 1) := by decide +kernel
theorem dX12_candidatesOf_118 : decode cX12_candidatesOf 118 = .ok (.iload 4, 2) := by decide +kernel
theorem dX12_candidatesOf_120 : decode cX12_candidatesOf 120 = .ok (.iadd, 1) := by decide +kernel
theorem dX12_candidatesOf_121 : decode cX12_candidatesOf 121 = .ok (.iaload, 1) := by decide +kernel
theorem dX12_candidatesOf_122 : decode cX12_candidatesOf 122 = .ok (.iload_n 2, 1) := by decide +kernel
theorem dX12_candidatesOf_123 : decode cX12_candidatesOf 123 = .ok (.if_icmp .ne 14, 3) := by decide +kernel
theorem dX12_candidatesOf_17 : decode cX12_candidatesOf 17 = .ok (.aload_n 0, 1) := by decide +kernel
theorem dX12_candidatesOf_18 : decode cX12_candidatesOf 18 = .ok (.iload_n 1, 1) := by decide +kernel
theorem dX12_candidatesOf_19 : decode cX12_candidatesOf 19 = .ok (.iload_n 3, 1) := by decide +kernel
theorem dX12_candidatesOf_20 : decode cX12_candidatesOf 20 = .ok (.invokevirtual 441, 3) := by decide +kernel
theorem dX12_candidatesOf_23 : decode cX12_candidatesOf 23 = .ok (.ifCond .eq 38, 3) := by decide +kernel
theorem dX12_candidatesOf_61 : decode cX12_candidatesOf 61 = .ok (.iload_n 2, 1) := by decide +kernel
theorem dX12_candidatesOf_62 : decode cX12_candidatesOf 62 = .ok (.istore_n 2, 1) := by decide +kernel
theorem dX12_candidatesOf_63 : decode cX12_candidatesOf 63 = .ok (.iinc 3 1, 3) := by decide +kernel
theorem dX12_candidatesOf_66 : decode cX12_candidatesOf 66 = .ok (.goto (-62), 3) := by decide +kernel
theorem dX12_candidatesOf_26 : decode cX12_candidatesOf 26 = .ok (.aload_n 0, 1) := by decide +kernel
theorem dX12_candidatesOf_27 : decode cX12_candidatesOf 27 = .ok (.getfield 77, 3) := by decide +kernel
theorem dX12_candidatesOf_30 : decode cX12_candidatesOf 30 = .ok (.bipush 24, 2) := by decide +kernel
theorem dX12_candidatesOf_32 : decode cX12_candidatesOf 32 = .ok (.aload_n 0, 1) := by decide +kernel
theorem dX12_candidatesOf_33 : decode cX12_candidatesOf 33 = .ok (.getfield 286, 3) := by decide +kernel
theorem dX12_candidatesOf_36 : decode cX12_candidatesOf 36 = .ok (.imul, 1) := by decide +kernel
theorem dX12_candidatesOf_37 : decode cX12_candidatesOf 37 = .ok (.iload_n 3, 1) := by decide +kernel
theorem dX12_candidatesOf_38 : decode cX12_candidatesOf 38 = .ok (.iadd, 1) := by decide +kernel
theorem dX12_candidatesOf_39 : decode cX12_candidatesOf 39 = .ok (.iaload, 1) := by decide +kernel
theorem dX12_candidatesOf_40 : decode cX12_candidatesOf 40 = .ok (.iload_n 2, 1) := by decide +kernel
theorem dX12_candidatesOf_41 : decode cX12_candidatesOf 41 = .ok (.if_icmp .le 20, 3) := by decide +kernel
theorem dX12_candidatesOf_44 : decode cX12_candidatesOf 44 = .ok (.aload_n 0, 1) := by decide +kernel
theorem dX12_candidatesOf_45 : decode cX12_candidatesOf 45 = .ok (.getfield 77, 3) := by decide +kernel
theorem dX12_candidatesOf_48 : decode cX12_candidatesOf 48 = .ok (.bipush 24, 2) := by decide +kernel
theorem dX12_candidatesOf_50 : decode cX12_candidatesOf 50 = .ok (.aload_n 0, 1) := by decide +kernel
theorem dX12_candidatesOf_51 : decode cX12_candidatesOf 51 = .ok (.getfield 286, 3) := by decide +kernel
theorem dX12_candidatesOf_54 : decode cX12_candidatesOf 54 = .ok (.imul, 1) := by decide +kernel
theorem dX12_candidatesOf_55 : decode cX12_candidatesOf 55 = .ok (.iload_n 3, 1) := by decide +kernel
theorem dX12_candidatesOf_56 : decode cX12_candidatesOf 56 = .ok (.iadd, 1) := by decide +kernel
theorem dX12_candidatesOf_57 : decode cX12_candidatesOf 57 = .ok (.iaload, 1) := by decide +kernel
theorem dX12_candidatesOf_58 : decode cX12_candidatesOf 58 = .ok (.goto 4, 3) := by decide +kernel
theorem dX12_isCandidate_0 : decode cX12_isCandidate 0 = .ok (.aload_n 0, 1) := by decide +kernel
theorem dX12_isCandidate_1 : decode cX12_isCandidate 1 = .ok (.iload_n 1, 1) := by decide +kernel
theorem dX12_isCandidate_2 : decode cX12_isCandidate 2 = .ok (.invokevirtual 455, 3) := by decide +kernel
theorem dX12_isCandidate_5 : decode cX12_isCandidate 5 = .ok (.istore_n 3, 1) := by decide +kernel
theorem dX12_isCandidate_6 : decode cX12_isCandidate 6 = .ok (.iconst 0, 1) := by decide +kernel
theorem dX12_isCandidate_7 : decode cX12_isCandidate 7 = .ok (.istore 4, 2) := by decide +kernel
theorem dX12_isCandidate_9 : decode cX12_isCandidate 9 = .ok (.iconst 0, 1) := by decide +kernel
theorem dX12_isCandidate_10 : decode cX12_isCandidate 10 = .ok (.istore 5, 2) := by decide +kernel
theorem dX12_isCandidate_12 : decode cX12_isCandidate 12 = .ok (.iload 5, 2) := by decide +kernel
theorem dX12_isCandidate_14 : decode cX12_isCandidate 14 = .ok (.iload_n 3, 1) := by decide +kernel
theorem dX12_isCandidate_15 : decode cX12_isCandidate 15 = .ok (.if_icmp .ge 32, 3) := by decide +kernel
theorem dX12_isCandidate_47 : decode cX12_isCandidate 47 = .ok (.iload 4, 2) := by decide +kernel
theorem dX12_isCandidate_49 : decode cX12_isCandidate 49 = .ok (.ireturn, 1) := by decide +kernel
theorem dX12_isCandidate_18 : decode cX12_isCandidate 18 = .ok (.iload 4, 2) := by decide +kernel
theorem dX12_isCandidate_20 : decode cX12_isCandidate 20 = .ok (.ifCond .ne 14, 3) := by decide +kernel
theorem dX12_isCandidate_34 : decode cX12_isCandidate 34 = .ok (.iconst 1, 1) := by decide +kernel
theorem dX12_isCandidate_35 : decode cX12_isCandidate 35 = .ok (.goto 4, 3) := by decide +kernel
theorem dX12_isCandidate_39 : decode cX12_isCandidate 39 = .ok (.istore 4, 2) := by decide +kernel
theorem dX12_isCandidate_41 : decode cX12_isCandidate 41 = .ok (.iinc 5 1, 3) := by decide +kernel
theorem dX12_isCandidate_44 : decode cX12_isCandidate 44 = .ok (.goto (-32), 3) := by decide +kernel
theorem dX12_isCandidate_23 : decode cX12_isCandidate 23 = .ok (.aload_n 0, 1) := by decide +kernel
theorem dX12_isCandidate_24 : decode cX12_isCandidate 24 = .ok (.getfield 198, 3) := by decide +kernel
theorem dX12_isCandidate_27 : decode cX12_isCandidate 27 = .ok (.iload 5, 2) := by decide +kernel
theorem dX12_isCandidate_29 : decode cX12_isCandidate 29 = .ok (.iaload, 1) := by decide +kernel
theorem dX12_isCandidate_30 : decode cX12_isCandidate 30 = .ok (.iload_n 2, 1) := by decide +kernel
theorem dX12_isCandidate_31 : decode cX12_isCandidate 31 = .ok (.if_icmp .ne 7, 3) := by decide +kernel
theorem dX12_isCandidate_38 : decode cX12_isCandidate 38 = .ok (.iconst 0, 1) := by decide +kernel
abbrev r_s_suits : Room := { frames := 1, cells := 0, slots := 0, locals := 22 }
abbrev q_s_suits (D : va_G) (ks : Nat × Nat × Option Nat) (ad : Nat → Nat) (kk : Nat → ClassId) (V : Vf) (L : Lf) (p0 : Int32) (p1 : Int32) (A : Nat → Prop) : Array Value → State → Outcome → State → Prop := va_Qi (fun (r : Int32) (_ : Unit) => (0 ≤ r.toInt ∧ r.toInt ≤ 1)) (fun _ t => gq D A (mw ad kk ks.1 V L) (mty kk) t) A
set_option maxHeartbeats 4000000 in
set_option maxRecDepth 100000 in
theorem s_suits (l : Launch) (D : va_G) (ks : Nat × Nat × Option Nat) (sz : Nat) (ad : Nat → Nat) (kk : Nat → ClassId) (V : Vf) (L : Lf) (p0 : Int32) (p1 : Int32) (hMV : rgd bM V) (rg_p0 : 0 ≤ p0.toInt ∧ p0.toInt ≤ 383) (rg_p1 : 0 ≤ p1.toInt ∧ p1.toInt ≤ 23) (y1 : 0 ≤ (V 28 (Int32.toNatClampNeg p0)).toInt)  : Met l yX12_suits (Cond.code yX12_suits cX12_suits 4 (some .boolean) :: GW) r_s_suits (va_Pc [.ref (ad 0), .int p0, .int p1] (gp D ks (mw ad kk ks.1 V L) (mty kk) sz)) (q_s_suits D ks ad kk V L p0 p1 (va_A (mw ad kk ks.1 V L) sz)) 0 0 (va_A (mw ad kk ks.1 V L) sz) := by
  refine g_met (q_s_suits D ks ad kk V L p0 p1) (by decide) (Nat.le_of_ble_eq_true rfl) ?_
  intro p e s m below meth c A ls H locs hx hb hr hml hown hg hlocks hin hnw hgk hP hK hD hS hA hl
  have hown : s.vm.findClass RX12 = some m.cls := hown
  have hl : lv_has ls 4 [(0, .ref (ad 0)), (1, .int p0), (2, .int p1)] := hl
  have hP : va_P D vwCl (mw ad kk ks.1 V L) H := hP
  have hD : va_D A (mw ad kk ks.1 V L) := hD
  have hK : va_K D vwCl (mty kk) s := hK
  refine lv_bipush (v := 24) hx hb dX12_suits_0 (by decide) ?_
  refine lv_aload_n hx hb dX12_suits_2 rfl (lv_at hl 0 rfl) ?_
  refine va_get (D := D) (ci := 12) (v := .int (V 0 11)) (C := RX12) (T := TX12) (N := 100) hx hb hg inX12 hown hK hP 0 rfl rfl 11 (by decide) (hg _ w1717) (fun _ h9 => h9) rfl dX12_suits_3 ?_
  have r1 : 0 ≤ ((V 0 11)).toInt ∧ ((V 0 11)).toInt ≤ 1 := hMV 0 11
  refine lv_imul hx hb dX12_suits_6 ?_
  refine lv_topi (fun z2 ez2 => ?_)
  have hz2 : z2.toInt = 24 * ((V 0 11)).toInt := i_mul ez2 (by decide) rfl (by omega)
  refine lv_iload_n hx hb dX12_suits_7 rfl (lv_at hl 2 rfl) ?_
  refine lv_iadd hx hb dX12_suits_8 ?_
  refine lv_topi (fun z3 ez3 => ?_)
  have hz3 : z3.toInt = z2.toInt + p1.toInt := i_add ez3 rfl rfl (by omega)
  refine lv_istore_n (lv' := [(3, .int z3), (0, .ref (ad 0)), (1, .int p0), (2, .int p1)]) hx hb dX12_suits_9 rfl hl (by decide) rfl (fun ls hl => ?_)
  refine lv_aload_n hx hb dX12_suits_10 rfl (lv_at hl 1 rfl) ?_
  refine lv_iload_n hx hb dX12_suits_11 rfl (lv_at hl 3 rfl) ?_
  refine gA_int (gA_runV (As := [.int p1]) (rest := []) (ci := 12) (q0 := 0) hx hb hml hown hg hP hD hK hS hA hnw hgk (s_isThere l D ks H.size ad kk V L p1 hMV ) w2164 w2166 w117 w172 w2167 rfl rfl hdV_yX12_isThere ⟨Nat.le_of_ble_eq_true rfl, Nat.le_of_ble_eq_true rfl⟩ rfl hl.1 rfl (Nat.le_of_ble_eq_true rfl) dX12_suits_12 ⟨Nat.le_of_ble_eq_true rfl, Nat.le_of_ble_eq_true rfl⟩) hP hD hK hS hA (fun z4 u5 H locs w6 hP hD hK hS => ?_)
  obtain ⟨rgz4, t7⟩ := w6
  have rgz4 : 0 ≤ z4.toInt ∧ z4.toInt ≤ 1 := rgz4
  have t7 : Imp (z4.toInt = 1) (0 ≤ p1.toInt ∧ p1.toInt ≤ 23) := t7
  refine lv_if_eq (tgt := 65) hx hb dX12_suits_15 (by decide) (fun c8 => ?_) (fun c8 => ?_)
  · skip
    have f9 : z4.toInt = 0 := b_eq rfl (by decide) c8
    refine lv_iconst (v := 0) hx hb dX12_suits_65 (by decide) ?_
    exact W.zret (v := 0) hx hb hr rfl (fun t ht hW => ⟨⟨0, (), rfl, (by decide), by rw [ht]; exact hP, va_K.moved hW.alike hK, hD⟩, hS.F ht⟩) hS.2.2 dX12_suits_66
  · skip
    have f10 : z4.toInt ≠ 0 := b_neq rfl (by decide) c8
    refine lv_aload_n hx hb dX12_suits_18 rfl (lv_at hl 1 rfl) ?_
    refine va_get (D := D) (ci := 12) (v := .ref (ad 21)) (C := RX12) (T := TX12) (N := 100) hx hb hg inX12 hown hK hP 0 rfl rfl 21 (by decide) (hg _ w1727) (fun _ h9 => h9) rfl dX12_suits_19 ?_
    refine lv_bipush (v := 24) hx hb dX12_suits_22 (by decide) ?_
    refine lv_iload_n hx hb dX12_suits_24 rfl (lv_at hl 0 rfl) ?_
    refine lv_imul hx hb dX12_suits_25 ?_
    refine lv_topi (fun z11 ez11 => ?_)
    have hz11 : z11.toInt = 24 * z3.toInt := i_mul ez11 (by decide) rfl (by omega)
    refine lv_aload_n hx hb dX12_suits_26 rfl (lv_at hl 1 rfl) ?_
    refine va_get (D := D) (ci := 12) (v := .ref (ad 28)) (C := RX12) (T := TX12) (N := 100) hx hb hg inX12 hown hK hP 0 rfl rfl 28 (by decide) (hg _ w1734) (fun _ h9 => h9) rfl dX12_suits_27 ?_
    refine lv_iload_n hx hb dX12_suits_30 rfl (lv_at hl 2 rfl) ?_
    refine va_iald (D := D) (i := p0) hx hb hK hP 21 20 rfl rfl (i_in (a := p0.toInt) rfl (by first | omega | ((try (have i_t7 := Imp.go t7 (by omega))); omega))) dX12_suits_31 ?_
    have r12 : (-1) ≤ ((V 28 (Int32.toNatClampNeg p0))).toInt ∧ ((V 28 (Int32.toNatClampNeg p0))).toInt ≤ 23 := hMV 28 (Int32.toNatClampNeg p0)
    refine lv_iadd hx hb dX12_suits_32 ?_
    refine lv_topi (fun z13 ez13 => ?_)
    have hz13 : z13.toInt = z11.toInt + ((V 28 (Int32.toNatClampNeg p0))).toInt := i_add ez13 rfl rfl (by omega)
    refine va_zald (D := D) (i := z13) hx hb hK hP 14 13 rfl rfl (i_in (a := z13.toInt) rfl (by first | omega | ((try (have i_t7 := Imp.go t7 (by omega))); omega))) dX12_suits_33 ?_
    have r14 : 0 ≤ ((V 21 (Int32.toNatClampNeg z13))).toInt ∧ ((V 21 (Int32.toNatClampNeg z13))).toInt ≤ 1 := hMV 21 (Int32.toNatClampNeg z13)
    refine lv_if_eq (tgt := 65) hx hb dX12_suits_34 (by decide) (fun c15 => ?_) (fun c15 => ?_)
    · skip
      have f16 : ((V 21 (Int32.toNatClampNeg z13))).toInt = 0 := b_eq rfl (by decide) c15
      refine lv_iconst (v := 0) hx hb dX12_suits_65 (by decide) ?_
      exact W.zret (v := 0) hx hb hr rfl (fun t ht hW => ⟨⟨0, (), rfl, (by decide), by rw [ht]; exact hP, va_K.moved hW.alike hK, hD⟩, hS.F ht⟩) hS.2.2 dX12_suits_66
    · skip
      have f17 : ((V 21 (Int32.toNatClampNeg z13))).toInt ≠ 0 := b_neq rfl (by decide) c15
      refine lv_aload_n hx hb dX12_suits_37 rfl (lv_at hl 1 rfl) ?_
      refine va_get (D := D) (ci := 12) (v := .ref (ad 31)) (C := RX12) (T := TX12) (N := 100) hx hb hg inX12 hown hK hP 0 rfl rfl 31 (by decide) (hg _ w1737) (fun _ h9 => h9) rfl dX12_suits_38 ?_
      refine lv_iload_n hx hb dX12_suits_41 rfl (lv_at hl 2 rfl) ?_
      refine va_iald (D := D) (i := p0) hx hb hK hP 24 23 rfl rfl (i_in (a := p0.toInt) rfl (by first | omega | ((try (have i_t7 := Imp.go t7 (by omega))); omega))) dX12_suits_42 ?_
      refine lv_if_lt (tgt := 61) hx hb dX12_suits_43 (by decide) (fun c18 => ?_) (fun c18 => ?_)
      · skip
        have f19 : ((V 31 (Int32.toNatClampNeg p0))).toInt < 0 := b_lt rfl (by decide) c18
        refine lv_iconst (v := 1) hx hb dX12_suits_61 (by decide) ?_
        refine lv_goto (tgt := 66) hx hb dX12_suits_62 (by decide) ?_
        exact W.zret (v := 1) hx hb hr rfl (fun t ht hW => ⟨⟨1, (), rfl, (by decide), by rw [ht]; exact hP, va_K.moved hW.alike hK, hD⟩, hS.F ht⟩) hS.2.2 dX12_suits_66
      · skip
        have f20 : 0 ≤ ((V 31 (Int32.toNatClampNeg p0))).toInt := b_nlt rfl (by decide) c18
        refine lv_aload_n hx hb dX12_suits_46 rfl (lv_at hl 1 rfl) ?_
        refine va_get (D := D) (ci := 12) (v := .ref (ad 23)) (C := RX12) (T := TX12) (N := 100) hx hb hg inX12 hown hK hP 0 rfl rfl 23 (by decide) (hg _ w1729) (fun _ h9 => h9) rfl dX12_suits_47 ?_
        refine lv_iload_n hx hb dX12_suits_50 rfl (lv_at hl 0 rfl) ?_
        refine va_iald (D := D) (i := z3) hx hb hK hP 16 15 rfl rfl (i_in (a := z3.toInt) rfl (by first | omega | ((try (have i_t7 := Imp.go t7 (by omega))); omega))) dX12_suits_51 ?_
        refine lv_aload_n hx hb dX12_suits_52 rfl (lv_at hl 1 rfl) ?_
        refine va_get (D := D) (ci := 12) (v := .ref (ad 31)) (C := RX12) (T := TX12) (N := 100) hx hb hg inX12 hown hK hP 0 rfl rfl 31 (by decide) (hg _ w1737) (fun _ h9 => h9) rfl dX12_suits_53 ?_
        refine lv_iload_n hx hb dX12_suits_56 rfl (lv_at hl 2 rfl) ?_
        refine va_iald (D := D) (i := p0) hx hb hK hP 24 23 rfl rfl (i_in (a := p0.toInt) rfl (by first | omega | ((try (have i_t7 := Imp.go t7 (by omega))); omega))) dX12_suits_57 ?_
        refine lv_icmp_ne (tgt := 65) hx hb dX12_suits_58 (by decide) (fun c21 => ?_) (fun c21 => ?_)
        · skip
          have f22 : ((V 23 (Int32.toNatClampNeg z3))).toInt ≠ ((V 31 (Int32.toNatClampNeg p0))).toInt := b_neq rfl rfl c21
          refine lv_iconst (v := 0) hx hb dX12_suits_65 (by decide) ?_
          exact W.zret (v := 0) hx hb hr rfl (fun t ht hW => ⟨⟨0, (), rfl, (by decide), by rw [ht]; exact hP, va_K.moved hW.alike hK, hD⟩, hS.F ht⟩) hS.2.2 dX12_suits_66
        · skip
          have f23 : ((V 23 (Int32.toNatClampNeg z3))).toInt = ((V 31 (Int32.toNatClampNeg p0))).toInt := b_eq rfl rfl c21
          refine lv_iconst (v := 1) hx hb dX12_suits_61 (by decide) ?_
          refine lv_goto (tgt := 66) hx hb dX12_suits_62 (by decide) ?_
          exact W.zret (v := 1) hx hb hr rfl (fun t ht hW => ⟨⟨1, (), rfl, (by decide), by rw [ht]; exact hP, va_K.moved hW.alike hK, hD⟩, hS.F ht⟩) hS.2.2 dX12_suits_66
abbrev r_s_candidatesOf : Room := { frames := 2, cells := 0, slots := 0, locals := 45 }
abbrev q_s_candidatesOf (D : va_G) (ks : Nat × Nat × Option Nat) (ad : Nat → Nat) (kk : Nat → ClassId) (V : Vf) (L : Lf) (p0 : Int32) (A : Nat → Prop) : Array Value → State → Outcome → State → Prop := va_Qi (fun (r : Int32) (u : Vf × Lf) => rgd bM u.1 ∧ agr [] [80] V u.1 ∧ (0 ≤ r.toInt ∧ r.toInt ≤ 24)) (fun u t => gq D A (mw ad kk ks.1 u.1 u.2) (mty kk) t) A
set_option maxHeartbeats 4000000 in
set_option maxRecDepth 100000 in
theorem s_candidatesOf (l : Launch) (D : va_G) (ks : Nat × Nat × Option Nat) (sz : Nat) (ad : Nat → Nat) (kk : Nat → ClassId) (V : Vf) (L : Lf) (p0 : Int32) (hMV : rgd bM V) (rg_p0 : 0 ≤ p0.toInt ∧ p0.toInt ≤ 383) (y1 : 0 ≤ (V 28 (Int32.toNatClampNeg p0)).toInt)  : Met l yX12_candidatesOf (Cond.code yX12_candidatesOf cX12_candidatesOf 5 (some .int) :: GW) r_s_candidatesOf (va_Pc [.ref (ad 0), .int p0] (gp D ks (mw ad kk ks.1 V L) (mty kk) sz)) (q_s_candidatesOf D ks ad kk V L p0 (va_A (mw ad kk ks.1 V L) sz)) 0 0 (va_A (mw ad kk ks.1 V L) sz) := by
  refine g_met (q_s_candidatesOf D ks ad kk V L p0) (by decide) (Nat.le_of_ble_eq_true rfl) ?_
  intro p e s m below meth c A ls H locs hx hb hr hml hown hg hlocks hin hnw hgk hP hK hD hS hA hl
  have hown : s.vm.findClass RX12 = some m.cls := hown
  have hl : lv_has ls 5 [(0, .ref (ad 0)), (1, .int p0)] := hl
  have hP : va_P D vwCl (mw ad kk ks.1 V L) H := hP
  have hD : va_D A (mw ad kk ks.1 V L) := hD
  have hK : va_K D vwCl (mty kk) s := hK
  have agV : agr [] [80] V V := agr.rf
  refine lv_iconst (v := 0) hx hb dX12_candidatesOf_0 (by decide) ?_
  refine lv_istore_n (lv' := [(2, .int 0), (0, .ref (ad 0)), (1, .int p0)]) hx hb dX12_candidatesOf_1 rfl hl (by decide) rfl (fun ls hl => ?_)
  refine lv_iconst (v := 0) hx hb dX12_candidatesOf_2 (by decide) ?_
  refine lv_istore_n (lv' := [(3, .int 0), (2, .int 0), (0, .ref (ad 0)), (1, .int p0)]) hx hb dX12_candidatesOf_3 rfl hl (by decide) rfl (fun ls hl => ?_)
  have lp3 : ∀ (fulp3 : Nat) (y1 : Int32) (y2 : Int32) (H : Heap) (locs : List Loc) (ls : Array Slot), 0 ≤ y1.toInt ∧ y1.toInt ≤ 24 → 24 - y1.toInt < (fulp3 : Int) → va_P D vwCl (mw ad kk ks.1 V L) H → va_D A (mw ad kk ks.1 V L) → va_S A s.heap H locs → lv_has ls 5 [(3, .int y1), (2, .int y2), (0, .ref (ad 0)), (1, .int p0)] → W p l e r_s_candidatesOf s m ([.ref (ad 0), .int p0] : List Value).toArray below meth c H locs 0 0 (MQ below (q_s_candidatesOf D ks ad kk V L p0 A) ([.ref (ad 0), .int p0] : List Value).toArray s 0 0 A) (F0 m 4 ls []) := by
    intro fulp3
    induction fulp3 with
    | zero =>
      intro y1 y2 H locs ls klp3_0 hn  hP hD hS hl
      exfalso; omega
    | succ fulp3 ihlp3 =>
      intro y1 y2 H locs ls klp3_0 hn  hP hD hS hl
      refine lv_iload_n hx hb dX12_candidatesOf_4 rfl (lv_at hl 0 rfl) ?_
      refine lv_aload_n hx hb dX12_candidatesOf_5 rfl (lv_at hl 2 rfl) ?_
      refine va_get (D := D) (ci := 12) (v := .ref (ad 19)) (C := RX12) (T := TX12) (N := 100) hx hb hg inX12 hown hK hP 0 rfl rfl 19 (by decide) (hg _ w1725) (fun _ h9 => h9) rfl dX12_candidatesOf_6 ?_
      refine lv_aload_n hx hb dX12_candidatesOf_9 rfl (lv_at hl 2 rfl) ?_
      refine va_get (D := D) (ci := 12) (v := .int (V 0 11)) (C := RX12) (T := TX12) (N := 100) hx hb hg inX12 hown hK hP 0 rfl rfl 11 (by decide) (hg _ w1717) (fun _ h9 => h9) rfl dX12_candidatesOf_10 ?_
      have r4 : 0 ≤ ((V 0 11)).toInt ∧ ((V 0 11)).toInt ≤ 1 := hMV 0 11
      refine va_iald (D := D) (i := (V 0 11)) hx hb hK hP 12 11 rfl rfl (i_in (a := ((V 0 11)).toInt) rfl (by omega)) dX12_candidatesOf_13 ?_
      have r5 : 0 ≤ ((V 19 (Int32.toNatClampNeg (V 0 11)))).toInt ∧ ((V 19 (Int32.toNatClampNeg (V 0 11)))).toInt ≤ 24 := hMV 19 (Int32.toNatClampNeg (V 0 11))
      refine lv_icmp_ge (tgt := 69) hx hb dX12_candidatesOf_14 (by decide) (fun c6 => ?_) (fun c6 => ?_)
      · skip
        have f7 : ((V 19 (Int32.toNatClampNeg (V 0 11)))).toInt ≤ y1.toInt := b_le rfl rfl c6
        refine lv_iconst (v := 0) hx hb dX12_candidatesOf_69 (by decide) ?_
        refine lv_istore_n (lv' := [(3, .int 0), (2, .int y2), (0, .ref (ad 0)), (1, .int p0)]) hx hb dX12_candidatesOf_70 rfl hl (by decide) rfl (fun ls hl => ?_)
        refine lv_iconst (v := 0) hx hb dX12_candidatesOf_71 (by decide) ?_
        refine lv_istore (lv' := [(4, .int 0), (3, .int 0), (2, .int y2), (0, .ref (ad 0)), (1, .int p0)]) hx hb dX12_candidatesOf_72 hl (by decide) rfl (fun ls hl => ?_)
        have lp11 : ∀ (fulp11 : Nat) (y8 : Int32) (y9 : Int32) (V10 : Vf) (H : Heap) (locs : List Loc) (ls : Array Slot), 0 ≤ y8.toInt ∧ y8.toInt ≤ 24 → 0 ≤ y9.toInt ∧ y9.toInt ≤ 24 → y9.toInt ≤ y8.toInt → 24 - y8.toInt < (fulp11 : Int) → agr [] [80] V V10 → rgd bM V10 → va_P D vwCl (mw ad kk ks.1 V10 L) H → va_D A (mw ad kk ks.1 V10 L) → va_S A s.heap H locs → lv_has ls 5 [(4, .int y8), (3, .int y9), (2, .int y2), (0, .ref (ad 0)), (1, .int p0)] → W p l e r_s_candidatesOf s m ([.ref (ad 0), .int p0] : List Value).toArray below meth c H locs 0 0 (MQ below (q_s_candidatesOf D ks ad kk V L p0 A) ([.ref (ad 0), .int p0] : List Value).toArray s 0 0 A) (F0 m 74 ls []) := by
          intro fulp11
          induction fulp11 with
          | zero =>
            intro y8 y9 V10 H locs ls klp11_0 klp11_1 xlp11_0 hn ajV10 hMV10 hP hD hS hl
            exfalso; omega
          | succ fulp11 ihlp11 =>
            intro y8 y9 V10 H locs ls klp11_0 klp11_1 xlp11_0 hn ajV10 hMV10 hP hD hS hl
            have agV10 : agr [] [80] V V10 := agV.tr ajV10 (by decide) (by decide)
            refine lv_iload hx hb dX12_candidatesOf_74 (lv_at hl 0 rfl) ?_
            refine lv_aload_n hx hb dX12_candidatesOf_76 rfl (lv_at hl 3 rfl) ?_
            refine va_get (D := D) (ci := 12) (v := .ref (ad 19)) (C := RX12) (T := TX12) (N := 100) hx hb hg inX12 hown hK hP 0 rfl rfl 19 (by decide) (hg _ w1725) (fun _ h9 => h9) rfl dX12_candidatesOf_77 ?_
            refine lv_aload_n hx hb dX12_candidatesOf_80 rfl (lv_at hl 3 rfl) ?_
            refine va_get (D := D) (ci := 12) (v := .int (V10 0 11)) (C := RX12) (T := TX12) (N := 100) hx hb hg inX12 hown hK hP 0 rfl rfl 11 (by decide) (hg _ w1717) (fun _ h9 => h9) rfl dX12_candidatesOf_81 ?_
            refine g_top (v := (V 0 11)) (ajV10 0 11 rfl) ?_
            refine va_iald (D := D) (i := (V 0 11)) hx hb hK hP 12 11 rfl rfl (i_in (a := ((V 0 11)).toInt) rfl (by omega)) dX12_candidatesOf_84 ?_
            refine g_top (v := (V 19 (Int32.toNatClampNeg (V 0 11)))) (ajV10 19 (Int32.toNatClampNeg (V 0 11)) rfl) ?_
            refine lv_icmp_ge (tgt := 143) hx hb dX12_candidatesOf_85 (by decide) (fun c12 => ?_) (fun c12 => ?_)
            · skip
              have f13 : ((V 19 (Int32.toNatClampNeg (V 0 11)))).toInt ≤ y8.toInt := b_le rfl rfl c12
              refine lv_iload_n hx hb dX12_candidatesOf_143 rfl (lv_at hl 1 rfl) ?_
              exact W.iret (v := y9) hx hb hr (fun t ht hW => ⟨⟨y9, (V10, L), rfl, ⟨hMV10, agV10, (show 0 ≤ y9.toInt ∧ y9.toInt ≤ 24 from by omega)⟩, by rw [ht]; exact hP, va_K.moved hW.alike hK, hD⟩, hS.F ht⟩) hS.2.2 dX12_candidatesOf_144
            · skip
              have f14 : y8.toInt < ((V 19 (Int32.toNatClampNeg (V 0 11)))).toInt := b_nle rfl rfl c12
              refine lv_aload_n hx hb dX12_candidatesOf_88 rfl (lv_at hl 3 rfl) ?_
              refine lv_iload_n hx hb dX12_candidatesOf_89 rfl (lv_at hl 4 rfl) ?_
              refine lv_iload hx hb dX12_candidatesOf_90 (lv_at hl 0 rfl) ?_
              have pq15 : (V10 28 (Int32.toNatClampNeg p0)).toInt = ((V 28 (Int32.toNatClampNeg p0))).toInt := congrArg Int32.toInt (ajV10 28 (Int32.toNatClampNeg p0) rfl)
              have r16 : (-1) ≤ ((V 28 (Int32.toNatClampNeg p0))).toInt ∧ ((V 28 (Int32.toNatClampNeg p0))).toInt ≤ 23 := hMV 28 (Int32.toNatClampNeg p0)
              refine gA_int (gA_runV (As := [.int p0, .int y8]) (rest := []) (ci := 12) (q0 := 0) hx hb hml hown hg hP hD hK hS hA hnw hgk (s_suits l D ks H.size ad kk V10 L p0 y8 hMV10 (by omega) (by omega) (show 0 ≤ (V10 28 (Int32.toNatClampNeg p0)).toInt from by omega)) w2176 w2178 w120 w172 w2179 rfl rfl hdV_yX12_suits ⟨Nat.le_of_ble_eq_true rfl, Nat.le_of_ble_eq_true rfl⟩ rfl hl.1 rfl (Nat.le_of_ble_eq_true rfl) dX12_candidatesOf_92 ⟨Nat.le_of_ble_eq_true rfl, Nat.le_of_ble_eq_true rfl⟩) hP hD hK hS hA (fun z17 u18 H locs w19 hP hD hK hS => ?_)
              have rgz17 := w19
              have rgz17 : 0 ≤ z17.toInt ∧ z17.toInt ≤ 1 := rgz17
              refine lv_if_eq (tgt := 137) hx hb dX12_candidatesOf_95 (by decide) (fun c20 => ?_) (fun c20 => ?_)
              · skip
                have f21 : z17.toInt = 0 := b_eq rfl (by decide) c20
                obtain ⟨z22, ez22⟩ : ∃ y : Int32, y = y8 + 1 := ⟨_, rfl⟩
                have hz22 : z22.toInt = y8.toInt + 1 := i_add ez22 rfl (by decide) (by omega)
                refine lv_iinc (v := z22) (lv' := [(4, .int z22), (3, .int y9), (2, .int y2), (0, .ref (ad 0)), (1, .int p0)]) hx hb dX12_candidatesOf_137 hl (k := 0) rfl (by rw [ez22]; rfl) (by decide) rfl (fun ls hl => ?_)
                refine lv_goto (tgt := 74) hx hb dX12_candidatesOf_140 (by decide) ?_
                exact ihlp11 z22 y9 V10 H locs ls (by omega) (by omega) (show y9.toInt ≤ z22.toInt from by omega) (by omega) (agr.tr agr.rf ajV10 (by decide) (by decide)) hMV10 hP hD hS (lv_sub hl [0, 1, 2, 3, 4] rfl)
              · skip
                have f23 : z17.toInt ≠ 0 := b_neq rfl (by decide) c20
                refine lv_aload_n hx hb dX12_candidatesOf_98 rfl (lv_at hl 3 rfl) ?_
                refine va_get (D := D) (ci := 12) (v := .ref (ad 30)) (C := RX12) (T := TX12) (N := 100) hx hb hg inX12 hown hK hP 0 rfl rfl 30 (by decide) (hg _ w1736) (fun _ h9 => h9) rfl dX12_candidatesOf_99 ?_
                refine lv_iload_n hx hb dX12_candidatesOf_102 rfl (lv_at hl 4 rfl) ?_
                refine va_zald (D := D) (i := p0) hx hb hK hP 23 22 rfl rfl (i_in (a := p0.toInt) rfl (by omega)) dX12_candidatesOf_103 ?_
                refine g_top (v := (V 30 (Int32.toNatClampNeg p0))) (ajV10 30 (Int32.toNatClampNeg p0) rfl) ?_
                have r24 : 0 ≤ ((V 30 (Int32.toNatClampNeg p0))).toInt ∧ ((V 30 (Int32.toNatClampNeg p0))).toInt ≤ 1 := hMV 30 (Int32.toNatClampNeg p0)
                refine lv_if_ne (tgt := 126) hx hb dX12_candidatesOf_104 (by decide) (fun c25 => ?_) (fun c25 => ?_)
                · skip
                  have f26 : ((V 30 (Int32.toNatClampNeg p0))).toInt ≠ 0 := b_neq rfl (by decide) c25
                  refine lv_aload_n hx hb dX12_candidatesOf_126 rfl (lv_at hl 3 rfl) ?_
                  refine va_get (D := D) (ci := 12) (v := .ref (ad 80)) (C := RX12) (T := TX12) (N := 100) hx hb hg inX12 hown hK hP 0 rfl rfl 80 (by decide) (hg _ w1786) (fun _ h9 => h9) rfl dX12_candidatesOf_127 ?_
                  refine lv_iload_n hx hb dX12_candidatesOf_130 rfl (lv_at hl 1 rfl) ?_
                  refine lv_iload hx hb dX12_candidatesOf_131 (lv_at hl 0 rfl) ?_
                  refine va_iast (D := D) (i := y9) (x := y8) hx hb hK hP hD hS 57 56 rfl rfl (i_in (a := y9.toInt) rfl (by omega)) dX12_candidatesOf_133 (fun H locs hP hD hS => ?_)
                  obtain ⟨V27, hV27⟩ : ∃ z, z = up2 V10 80 (Int32.toNatClampNeg y9) y8 := ⟨_, rfl⟩
                  have hP : va_P D vwCl (mw ad kk ks.1 V27 L) H := by rw [hV27]; exact hP
                  have hD : va_D A (mw ad kk ks.1 V27 L) := by rw [hV27]; exact hD
                  have hMV27 : rgd bM V27 := hMV10.put hV27 (show 0 ≤ y8.toInt ∧ y8.toInt ≤ 23 from by omega)
                  have agV27 : agr [] [80] V V27 := agV10.up hV27 rfl
                  obtain ⟨z28, ez28⟩ : ∃ y : Int32, y = y9 + 1 := ⟨_, rfl⟩
                  have hz28 : z28.toInt = y9.toInt + 1 := i_add ez28 rfl (by decide) (by omega)
                  refine lv_iinc (v := z28) (lv' := [(3, .int z28), (4, .int y8), (2, .int y2), (0, .ref (ad 0)), (1, .int p0)]) hx hb dX12_candidatesOf_134 hl (k := 1) rfl (by rw [ez28]; rfl) (by decide) rfl (fun ls hl => ?_)
                  obtain ⟨z29, ez29⟩ : ∃ y : Int32, y = y8 + 1 := ⟨_, rfl⟩
                  have hz29 : z29.toInt = y8.toInt + 1 := i_add ez29 rfl (by decide) (by omega)
                  refine lv_iinc (v := z29) (lv' := [(4, .int z29), (3, .int z28), (2, .int y2), (0, .ref (ad 0)), (1, .int p0)]) hx hb dX12_candidatesOf_137 hl (k := 1) rfl (by rw [ez29]; rfl) (by decide) rfl (fun ls hl => ?_)
                  refine lv_goto (tgt := 74) hx hb dX12_candidatesOf_140 (by decide) ?_
                  exact ihlp11 z29 z28 V27 H locs ls (by omega) (by omega) (show z28.toInt ≤ z29.toInt from by omega) (by omega) (agr.up (agr.tr agr.rf ajV10 (by decide) (by decide)) hV27 rfl) hMV27 hP hD hS (lv_sub hl [0, 1, 2, 3, 4] rfl)
                · skip
                  have f30 : ((V 30 (Int32.toNatClampNeg p0))).toInt = 0 := b_eq rfl (by decide) c25
                  refine lv_aload_n hx hb dX12_candidatesOf_107 rfl (lv_at hl 3 rfl) ?_
                  refine va_get (D := D) (ci := 12) (v := .ref (ad 24)) (C := RX12) (T := TX12) (N := 100) hx hb hg inX12 hown hK hP 0 rfl rfl 24 (by decide) (hg _ w1730) (fun _ h9 => h9) rfl dX12_candidatesOf_108 ?_
                  refine lv_bipush (v := 24) hx hb dX12_candidatesOf_111 (by decide) ?_
                  refine lv_aload_n hx hb dX12_candidatesOf_113 rfl (lv_at hl 3 rfl) ?_
                  refine va_get (D := D) (ci := 12) (v := .int (V10 0 11)) (C := RX12) (T := TX12) (N := 100) hx hb hg inX12 hown hK hP 0 rfl rfl 11 (by decide) (hg _ w1717) (fun _ h9 => h9) rfl dX12_candidatesOf_114 ?_
                  refine g_top (v := (V 0 11)) (ajV10 0 11 rfl) ?_
                  refine lv_imul hx hb dX12_candidatesOf_117 ?_
                  refine lv_topi (fun z31 ez31 => ?_)
                  have hz31 : z31.toInt = 24 * ((V 0 11)).toInt := i_mul ez31 (by decide) rfl (by omega)
                  refine lv_iload hx hb dX12_candidatesOf_118 (lv_at hl 0 rfl) ?_
                  refine lv_iadd hx hb dX12_candidatesOf_120 ?_
                  refine lv_topi (fun z32 ez32 => ?_)
                  have hz32 : z32.toInt = z31.toInt + y8.toInt := i_add ez32 rfl rfl (by omega)
                  refine va_iald (D := D) (i := z32) hx hb hK hP 17 16 rfl rfl (i_in (a := z32.toInt) rfl (by omega)) dX12_candidatesOf_121 ?_
                  refine g_top (v := (V 24 (Int32.toNatClampNeg z32))) (ajV10 24 (Int32.toNatClampNeg z32) rfl) ?_
                  refine lv_iload_n hx hb dX12_candidatesOf_122 rfl (lv_at hl 2 rfl) ?_
                  refine lv_icmp_ne (tgt := 137) hx hb dX12_candidatesOf_123 (by decide) (fun c33 => ?_) (fun c33 => ?_)
                  · skip
                    have f34 : ((V 24 (Int32.toNatClampNeg z32))).toInt ≠ y2.toInt := b_neq rfl rfl c33
                    obtain ⟨z35, ez35⟩ : ∃ y : Int32, y = y8 + 1 := ⟨_, rfl⟩
                    have hz35 : z35.toInt = y8.toInt + 1 := i_add ez35 rfl (by decide) (by omega)
                    refine lv_iinc (v := z35) (lv' := [(4, .int z35), (3, .int y9), (2, .int y2), (0, .ref (ad 0)), (1, .int p0)]) hx hb dX12_candidatesOf_137 hl (k := 0) rfl (by rw [ez35]; rfl) (by decide) rfl (fun ls hl => ?_)
                    refine lv_goto (tgt := 74) hx hb dX12_candidatesOf_140 (by decide) ?_
                    exact ihlp11 z35 y9 V10 H locs ls (by omega) (by omega) (show y9.toInt ≤ z35.toInt from by omega) (by omega) (agr.tr agr.rf ajV10 (by decide) (by decide)) hMV10 hP hD hS (lv_sub hl [0, 1, 2, 3, 4] rfl)
                  · skip
                    have f36 : ((V 24 (Int32.toNatClampNeg z32))).toInt = y2.toInt := b_eq rfl rfl c33
                    refine lv_aload_n hx hb dX12_candidatesOf_126 rfl (lv_at hl 3 rfl) ?_
                    refine va_get (D := D) (ci := 12) (v := .ref (ad 80)) (C := RX12) (T := TX12) (N := 100) hx hb hg inX12 hown hK hP 0 rfl rfl 80 (by decide) (hg _ w1786) (fun _ h9 => h9) rfl dX12_candidatesOf_127 ?_
                    refine lv_iload_n hx hb dX12_candidatesOf_130 rfl (lv_at hl 1 rfl) ?_
                    refine lv_iload hx hb dX12_candidatesOf_131 (lv_at hl 0 rfl) ?_
                    refine va_iast (D := D) (i := y9) (x := y8) hx hb hK hP hD hS 57 56 rfl rfl (i_in (a := y9.toInt) rfl (by omega)) dX12_candidatesOf_133 (fun H locs hP hD hS => ?_)
                    obtain ⟨V37, hV37⟩ : ∃ z, z = up2 V10 80 (Int32.toNatClampNeg y9) y8 := ⟨_, rfl⟩
                    have hP : va_P D vwCl (mw ad kk ks.1 V37 L) H := by rw [hV37]; exact hP
                    have hD : va_D A (mw ad kk ks.1 V37 L) := by rw [hV37]; exact hD
                    have hMV37 : rgd bM V37 := hMV10.put hV37 (show 0 ≤ y8.toInt ∧ y8.toInt ≤ 23 from by omega)
                    have agV37 : agr [] [80] V V37 := agV10.up hV37 rfl
                    obtain ⟨z38, ez38⟩ : ∃ y : Int32, y = y9 + 1 := ⟨_, rfl⟩
                    have hz38 : z38.toInt = y9.toInt + 1 := i_add ez38 rfl (by decide) (by omega)
                    refine lv_iinc (v := z38) (lv' := [(3, .int z38), (4, .int y8), (2, .int y2), (0, .ref (ad 0)), (1, .int p0)]) hx hb dX12_candidatesOf_134 hl (k := 1) rfl (by rw [ez38]; rfl) (by decide) rfl (fun ls hl => ?_)
                    obtain ⟨z39, ez39⟩ : ∃ y : Int32, y = y8 + 1 := ⟨_, rfl⟩
                    have hz39 : z39.toInt = y8.toInt + 1 := i_add ez39 rfl (by decide) (by omega)
                    refine lv_iinc (v := z39) (lv' := [(4, .int z39), (3, .int z38), (2, .int y2), (0, .ref (ad 0)), (1, .int p0)]) hx hb dX12_candidatesOf_137 hl (k := 1) rfl (by rw [ez39]; rfl) (by decide) rfl (fun ls hl => ?_)
                    refine lv_goto (tgt := 74) hx hb dX12_candidatesOf_140 (by decide) ?_
                    exact ihlp11 z39 z38 V37 H locs ls (by omega) (by omega) (show z38.toInt ≤ z39.toInt from by omega) (by omega) (agr.up (agr.tr agr.rf ajV10 (by decide) (by decide)) hV37 rfl) hMV37 hP hD hS (lv_sub hl [0, 1, 2, 3, 4] rfl)
        have r40 : Int32.toInt 0 = 0 := by decide
        exact lp11 ((24 - 0 + 1 : Int).toNat) 0 0 V H locs ls (by decide) (by decide) (show 0 ≤ 0 from by omega) (by omega) agr.rf hMV hP hD hS (lv_sub hl [0, 1, 2, 3, 4] rfl)
      · skip
        have f41 : y1.toInt < ((V 19 (Int32.toNatClampNeg (V 0 11)))).toInt := b_nle rfl rfl c6
        refine lv_aload_n hx hb dX12_candidatesOf_17 rfl (lv_at hl 2 rfl) ?_
        refine lv_iload_n hx hb dX12_candidatesOf_18 rfl (lv_at hl 3 rfl) ?_
        refine lv_iload_n hx hb dX12_candidatesOf_19 rfl (lv_at hl 0 rfl) ?_
        have r42 : (-1) ≤ ((V 28 (Int32.toNatClampNeg p0))).toInt ∧ ((V 28 (Int32.toNatClampNeg p0))).toInt ≤ 23 := hMV 28 (Int32.toNatClampNeg p0)
        refine gA_int (gA_runV (As := [.int p0, .int y1]) (rest := []) (ci := 12) (q0 := 0) hx hb hml hown hg hP hD hK hS hA hnw hgk (s_suits l D ks H.size ad kk V L p0 y1 hMV (by omega) (by omega) (show 0 ≤ (V 28 (Int32.toNatClampNeg p0)).toInt from by omega)) w2176 w2178 w120 w172 w2179 rfl rfl hdV_yX12_suits ⟨Nat.le_of_ble_eq_true rfl, Nat.le_of_ble_eq_true rfl⟩ rfl hl.1 rfl (Nat.le_of_ble_eq_true rfl) dX12_candidatesOf_20 ⟨Nat.le_of_ble_eq_true rfl, Nat.le_of_ble_eq_true rfl⟩) hP hD hK hS hA (fun z43 u44 H locs w45 hP hD hK hS => ?_)
        have rgz43 := w45
        have rgz43 : 0 ≤ z43.toInt ∧ z43.toInt ≤ 1 := rgz43
        refine lv_if_eq (tgt := 61) hx hb dX12_candidatesOf_23 (by decide) (fun c46 => ?_) (fun c46 => ?_)
        · skip
          have f47 : z43.toInt = 0 := b_eq rfl (by decide) c46
          refine lv_iload_n hx hb dX12_candidatesOf_61 rfl (lv_at hl 1 rfl) ?_
          refine lv_istore_n (lv' := [(2, .int y2), (3, .int y1), (0, .ref (ad 0)), (1, .int p0)]) hx hb dX12_candidatesOf_62 rfl hl (by decide) rfl (fun ls hl => ?_)
          obtain ⟨z48, ez48⟩ : ∃ y : Int32, y = y1 + 1 := ⟨_, rfl⟩
          have hz48 : z48.toInt = y1.toInt + 1 := i_add ez48 rfl (by decide) (by omega)
          refine lv_iinc (v := z48) (lv' := [(3, .int z48), (2, .int y2), (0, .ref (ad 0)), (1, .int p0)]) hx hb dX12_candidatesOf_63 hl (k := 1) rfl (by rw [ez48]; rfl) (by decide) rfl (fun ls hl => ?_)
          refine lv_goto (tgt := 4) hx hb dX12_candidatesOf_66 (by decide) ?_
          exact ihlp3 z48 y2 H locs ls (by omega) (by omega) hP hD hS (lv_sub hl [0, 1, 2, 3] rfl)
        · skip
          have f49 : z43.toInt ≠ 0 := b_neq rfl (by decide) c46
          refine lv_aload_n hx hb dX12_candidatesOf_26 rfl (lv_at hl 2 rfl) ?_
          refine va_get (D := D) (ci := 12) (v := .ref (ad 24)) (C := RX12) (T := TX12) (N := 100) hx hb hg inX12 hown hK hP 0 rfl rfl 24 (by decide) (hg _ w1730) (fun _ h9 => h9) rfl dX12_candidatesOf_27 ?_
          refine lv_bipush (v := 24) hx hb dX12_candidatesOf_30 (by decide) ?_
          refine lv_aload_n hx hb dX12_candidatesOf_32 rfl (lv_at hl 2 rfl) ?_
          refine va_get (D := D) (ci := 12) (v := .int (V 0 11)) (C := RX12) (T := TX12) (N := 100) hx hb hg inX12 hown hK hP 0 rfl rfl 11 (by decide) (hg _ w1717) (fun _ h9 => h9) rfl dX12_candidatesOf_33 ?_
          refine lv_imul hx hb dX12_candidatesOf_36 ?_
          refine lv_topi (fun z50 ez50 => ?_)
          have hz50 : z50.toInt = 24 * ((V 0 11)).toInt := i_mul ez50 (by decide) rfl (by omega)
          refine lv_iload_n hx hb dX12_candidatesOf_37 rfl (lv_at hl 0 rfl) ?_
          refine lv_iadd hx hb dX12_candidatesOf_38 ?_
          refine lv_topi (fun z51 ez51 => ?_)
          have hz51 : z51.toInt = z50.toInt + y1.toInt := i_add ez51 rfl rfl (by omega)
          refine va_iald (D := D) (i := z51) hx hb hK hP 17 16 rfl rfl (i_in (a := z51.toInt) rfl (by omega)) dX12_candidatesOf_39 ?_
          refine lv_iload_n hx hb dX12_candidatesOf_40 rfl (lv_at hl 1 rfl) ?_
          refine lv_icmp_le (tgt := 61) hx hb dX12_candidatesOf_41 (by decide) (fun c52 => ?_) (fun c52 => ?_)
          · skip
            have f53 : ((V 24 (Int32.toNatClampNeg z51))).toInt ≤ y2.toInt := b_le rfl rfl c52
            refine lv_iload_n hx hb dX12_candidatesOf_61 rfl (lv_at hl 1 rfl) ?_
            refine lv_istore_n (lv' := [(2, .int y2), (3, .int y1), (0, .ref (ad 0)), (1, .int p0)]) hx hb dX12_candidatesOf_62 rfl hl (by decide) rfl (fun ls hl => ?_)
            obtain ⟨z54, ez54⟩ : ∃ y : Int32, y = y1 + 1 := ⟨_, rfl⟩
            have hz54 : z54.toInt = y1.toInt + 1 := i_add ez54 rfl (by decide) (by omega)
            refine lv_iinc (v := z54) (lv' := [(3, .int z54), (2, .int y2), (0, .ref (ad 0)), (1, .int p0)]) hx hb dX12_candidatesOf_63 hl (k := 1) rfl (by rw [ez54]; rfl) (by decide) rfl (fun ls hl => ?_)
            refine lv_goto (tgt := 4) hx hb dX12_candidatesOf_66 (by decide) ?_
            exact ihlp3 z54 y2 H locs ls (by omega) (by omega) hP hD hS (lv_sub hl [0, 1, 2, 3] rfl)
          · skip
            have f55 : y2.toInt < ((V 24 (Int32.toNatClampNeg z51))).toInt := b_nle rfl rfl c52
            refine lv_aload_n hx hb dX12_candidatesOf_44 rfl (lv_at hl 2 rfl) ?_
            refine va_get (D := D) (ci := 12) (v := .ref (ad 24)) (C := RX12) (T := TX12) (N := 100) hx hb hg inX12 hown hK hP 0 rfl rfl 24 (by decide) (hg _ w1730) (fun _ h9 => h9) rfl dX12_candidatesOf_45 ?_
            refine lv_bipush (v := 24) hx hb dX12_candidatesOf_48 (by decide) ?_
            refine lv_aload_n hx hb dX12_candidatesOf_50 rfl (lv_at hl 2 rfl) ?_
            refine va_get (D := D) (ci := 12) (v := .int (V 0 11)) (C := RX12) (T := TX12) (N := 100) hx hb hg inX12 hown hK hP 0 rfl rfl 11 (by decide) (hg _ w1717) (fun _ h9 => h9) rfl dX12_candidatesOf_51 ?_
            refine lv_imul hx hb dX12_candidatesOf_54 ?_
            refine lv_topi (fun z56 ez56 => ?_)
            have hz56 : z56.toInt = 24 * ((V 0 11)).toInt := i_mul ez56 (by decide) rfl (by omega)
            refine lv_iload_n hx hb dX12_candidatesOf_55 rfl (lv_at hl 0 rfl) ?_
            refine lv_iadd hx hb dX12_candidatesOf_56 ?_
            refine lv_topi (fun z57 ez57 => ?_)
            have hz57 : z57.toInt = z56.toInt + y1.toInt := i_add ez57 rfl rfl (by omega)
            refine va_iald (D := D) (i := z57) hx hb hK hP 17 16 rfl rfl (i_in (a := z57.toInt) rfl (by omega)) dX12_candidatesOf_57 ?_
            refine lv_goto (tgt := 62) hx hb dX12_candidatesOf_58 (by decide) ?_
            refine lv_istore_n (lv' := [(2, .int (V 24 (Int32.toNatClampNeg z57))), (3, .int y1), (0, .ref (ad 0)), (1, .int p0)]) hx hb dX12_candidatesOf_62 rfl hl (by decide) rfl (fun ls hl => ?_)
            obtain ⟨z58, ez58⟩ : ∃ y : Int32, y = y1 + 1 := ⟨_, rfl⟩
            have hz58 : z58.toInt = y1.toInt + 1 := i_add ez58 rfl (by decide) (by omega)
            refine lv_iinc (v := z58) (lv' := [(3, .int z58), (2, .int (V 24 (Int32.toNatClampNeg z57))), (0, .ref (ad 0)), (1, .int p0)]) hx hb dX12_candidatesOf_63 hl (k := 1) rfl (by rw [ez58]; rfl) (by decide) rfl (fun ls hl => ?_)
            refine lv_goto (tgt := 4) hx hb dX12_candidatesOf_66 (by decide) ?_
            exact ihlp3 z58 (V 24 (Int32.toNatClampNeg z57)) H locs ls (by omega) (by omega) hP hD hS (lv_sub hl [0, 1, 2, 3] rfl)
  have r59 : Int32.toInt 0 = 0 := by decide
  exact lp3 ((24 - 0 + 1 : Int).toNat) 0 0 H locs ls (by decide) (by omega) hP hD hS (lv_sub hl [0, 1, 2, 3] rfl)
abbrev r_s_isCandidate : Room := { frames := 3, cells := 0, slots := 0, locals := 69 }
abbrev q_s_isCandidate (D : va_G) (ks : Nat × Nat × Option Nat) (ad : Nat → Nat) (kk : Nat → ClassId) (V : Vf) (L : Lf) (p0 : Int32) (p1 : Int32) (A : Nat → Prop) : Array Value → State → Outcome → State → Prop := va_Qi (fun (r : Int32) (u : Vf × Lf) => rgd bM u.1 ∧ agr [] [80] V u.1 ∧ (0 ≤ r.toInt ∧ r.toInt ≤ 1)) (fun u t => gq D A (mw ad kk ks.1 u.1 u.2) (mty kk) t) A
set_option maxHeartbeats 4000000 in
set_option maxRecDepth 100000 in
theorem s_isCandidate (l : Launch) (D : va_G) (ks : Nat × Nat × Option Nat) (sz : Nat) (ad : Nat → Nat) (kk : Nat → ClassId) (V : Vf) (L : Lf) (p0 : Int32) (p1 : Int32) (hMV : rgd bM V) (rg_p0 : 0 ≤ p0.toInt ∧ p0.toInt ≤ 383) (y1 : 0 ≤ (V 28 (Int32.toNatClampNeg p0)).toInt)  : Met l yX12_isCandidate (Cond.code yX12_isCandidate cX12_isCandidate 6 (some .boolean) :: GW) r_s_isCandidate (va_Pc [.ref (ad 0), .int p0, .int p1] (gp D ks (mw ad kk ks.1 V L) (mty kk) sz)) (q_s_isCandidate D ks ad kk V L p0 p1 (va_A (mw ad kk ks.1 V L) sz)) 0 0 (va_A (mw ad kk ks.1 V L) sz) := by
  refine g_met (q_s_isCandidate D ks ad kk V L p0 p1) (by decide) (Nat.le_of_ble_eq_true rfl) ?_
  intro p e s m below meth c A ls H locs hx hb hr hml hown hg hlocks hin hnw hgk hP hK hD hS hA hl
  have hown : s.vm.findClass RX12 = some m.cls := hown
  have hl : lv_has ls 6 [(0, .ref (ad 0)), (1, .int p0), (2, .int p1)] := hl
  have hP : va_P D vwCl (mw ad kk ks.1 V L) H := hP
  have hD : va_D A (mw ad kk ks.1 V L) := hD
  have hK : va_K D vwCl (mty kk) s := hK
  have agV : agr [] [80] V V := agr.rf
  refine lv_aload_n hx hb dX12_isCandidate_0 rfl (lv_at hl 0 rfl) ?_
  refine lv_iload_n hx hb dX12_isCandidate_1 rfl (lv_at hl 1 rfl) ?_
  have r1 : (-1) ≤ ((V 28 (Int32.toNatClampNeg p0))).toInt ∧ ((V 28 (Int32.toNatClampNeg p0))).toInt ≤ 23 := hMV 28 (Int32.toNatClampNeg p0)
  refine gA_int (gA_runV (As := [.int p0]) (rest := []) (ci := 12) (q0 := 0) hx hb hml hown hg hP hD hK hS hA hnw hgk (s_candidatesOf l D ks H.size ad kk V L p0 hMV (by omega) (show 0 ≤ (V 28 (Int32.toNatClampNeg p0)).toInt from by omega)) w2172 w2174 w119 w172 w2175 rfl rfl hdV_yX12_candidatesOf ⟨Nat.le_of_ble_eq_true rfl, Nat.le_of_ble_eq_true rfl⟩ rfl hl.1 rfl (Nat.le_of_ble_eq_true rfl) dX12_isCandidate_2 ⟨Nat.le_of_ble_eq_true rfl, Nat.le_of_ble_eq_true rfl⟩) hP hD hK hS hA (fun z2 u3 H locs w4 hP hD hK hS => ?_)
  obtain ⟨V5, L6⟩ := u3
  obtain ⟨hMV5, ajV5, rgz2⟩ := w4
  have hP : va_P D vwCl (mw ad kk ks.1 V5 L6) H := hP
  have hD : va_D A (mw ad kk ks.1 V5 L6) := hD
  have hMV5 : rgd bM V5 := hMV5
  have ajV5 : agr [] [80] V V5 := ajV5
  have agV5 : agr [] [80] V V5 := agV.tr ajV5 (by decide) (by decide)
  have rgz2 : 0 ≤ z2.toInt ∧ z2.toInt ≤ 24 := rgz2
  refine lv_istore_n (lv' := [(3, .int z2), (0, .ref (ad 0)), (1, .int p0), (2, .int p1)]) hx hb dX12_isCandidate_5 rfl hl (by decide) rfl (fun ls hl => ?_)
  refine lv_iconst (v := 0) hx hb dX12_isCandidate_6 (by decide) ?_
  refine lv_istore (lv' := [(4, .int 0), (3, .int z2), (0, .ref (ad 0)), (1, .int p0), (2, .int p1)]) hx hb dX12_isCandidate_7 hl (by decide) rfl (fun ls hl => ?_)
  refine lv_iconst (v := 0) hx hb dX12_isCandidate_9 (by decide) ?_
  refine lv_istore (lv' := [(5, .int 0), (4, .int 0), (3, .int z2), (0, .ref (ad 0)), (1, .int p0), (2, .int p1)]) hx hb dX12_isCandidate_10 hl (by decide) rfl (fun ls hl => ?_)
  have lp9 : ∀ (fulp9 : Nat) (y7 : Int32) (y8 : Int32) (H : Heap) (locs : List Loc) (ls : Array Slot), 0 ≤ y7.toInt ∧ y7.toInt ≤ 24 → 0 ≤ y8.toInt ∧ y8.toInt ≤ 1 → y7.toInt ≤ z2.toInt → z2.toInt - y7.toInt < (fulp9 : Int) → va_P D vwCl (mw ad kk ks.1 V5 L6) H → va_D A (mw ad kk ks.1 V5 L6) → va_S A s.heap H locs → lv_has ls 6 [(5, .int y7), (4, .int y8), (3, .int z2), (0, .ref (ad 0)), (1, .int p0), (2, .int p1)] → W p l e r_s_isCandidate s m ([.ref (ad 0), .int p0, .int p1] : List Value).toArray below meth c H locs 0 0 (MQ below (q_s_isCandidate D ks ad kk V L p0 p1 A) ([.ref (ad 0), .int p0, .int p1] : List Value).toArray s 0 0 A) (F0 m 12 ls []) := by
    intro fulp9
    induction fulp9 with
    | zero =>
      intro y7 y8 H locs ls klp9_0 klp9_1 xlp9_0 hn  hP hD hS hl
      exfalso; omega
    | succ fulp9 ihlp9 =>
      intro y7 y8 H locs ls klp9_0 klp9_1 xlp9_0 hn  hP hD hS hl
      refine lv_iload hx hb dX12_isCandidate_12 (lv_at hl 0 rfl) ?_
      refine lv_iload_n hx hb dX12_isCandidate_14 rfl (lv_at hl 2 rfl) ?_
      refine lv_icmp_ge (tgt := 47) hx hb dX12_isCandidate_15 (by decide) (fun c10 => ?_) (fun c10 => ?_)
      · skip
        have f11 : z2.toInt ≤ y7.toInt := b_le rfl rfl c10
        refine lv_iload hx hb dX12_isCandidate_47 (lv_at hl 1 rfl) ?_
        exact W.zret (v := y8) hx hb hr (nb_ok (by omega)) (fun t ht hW => ⟨⟨y8, (V5, L6), rfl, ⟨hMV5, agV5, (show 0 ≤ y8.toInt ∧ y8.toInt ≤ 1 from by omega)⟩, by rw [ht]; exact hP, va_K.moved hW.alike hK, hD⟩, hS.F ht⟩) hS.2.2 dX12_isCandidate_49
      · skip
        have f12 : y7.toInt < z2.toInt := b_nle rfl rfl c10
        refine lv_iload hx hb dX12_isCandidate_18 (lv_at hl 1 rfl) ?_
        refine lv_if_ne (tgt := 34) hx hb dX12_isCandidate_20 (by decide) (fun c13 => ?_) (fun c13 => ?_)
        · skip
          have f14 : y8.toInt ≠ 0 := b_neq rfl (by decide) c13
          refine lv_iconst (v := 1) hx hb dX12_isCandidate_34 (by decide) ?_
          refine lv_goto (tgt := 39) hx hb dX12_isCandidate_35 (by decide) ?_
          refine lv_istore (lv' := [(4, .int 1), (5, .int y7), (3, .int z2), (0, .ref (ad 0)), (1, .int p0), (2, .int p1)]) hx hb dX12_isCandidate_39 hl (by decide) rfl (fun ls hl => ?_)
          obtain ⟨z15, ez15⟩ : ∃ y : Int32, y = y7 + 1 := ⟨_, rfl⟩
          have hz15 : z15.toInt = y7.toInt + 1 := i_add ez15 rfl (by decide) (by omega)
          refine lv_iinc (v := z15) (lv' := [(5, .int z15), (4, .int 1), (3, .int z2), (0, .ref (ad 0)), (1, .int p0), (2, .int p1)]) hx hb dX12_isCandidate_41 hl (k := 1) rfl (by rw [ez15]; rfl) (by decide) rfl (fun ls hl => ?_)
          refine lv_goto (tgt := 12) hx hb dX12_isCandidate_44 (by decide) ?_
          have r16 : Int32.toInt 1 = 1 := by decide
          exact ihlp9 z15 1 H locs ls (by omega) (by decide) (show z15.toInt ≤ z2.toInt from by omega) (by omega) hP hD hS (lv_sub hl [0, 1, 2, 3, 4, 5] rfl)
        · skip
          have f17 : y8.toInt = 0 := b_eq rfl (by decide) c13
          refine lv_aload_n hx hb dX12_isCandidate_23 rfl (lv_at hl 3 rfl) ?_
          refine va_get (D := D) (ci := 12) (v := .ref (ad 80)) (C := RX12) (T := TX12) (N := 100) hx hb hg inX12 hown hK hP 0 rfl rfl 80 (by decide) (hg _ w1786) (fun _ h9 => h9) rfl dX12_isCandidate_24 ?_
          refine lv_iload hx hb dX12_isCandidate_27 (lv_at hl 0 rfl) ?_
          refine va_iald (D := D) (i := y7) hx hb hK hP 57 56 rfl rfl (i_in (a := y7.toInt) rfl (by omega)) dX12_isCandidate_29 ?_
          have r18 : 0 ≤ ((V5 80 (Int32.toNatClampNeg y7))).toInt ∧ ((V5 80 (Int32.toNatClampNeg y7))).toInt ≤ 23 := hMV5 80 (Int32.toNatClampNeg y7)
          refine lv_iload_n hx hb dX12_isCandidate_30 rfl (lv_at hl 5 rfl) ?_
          refine lv_icmp_ne (tgt := 38) hx hb dX12_isCandidate_31 (by decide) (fun c19 => ?_) (fun c19 => ?_)
          · skip
            have f20 : ((V5 80 (Int32.toNatClampNeg y7))).toInt ≠ p1.toInt := b_neq rfl rfl c19
            refine lv_iconst (v := 0) hx hb dX12_isCandidate_38 (by decide) ?_
            refine lv_istore (lv' := [(4, .int 0), (5, .int y7), (3, .int z2), (0, .ref (ad 0)), (1, .int p0), (2, .int p1)]) hx hb dX12_isCandidate_39 hl (by decide) rfl (fun ls hl => ?_)
            obtain ⟨z21, ez21⟩ : ∃ y : Int32, y = y7 + 1 := ⟨_, rfl⟩
            have hz21 : z21.toInt = y7.toInt + 1 := i_add ez21 rfl (by decide) (by omega)
            refine lv_iinc (v := z21) (lv' := [(5, .int z21), (4, .int 0), (3, .int z2), (0, .ref (ad 0)), (1, .int p0), (2, .int p1)]) hx hb dX12_isCandidate_41 hl (k := 1) rfl (by rw [ez21]; rfl) (by decide) rfl (fun ls hl => ?_)
            refine lv_goto (tgt := 12) hx hb dX12_isCandidate_44 (by decide) ?_
            have r22 : Int32.toInt 0 = 0 := by decide
            exact ihlp9 z21 0 H locs ls (by omega) (by decide) (show z21.toInt ≤ z2.toInt from by omega) (by omega) hP hD hS (lv_sub hl [0, 1, 2, 3, 4, 5] rfl)
          · skip
            have f23 : ((V5 80 (Int32.toNatClampNeg y7))).toInt = p1.toInt := b_eq rfl rfl c19
            refine lv_iconst (v := 1) hx hb dX12_isCandidate_34 (by decide) ?_
            refine lv_goto (tgt := 39) hx hb dX12_isCandidate_35 (by decide) ?_
            refine lv_istore (lv' := [(4, .int 1), (5, .int y7), (3, .int z2), (0, .ref (ad 0)), (1, .int p0), (2, .int p1)]) hx hb dX12_isCandidate_39 hl (by decide) rfl (fun ls hl => ?_)
            obtain ⟨z24, ez24⟩ : ∃ y : Int32, y = y7 + 1 := ⟨_, rfl⟩
            have hz24 : z24.toInt = y7.toInt + 1 := i_add ez24 rfl (by decide) (by omega)
            refine lv_iinc (v := z24) (lv' := [(5, .int z24), (4, .int 1), (3, .int z2), (0, .ref (ad 0)), (1, .int p0), (2, .int p1)]) hx hb dX12_isCandidate_41 hl (k := 1) rfl (by rw [ez24]; rfl) (by decide) rfl (fun ls hl => ?_)
            refine lv_goto (tgt := 12) hx hb dX12_isCandidate_44 (by decide) ?_
            have r25 : Int32.toInt 1 = 1 := by decide
            exact ihlp9 z24 1 H locs ls (by omega) (by decide) (show z24.toInt ≤ z2.toInt from by omega) (by omega) hP hD hS (lv_sub hl [0, 1, 2, 3, 4, 5] rfl)
  have r26 : Int32.toInt 0 = 0 := by decide
  exact lp9 ((z2.toInt - 0 + 1 : Int).toNat) 0 0 H locs ls (by decide) (by decide) (show 0 ≤ z2.toInt from by omega) (by omega) hP hD hS (lv_sub hl [0, 1, 2, 3, 4, 5] rfl)
