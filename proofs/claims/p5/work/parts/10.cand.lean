/-- the needs of the components of the BOOK that is there have a type -/
def BV (V : Vf) : Prop := ∀ (c k : Int) (i m : Int32), 0 ≤ c → c < (V 19 (Int32.toNatClampNeg (V 0 11))).toInt → i.toInt = 24 * (V 0 11).toInt + c → 0 ≤ k → k < (V 27 (Int32.toNatClampNeg i)).toInt → m.toInt = 8 * (24 * (V 0 11).toInt + c) + k → 0 ≤ (V 28 (Int32.toNatClampNeg m)).toInt
theorem BV_agr {fs : List (Nat × Nat)} {cs : List Nat} {V W : Vf} (h : BV V) (a : agr fs cs V W) (h1 : wrL fs cs 0 11 = false) (h2 : ∀ k, wrL fs cs 19 k = false) (h3 : ∀ k, wrL fs cs 27 k = false) (h4 : ∀ k, wrL fs cs 28 k = false) : BV W := by
  intro c k i m q0 q1 q2 q3 q4 q5
  rw [a 0 11 h1] at q1 q2 q5
  rw [a _ _ (h2 _)] at q1
  rw [a _ _ (h3 _)] at q4
  rw [a _ _ (h4 _)]
  exact h c k i m q0 q1 q2 q3 q4 q5
theorem at_ne {V : Vf} {c : Nat} {x : Int32} {n : Nat} {a : Int} (hx : (V c n).toInt = a) (h0 : 0 ≤ x.toInt) : Imp ((V c (Int32.toNatClampNeg x)).toInt ≠ a) (x.toInt ≠ (n : Int)) := fun h e => h (by
  have h1 := i_clamp (x := x) rfl h0
  have h2 : x.toNatClampNeg = n := by omega
  rw [h2]
  exact hx)

theorem w1727 : Cond.fieldLink RX12 68 "WiringHouseModel" "componentIs" "[Z" ∈ GW := gw_mem 1727 (by decide +kernel) rfl
theorem w1734 : Cond.fieldLink RX12 89 "WiringHouseModel" "needType" "[I" ∈ GW := gw_mem 1734 (by decide +kernel) rfl
theorem w1737 : Cond.fieldLink RX12 98 "WiringHouseModel" "needCalled" "[I" ∈ GW := gw_mem 1737 (by decide +kernel) rfl
theorem w2179 : Cond.code yX12_suits cX12_suits 4 (some .boolean) ∈ GW := gw_mem 2179 (by decide +kernel) rfl
theorem w2176 : Cond.methodLink RX12 441 yX12_suits ∈ GW := gw_mem 2176 (by decide +kernel) rfl
theorem w2178 : Cond.instanceMethod yX12_suits ∈ GW := gw_mem 2178 (by decide +kernel) rfl
theorem w120 : Cond.selects RX12 yX12_suits yX12_suits ∈ GW := gw_mem 120 (by decide +kernel) rfl
theorem hdV_yX12_suits : yX12_suits.cls = RX12 ∧ yX12_suits.cls ≠ "java/lang/invoke/MethodHandle" ∧ yX12_suits.cls ≠ "java/lang/invoke/VarHandle" ∧ (parseMethodDescriptor yX12_suits.desc).map (fun d => d.parameters.length) = some 2 := by decide +kernel
theorem w1736 : Cond.fieldLink RX12 95 "WiringHouseModel" "needAll" "[Z" ∈ GW := gw_mem 1736 (by decide +kernel) rfl
theorem w1786 : Cond.fieldLink RX12 198 "WiringHouseModel" "candidates" "[I" ∈ GW := gw_mem 1786 (by decide +kernel) rfl
theorem w2175 : Cond.code yX12_candidatesOf cX12_candidatesOf 5 (some .int) ∈ GW := gw_mem 2175 (by decide +kernel) rfl
theorem w2172 : Cond.methodLink RX12 455 yX12_candidatesOf ∈ GW := gw_mem 2172 (by decide +kernel) rfl
theorem w2174 : Cond.instanceMethod yX12_candidatesOf ∈ GW := gw_mem 2174 (by decide +kernel) rfl
theorem w119 : Cond.selects RX12 yX12_candidatesOf yX12_candidatesOf ∈ GW := gw_mem 119 (by decide +kernel) rfl
theorem hdV_yX12_candidatesOf : yX12_candidatesOf.cls = RX12 ∧ yX12_candidatesOf.cls ≠ "java/lang/invoke/MethodHandle" ∧ yX12_candidatesOf.cls ≠ "java/lang/invoke/VarHandle" ∧ (parseMethodDescriptor yX12_candidatesOf.desc).map (fun d => d.parameters.length) = some 1 := by decide +kernel
theorem w1772 : Cond.fieldLink RX12 176 "WiringHouseModel" "joins" "[I" ∈ GW := gw_mem 1772 (by decide +kernel) rfl
theorem w1773 : Cond.fieldLink RX12 180 "WiringHouseModel" "joinedTo" "[I" ∈ GW := gw_mem 1773 (by decide +kernel) rfl
theorem w1792 : Cond.fieldLink RX12 213 "WiringHouseModel" "isWrong" "[Z" ∈ GW := gw_mem 1792 (by decide +kernel) rfl
theorem w1735 : Cond.fieldLink RX12 92 "WiringHouseModel" "needLate" "[Z" ∈ GW := gw_mem 1735 (by decide +kernel) rfl
theorem w2182 : Cond.code yX12_longness cX12_longness 1 (some .int) ∈ GW := gw_mem 2182 (by decide +kernel) rfl
theorem w2180 : Cond.methodLink RX12 458 yX12_longness ∈ GW := gw_mem 2180 (by decide +kernel) rfl
theorem w2181 : Cond.static yX12_longness ∈ GW := gw_mem 2181 (by decide +kernel) rfl
theorem hdS_yX12_longness : yX12_longness.cls ≠ "java/lang/invoke/MethodHandle" ∧ yX12_longness.cls ≠ "java/lang/invoke/VarHandle" ∧ (parseMethodDescriptor yX12_longness.desc).map (fun d => d.parameters.length) = some 1 := by decide +kernel
theorem w2186 : Cond.code yX12_addFault cX12_addFault 4 none ∈ GW := gw_mem 2186 (by decide +kernel) rfl
theorem w2183 : Cond.methodLink RX12 461 yX12_addFault ∈ GW := gw_mem 2183 (by decide +kernel) rfl
theorem w2185 : Cond.instanceMethod yX12_addFault ∈ GW := gw_mem 2185 (by decide +kernel) rfl
theorem w121 : Cond.selects RX12 yX12_addFault yX12_addFault ∈ GW := gw_mem 121 (by decide +kernel) rfl
theorem hdV_yX12_addFault : yX12_addFault.cls = RX12 ∧ yX12_addFault.cls ≠ "java/lang/invoke/MethodHandle" ∧ yX12_addFault.cls ≠ "java/lang/invoke/VarHandle" ∧ (parseMethodDescriptor yX12_addFault.desc).map (fun d => d.parameters.length) = some 3 := by decide +kernel
theorem w1794 : Cond.fieldLink RX12 219 "WiringHouseModel" "way" "[I" ∈ GW := gw_mem 1794 (by decide +kernel) rfl
theorem w1795 : Cond.fieldLink RX12 449 "WiringHouseModel" "wayMany" "I" ∈ GW := gw_mem 1795 (by decide +kernel) rfl
theorem dX12_suits_0 : decode cX12_suits 0 = .ok (.bipush 24, 2) := by decide +kernel
theorem dX12_suits_2 : decode cX12_suits 2 = .ok (.aload_n 0, 1) := by decide +kernel
theorem dX12_suits_3 : decode cX12_suits 3 = .ok (.getfield 286, 3) := by decide +kernel
theorem dX12_suits_6 : decode cX12_suits 6 = .ok (.imul, 1) := by decide +kernel
theorem dX12_suits_7 : decode cX12_suits 7 = .ok (.iload_n 2, 1) := by decide +kernel
theorem dX12_suits_8 : decode cX12_suits 8 = .ok (.iadd, 1) := by decide +kernel
theorem dX12_suits_9 : decode cX12_suits 9 = .ok (.istore_n 3, 1) := by decide +kernel
theorem dX12_suits_10 : decode cX12_suits 10 = .ok (.aload_n 0, 1) := by decide +kernel
theorem dX12_suits_11 : decode cX12_suits 11 = .ok (.iload_n 2, 1) := by decide +kernel
theorem dX12_suits_12 : decode cX12_suits 12 = .ok (.invokevirtual 438, 3) := by decide +kernel
theorem dX12_suits_15 : decode cX12_suits 15 = .ok (.ifCond .eq 50, 3) := by decide +kernel
theorem dX12_suits_65 : decode cX12_suits 65 = .ok (.iconst 0, 1) := by decide +kernel
theorem dX12_suits_66 : decode cX12_suits 66 = .ok (.ireturn, 1) := by decide +kernel
theorem dX12_suits_18 : decode cX12_suits 18 = .ok (.aload_n 0, 1) := by decide +kernel
theorem dX12_suits_19 : decode cX12_suits 19 = .ok (.getfield 68, 3) := by decide +kernel
theorem dX12_suits_22 : decode cX12_suits 22 = .ok (.bipush 24, 2) := by decide +kernel
theorem dX12_suits_24 : decode cX12_suits 24 = .ok (.iload_n 3, 1) := by decide +kernel
theorem dX12_suits_25 : decode cX12_suits 25 = .ok (.imul, 1) := by decide +kernel
theorem dX12_suits_26 : decode cX12_suits 26 = .ok (.aload_n 0, 1) := by decide +kernel
theorem dX12_suits_27 : decode cX12_suits 27 = .ok (.getfield 89, 3) := by decide +kernel
theorem dX12_suits_30 : decode cX12_suits 30 = .ok (.iload_n 1, 1) := by decide +kernel
theorem dX12_suits_31 : decode cX12_suits 31 = .ok (.iaload, 1) := by decide +kernel
theorem dX12_suits_32 : decode cX12_suits 32 = .ok (.iadd, 1) := by decide +kernel
theorem dX12_suits_33 : decode cX12_suits 33 = .ok (.baload, 1) := by decide +kernel
theorem dX12_suits_34 : decode cX12_suits 34 = .ok (.ifCond .eq 31, 3) := by decide +kernel
theorem dX12_suits_37 : decode cX12_suits 37 = .ok (.aload_n 0, 1) := by decide +kernel
theorem dX12_suits_38 : decode cX12_suits 38 = .ok (.getfield 98, 3) := by decide +kernel
theorem dX12_suits_41 : decode cX12_suits 41 = .ok (.iload_n 1, 1) := by decide +kernel
theorem dX12_suits_42 : decode cX12_suits 42 = .ok (.iaload, 1) := by decide +kernel
theorem dX12_suits_43 : decode cX12_suits 43 = .ok (.ifCond .lt 18, 3) := by decide +kernel
theorem dX12_suits_61 : decode cX12_suits 61 = .ok (.iconst 1, 1) := by decide +kernel
theorem dX12_suits_62 : decode cX12_suits 62 = .ok (.goto 4, 3) := by decide +kernel
theorem dX12_suits_46 : decode cX12_suits 46 = .ok (.aload_n 0, 1) := by decide +kernel
theorem dX12_suits_47 : decode cX12_suits 47 = .ok (.getfield 74, 3) := by decide +kernel
theorem dX12_suits_50 : decode cX12_suits 50 = .ok (.iload_n 3, 1) := by decide +kernel
theorem dX12_suits_51 : decode cX12_suits 51 = .ok (.iaload, 1) := by decide +kernel
theorem dX12_suits_52 : decode cX12_suits 52 = .ok (.aload_n 0, 1) := by decide +kernel
theorem dX12_suits_53 : decode cX12_suits 53 = .ok (.getfield 98, 3) := by decide +kernel
theorem dX12_suits_56 : decode cX12_suits 56 = .ok (.iload_n 1, 1) := by decide +kernel
theorem dX12_suits_57 : decode cX12_suits 57 = .ok (.iaload, 1) := by decide +kernel
theorem dX12_suits_58 : decode cX12_suits 58 = .ok (.if_icmp .ne 7, 3) := by decide +kernel
theorem dX12_candidatesOf_0 : decode cX12_candidatesOf 0 = .ok (.iconst 0, 1) := by decide +kernel
theorem dX12_candidatesOf_1 : decode cX12_candidatesOf 1 = .ok (.istore_n 2, 1) := by decide +kernel
theorem dX12_candidatesOf_2 : decode cX12_candidatesOf 2 = .ok (.iconst 0, 1) := by decide +kernel
theorem dX12_candidatesOf_3 : decode cX12_candidatesOf 3 = .ok (.istore_n 3, 1) := by decide +kernel
theorem dX12_candidatesOf_4 : decode cX12_candidatesOf 4 = .ok (.iload_n 3, 1) := by decide +kernel
theorem dX12_candidatesOf_5 : decode cX12_candidatesOf 5 = .ok (.aload_n 0, 1) := by decide +kernel
theorem dX12_candidatesOf_6 : decode cX12_candidatesOf 6 = .ok (.getfield 62, 3) := by decide +kernel
theorem dX12_candidatesOf_9 : decode cX12_candidatesOf 9 = .ok (.aload_n 0, 1) := by decide +kernel
theorem dX12_candidatesOf_10 : decode cX12_candidatesOf 10 = .ok (.getfield 286, 3) := by decide +kernel
theorem dX12_candidatesOf_13 : decode cX12_candidatesOf 13 = .ok (.iaload, 1) := by decide +kernel
theorem dX12_candidatesOf_14 : decode cX12_candidatesOf 14 = .ok (.if_icmp .ge 55, 3) := by decide +kernel
theorem dX12_candidatesOf_69 : decode cX12_candidatesOf 69 = .ok (.iconst 0, 1) := by decide +kernel
theorem dX12_candidatesOf_70 : decode cX12_candidatesOf 70 = .ok (.istore_n 3, 1) := by decide +kernel
theorem dX12_candidatesOf_71 : decode cX12_candidatesOf 71 = .ok (.iconst 0, 1) := by decide +kernel
theorem dX12_candidatesOf_72 : decode cX12_candidatesOf 72 = .ok (.istore 4, 2) := by decide +kernel
theorem dX12_candidatesOf_74 : decode cX12_candidatesOf 74 = .ok (.iload 4, 2) := by decide +kernel
theorem dX12_candidatesOf_76 : decode cX12_candidatesOf 76 = .ok (.aload_n 0, 1) := by decide +kernel
theorem dX12_candidatesOf_77 : decode cX12_candidatesOf 77 = .ok (.getfield 62, 3) := by decide +kernel
theorem dX12_candidatesOf_80 : decode cX12_candidatesOf 80 = .ok (.aload_n 0, 1) := by decide +kernel
theorem dX12_candidatesOf_81 : decode cX12_candidatesOf 81 = .ok (.getfield 286, 3) := by decide +kernel
theorem dX12_candidatesOf_84 : decode cX12_candidatesOf 84 = .ok (.iaload, 1) := by decide +kernel
theorem dX12_candidatesOf_85 : decode cX12_candidatesOf 85 = .ok (.if_icmp .ge 58, 3) := by decide +kernel
theorem dX12_candidatesOf_143 : decode cX12_candidatesOf 143 = .ok (.iload_n 3, 1) := by decide +kernel
theorem dX12_candidatesOf_144 : decode cX12_candidatesOf 144 = .ok (.ireturn, 1) := by decide +kernel
theorem dX12_candidatesOf_88 : decode cX12_candidatesOf 88 = .ok (.aload_n 0, 1) := by decide +kernel
theorem dX12_candidatesOf_89 : decode cX12_candidatesOf 89 = .ok (.iload_n 1, 1) := by decide +kernel
theorem dX12_candidatesOf_90 : decode cX12_candidatesOf 90 = .ok (.iload 4, 2) := by decide +kernel
theorem dX12_candidatesOf_92 : decode cX12_candidatesOf 92 = .ok (.invokevirtual 441, 3) := by decide +kernel
theorem dX12_candidatesOf_95 : decode cX12_candidatesOf 95 = .ok (.ifCond .eq 42, 3) := by decide +kernel
theorem dX12_candidatesOf_137 : decode cX12_candidatesOf 137 = .ok (.iinc 4 1, 3) := by decide +kernel
theorem dX12_candidatesOf_140 : decode cX12_candidatesOf 140 = .ok (.goto (-66), 3) := by decide +kernel
theorem dX12_candidatesOf_98 : decode cX12_candidatesOf 98 = .ok (.aload_n 0, 1) := by decide +kernel
theorem dX12_candidatesOf_99 : decode cX12_candidatesOf 99 = .ok (.getfield 95, 3) := by decide +kernel
theorem dX12_candidatesOf_102 : decode cX12_candidatesOf 102 = .ok (.iload_n 1, 1) := by decide +kernel
theorem dX12_candidatesOf_103 : decode cX12_candidatesOf 103 = .ok (.baload, 1) := by decide +kernel
theorem dX12_candidatesOf_104 : decode cX12_candidatesOf 104 = .ok (.ifCond .ne 22, 3) := by decide +kernel
theorem dX12_candidatesOf_126 : decode cX12_candidatesOf 126 = .ok (.aload_n 0, 1) := by decide +kernel
theorem dX12_candidatesOf_127 : decode cX12_candidatesOf 127 = .ok (.getfield 198, 3) := by decide +kernel
theorem dX12_candidatesOf_130 : decode cX12_candidatesOf 130 = .ok (.iload_n 3, 1) := by decide +kernel
theorem dX12_candidatesOf_131 : decode cX12_candidatesOf 131 = .ok (.iload 4, 2) := by decide +kernel
theorem dX12_candidatesOf_133 : decode cX12_candidatesOf 133 = .ok (.iastore, 1) := by decide +kernel
theorem dX12_candidatesOf_134 : decode cX12_candidatesOf 134 = .ok (.iinc 3 1, 3) := by decide +kernel
theorem dX12_candidatesOf_107 : decode cX12_candidatesOf 107 = .ok (.aload_n 0, 1) := by decide +kernel
theorem dX12_candidatesOf_108 : decode cX12_candidatesOf 108 = .ok (.getfield 77, 3) := by decide +kernel
theorem dX12_candidatesOf_111 : decode cX12_candidatesOf 111 = .ok (.bipush 24, 2) := by decide +kernel
theorem dX12_candidatesOf_113 : decode cX12_candidatesOf 113 = .ok (.aload_n 0, 1) := by decide +kernel
theorem dX12_candidatesOf_114 : decode cX12_candidatesOf 114 = .ok (.getfield 286, 3) := by decide +kernel
theorem dX12_candidatesOf_117 : decode cX12_candidatesOf 117 = .ok (.imul, 1) := by decide +kernel
theorem dX12_candidatesOf_118 : decode cX12_candidatesOf 118 = .ok (.iload 4, 2) := by decide +kernel
theorem dX12_candidatesOf_120 : decode cX12_candidatesOf 120 = .ok (.iadd, 1) := by decide +kernel
theorem dX12_candidatesOf_121 : decode cX12_candidatesOf 121 = .ok (.iaload, 1) := by decide +kernel
theorem dX12_candidatesOf_122 : decode cX12_candidatesOf 122 = .ok (.iload_n 2, 1) := by decide +kernel
theorem dX12_candidatesOf_123 : decode cX12_candidatesOf 123 = .ok (.if_icmp .ne 14, 3) := by decide +kernel
theorem dX12_candidatesOf_17 : decode cX12_candidatesOf 17 = .ok (.aload_n 0, 1) := by decide +kernel
theorem dX12_candidatesOf_18 : decode cX12_candidatesOf 18 = .ok (.iload_n 1, 1) := by decide +kernel
theorem dX12_candidatesOf_19 : decode cX12_candidatesOf 19 = .ok (.iload_n 3, 1) := by decide +kernel
theorem dX12_candidatesOf_20 : decode cX12_candidatesOf 20 = .ok (.invokevirtual 441, 3) := by decide +kernel
theorem dX12_candidatesOf_23 : decode cX12_candidatesOf 23 = .ok (.ifCond .eq 38, 3) := by decide +kernel
theorem dX12_candidatesOf_61 : decode cX12_candidatesOf 61 = .ok (.iload_n 2, 1) := by decide +kernel
theorem dX12_candidatesOf_62 : decode cX12_candidatesOf 62 = .ok (.istore_n 2, 1) := by decide +kernel
theorem dX12_candidatesOf_63 : decode cX12_candidatesOf 63 = .ok (.iinc 3 1, 3) := by decide +kernel
theorem dX12_candidatesOf_66 : decode cX12_candidatesOf 66 = .ok (.goto (-62), 3) := by decide +kernel
theorem dX12_candidatesOf_26 : decode cX12_candidatesOf 26 = .ok (.aload_n 0, 1) := by decide +kernel
theorem dX12_candidatesOf_27 : decode cX12_candidatesOf 27 = .ok (.getfield 77, 3) := by decide +kernel
theorem dX12_candidatesOf_30 : decode cX12_candidatesOf 30 = .ok (.bipush 24, 2) := by decide +kernel
theorem dX12_candidatesOf_32 : decode cX12_candidatesOf 32 = .ok (.aload_n 0, 1) := by decide +kernel
theorem dX12_candidatesOf_33 : decode cX12_candidatesOf 33 = .ok (.getfield 286, 3) := by decide +kernel
theorem dX12_candidatesOf_36 : decode cX12_candidatesOf 36 = .ok (.imul, 1) := by decide +kernel
theorem dX12_candidatesOf_37 : decode cX12_candidatesOf 37 = .ok (.iload_n 3, 1) := by decide +kernel
theorem dX12_candidatesOf_38 : decode cX12_candidatesOf 38 = .ok (.iadd, 1) := by decide +kernel
theorem dX12_candidatesOf_39 : decode cX12_candidatesOf 39 = .ok (.iaload, 1) := by decide +kernel
theorem dX12_candidatesOf_40 : decode cX12_candidatesOf 40 = .ok (.iload_n 2, 1) := by decide +kernel
theorem dX12_candidatesOf_41 : decode cX12_candidatesOf 41 = .ok (.if_icmp .le 20, 3) := by decide +kernel
theorem dX12_candidatesOf_44 : decode cX12_candidatesOf 44 = .ok (.aload_n 0, 1) := by decide +kernel
theorem dX12_candidatesOf_45 : decode cX12_candidatesOf 45 = .ok (.getfield 77, 3) := by decide +kernel
theorem dX12_candidatesOf_48 : decode cX12_candidatesOf 48 = .ok (.bipush 24, 2) := by decide +kernel
theorem dX12_candidatesOf_50 : decode cX12_candidatesOf 50 = .ok (.aload_n 0, 1) := by decide +kernel
theorem dX12_candidatesOf_51 : decode cX12_candidatesOf 51 = .ok (.getfield 286, 3) := by decide +kernel
theorem dX12_candidatesOf_54 : decode cX12_candidatesOf 54 = .ok (.imul, 1) := by decide +kernel
theorem dX12_candidatesOf_55 : decode cX12_candidatesOf 55 = .ok (.iload_n 3, 1) := by decide +kernel
theorem dX12_candidatesOf_56 : decode cX12_candidatesOf 56 = .ok (.iadd, 1) := by decide +kernel
theorem dX12_candidatesOf_57 : decode cX12_candidatesOf 57 = .ok (.iaload, 1) := by decide +kernel
theorem dX12_candidatesOf_58 : decode cX12_candidatesOf 58 = .ok (.goto 4, 3) := by decide +kernel
theorem dX12_isCandidate_0 : decode cX12_isCandidate 0 = .ok (.aload_n 0, 1) := by decide +kernel
theorem dX12_isCandidate_1 : decode cX12_isCandidate 1 = .ok (.iload_n 1, 1) := by decide +kernel
theorem dX12_isCandidate_2 : decode cX12_isCandidate 2 = .ok (.invokevirtual 455, 3) := by decide +kernel
theorem dX12_isCandidate_5 : decode cX12_isCandidate 5 = .ok (.istore_n 3, 1) := by decide +kernel
theorem dX12_isCandidate_6 : decode cX12_isCandidate 6 = .ok (.iconst 0, 1) := by decide +kernel
theorem dX12_isCandidate_7 : decode cX12_isCandidate 7 = .ok (.istore 4, 2) := by decide +kernel
theorem dX12_isCandidate_9 : decode cX12_isCandidate 9 = .ok (.iconst 0, 1) := by decide +kernel
theorem dX12_isCandidate_10 : decode cX12_isCandidate 10 = .ok (.istore 5, 2) := by decide +kernel
theorem dX12_isCandidate_12 : decode cX12_isCandidate 12 = .ok (.iload 5, 2) := by decide +kernel
theorem dX12_isCandidate_14 : decode cX12_isCandidate 14 = .ok (.iload_n 3, 1) := by decide +kernel
theorem dX12_isCandidate_15 : decode cX12_isCandidate 15 = .ok (.if_icmp .ge 32, 3) := by decide +kernel
theorem dX12_isCandidate_47 : decode cX12_isCandidate 47 = .ok (.iload 4, 2) := by decide +kernel
theorem dX12_isCandidate_49 : decode cX12_isCandidate 49 = .ok (.ireturn, 1) := by decide +kernel
theorem dX12_isCandidate_18 : decode cX12_isCandidate 18 = .ok (.iload 4, 2) := by decide +kernel
theorem dX12_isCandidate_20 : decode cX12_isCandidate 20 = .ok (.ifCond .ne 14, 3) := by decide +kernel
theorem dX12_isCandidate_34 : decode cX12_isCandidate 34 = .ok (.iconst 1, 1) := by decide +kernel
theorem dX12_isCandidate_35 : decode cX12_isCandidate 35 = .ok (.goto 4, 3) := by decide +kernel
theorem dX12_isCandidate_39 : decode cX12_isCandidate 39 = .ok (.istore 4, 2) := by decide +kernel
theorem dX12_isCandidate_41 : decode cX12_isCandidate 41 = .ok (.iinc 5 1, 3) := by decide +kernel
theorem dX12_isCandidate_44 : decode cX12_isCandidate 44 = .ok (.goto (-32), 3) := by decide +kernel
theorem dX12_isCandidate_23 : decode cX12_isCandidate 23 = .ok (.aload_n 0, 1) := by decide +kernel
theorem dX12_isCandidate_24 : decode cX12_isCandidate 24 = .ok (.getfield 198, 3) := by decide +kernel
theorem dX12_isCandidate_27 : decode cX12_isCandidate 27 = .ok (.iload 5, 2) := by decide +kernel
theorem dX12_isCandidate_29 : decode cX12_isCandidate 29 = .ok (.iaload, 1) := by decide +kernel
theorem dX12_isCandidate_30 : decode cX12_isCandidate 30 = .ok (.iload_n 2, 1) := by decide +kernel
theorem dX12_isCandidate_31 : decode cX12_isCandidate 31 = .ok (.if_icmp .ne 7, 3) := by decide +kernel
theorem dX12_isCandidate_38 : decode cX12_isCandidate 38 = .ok (.iconst 0, 1) := by decide +kernel
theorem dX12_joined_0 : decode cX12_joined 0 = .ok (.aload_n 0, 1) := by decide +kernel
theorem dX12_joined_1 : decode cX12_joined 1 = .ok (.iconst 0, 1) := by decide +kernel
theorem dX12_joined_2 : decode cX12_joined 2 = .ok (.putfield 1, 3) := by decide +kernel
theorem dX12_joined_5 : decode cX12_joined 5 = .ok (.iload_n 1, 1) := by decide +kernel
theorem dX12_joined_6 : decode cX12_joined 6 = .ok (.ifCond .lt 57, 3) := by decide +kernel
theorem dX12_joined_63 : decode cX12_joined 63 = .ok (.iconst (-1), 1) := by decide +kernel
theorem dX12_joined_64 : decode cX12_joined 64 = .ok (.ireturn, 1) := by decide +kernel
theorem dX12_joined_9 : decode cX12_joined 9 = .ok (.iload_n 1, 1) := by decide +kernel
theorem dX12_joined_10 : decode cX12_joined 10 = .ok (.aload_n 0, 1) := by decide +kernel
theorem dX12_joined_11 : decode cX12_joined 11 = .ok (.getfield 411, 3) := by decide +kernel
theorem dX12_joined_14 : decode cX12_joined 14 = .ok (.if_icmp .ge 49, 3) := by decide +kernel
theorem dX12_joined_17 : decode cX12_joined 17 = .ok (.iload_n 2, 1) := by decide +kernel
theorem dX12_joined_18 : decode cX12_joined 18 = .ok (.ifCond .lt 45, 3) := by decide +kernel
theorem dX12_joined_21 : decode cX12_joined 21 = .ok (.iload_n 2, 1) := by decide +kernel
theorem dX12_joined_22 : decode cX12_joined 22 = .ok (.aload_n 0, 1) := by decide +kernel
theorem dX12_joined_23 : decode cX12_joined 23 = .ok (.getfield 86, 3) := by decide +kernel
theorem dX12_joined_26 : decode cX12_joined 26 = .ok (.bipush 24, 2) := by decide +kernel
theorem dX12_joined_28 : decode cX12_joined 28 = .ok (.aload_n 0, 1) := by decide +kernel
theorem dX12_joined_29 : decode cX12_joined 29 = .ok (.getfield 286, 3) := by decide +kernel
theorem dX12_joined_32 : decode cX12_joined 32 = .ok (.imul, 1) := by decide +kernel
theorem dX12_joined_33 : decode cX12_joined 33 = .ok (.aload_n 0, 1) := by decide +kernel
theorem dX12_joined_34 : decode cX12_joined 34 = .ok (.getfield 164, 3) := by decide +kernel
theorem dX12_joined_37 : decode cX12_joined 37 = .ok (.iload_n 1, 1) := by decide +kernel
theorem dX12_joined_38 : decode cX12_joined 38 = .ok (.iaload, 1) := by decide +kernel
theorem dX12_joined_39 : decode cX12_joined 39 = .ok (.iadd, 1) := by decide +kernel
theorem dX12_joined_40 : decode cX12_joined 40 = .ok (.iaload, 1) := by decide +kernel
theorem dX12_joined_41 : decode cX12_joined 41 = .ok (.if_icmp .ge 22, 3) := by decide +kernel
theorem dX12_joined_44 : decode cX12_joined 44 = .ok (.iload_n 3, 1) := by decide +kernel
theorem dX12_joined_45 : decode cX12_joined 45 = .ok (.ifCond .lt 18, 3) := by decide +kernel
theorem dX12_joined_48 : decode cX12_joined 48 = .ok (.iload_n 3, 1) := by decide +kernel
theorem dX12_joined_49 : decode cX12_joined 49 = .ok (.aload_n 0, 1) := by decide +kernel
theorem dX12_joined_50 : decode cX12_joined 50 = .ok (.getfield 176, 3) := by decide +kernel
theorem dX12_joined_53 : decode cX12_joined 53 = .ok (.bipush 8, 2) := by decide +kernel
theorem dX12_joined_55 : decode cX12_joined 55 = .ok (.iload_n 1, 1) := by decide +kernel
theorem dX12_joined_56 : decode cX12_joined 56 = .ok (.imul, 1) := by decide +kernel
theorem dX12_joined_57 : decode cX12_joined 57 = .ok (.iload_n 2, 1) := by decide +kernel
theorem dX12_joined_58 : decode cX12_joined 58 = .ok (.iadd, 1) := by decide +kernel
theorem dX12_joined_59 : decode cX12_joined 59 = .ok (.iaload, 1) := by decide +kernel
theorem dX12_joined_60 : decode cX12_joined 60 = .ok (.if_icmp .lt 5, 3) := by decide +kernel
theorem dX12_joined_65 : decode cX12_joined 65 = .ok (.aload_n 0, 1) := by decide +kernel
theorem dX12_joined_66 : decode cX12_joined 66 = .ok (.getfield 180, 3) := by decide +kernel
theorem dX12_joined_69 : decode cX12_joined 69 = .ok (.bipush 24, 2) := by decide +kernel
theorem dX12_joined_71 : decode cX12_joined 71 = .ok (.bipush 8, 2) := by decide +kernel
theorem dX12_joined_73 : decode cX12_joined 73 = .ok (.iload_n 1, 1) := by decide +kernel
theorem dX12_joined_74 : decode cX12_joined 74 = .ok (.imul, 1) := by decide +kernel
theorem dX12_joined_75 : decode cX12_joined 75 = .ok (.iload_n 2, 1) := by decide +kernel
theorem dX12_joined_76 : decode cX12_joined 76 = .ok (.iadd, 1) := by decide +kernel
theorem dX12_joined_77 : decode cX12_joined 77 = .ok (.imul, 1) := by decide +kernel
theorem dX12_joined_78 : decode cX12_joined 78 = .ok (.iload_n 3, 1) := by decide +kernel
theorem dX12_joined_79 : decode cX12_joined 79 = .ok (.iadd, 1) := by decide +kernel
theorem dX12_joined_80 : decode cX12_joined 80 = .ok (.iaload, 1) := by decide +kernel
theorem dX12_joined_81 : decode cX12_joined 81 = .ok (.ireturn, 1) := by decide +kernel
theorem dX12_candidate_0 : decode cX12_candidate 0 = .ok (.aload_n 0, 1) := by decide +kernel
theorem dX12_candidate_1 : decode cX12_candidate 1 = .ok (.iconst 0, 1) := by decide +kernel
theorem dX12_candidate_2 : decode cX12_candidate 2 = .ok (.putfield 1, 3) := by decide +kernel
theorem dX12_candidate_5 : decode cX12_candidate 5 = .ok (.iload_n 1, 1) := by decide +kernel
theorem dX12_candidate_6 : decode cX12_candidate 6 = .ok (.ifCond .lt 42, 3) := by decide +kernel
theorem dX12_candidate_48 : decode cX12_candidate 48 = .ok (.iconst (-1), 1) := by decide +kernel
theorem dX12_candidate_49 : decode cX12_candidate 49 = .ok (.ireturn, 1) := by decide +kernel
theorem dX12_candidate_9 : decode cX12_candidate 9 = .ok (.iload_n 1, 1) := by decide +kernel
theorem dX12_candidate_10 : decode cX12_candidate 10 = .ok (.aload_n 0, 1) := by decide +kernel
theorem dX12_candidate_11 : decode cX12_candidate 11 = .ok (.getfield 62, 3) := by decide +kernel
theorem dX12_candidate_14 : decode cX12_candidate 14 = .ok (.aload_n 0, 1) := by decide +kernel
theorem dX12_candidate_15 : decode cX12_candidate 15 = .ok (.getfield 286, 3) := by decide +kernel
theorem dX12_candidate_18 : decode cX12_candidate 18 = .ok (.iaload, 1) := by decide +kernel
theorem dX12_candidate_19 : decode cX12_candidate 19 = .ok (.if_icmp .ge 29, 3) := by decide +kernel
theorem dX12_candidate_22 : decode cX12_candidate 22 = .ok (.iload_n 2, 1) := by decide +kernel
theorem dX12_candidate_23 : decode cX12_candidate 23 = .ok (.ifCond .lt 25, 3) := by decide +kernel
theorem dX12_candidate_26 : decode cX12_candidate 26 = .ok (.iload_n 2, 1) := by decide +kernel
theorem dX12_candidate_27 : decode cX12_candidate 27 = .ok (.aload_n 0, 1) := by decide +kernel
theorem dX12_candidate_28 : decode cX12_candidate 28 = .ok (.getfield 86, 3) := by decide +kernel
theorem dX12_candidate_31 : decode cX12_candidate 31 = .ok (.bipush 24, 2) := by decide +kernel
theorem dX12_candidate_33 : decode cX12_candidate 33 = .ok (.aload_n 0, 1) := by decide +kernel
theorem dX12_candidate_34 : decode cX12_candidate 34 = .ok (.getfield 286, 3) := by decide +kernel
theorem dX12_candidate_37 : decode cX12_candidate 37 = .ok (.imul, 1) := by decide +kernel
theorem dX12_candidate_38 : decode cX12_candidate 38 = .ok (.iload_n 1, 1) := by decide +kernel
theorem dX12_candidate_39 : decode cX12_candidate 39 = .ok (.iadd, 1) := by decide +kernel
theorem dX12_candidate_40 : decode cX12_candidate 40 = .ok (.iaload, 1) := by decide +kernel
theorem dX12_candidate_41 : decode cX12_candidate 41 = .ok (.if_icmp .ge 7, 3) := by decide +kernel
theorem dX12_candidate_44 : decode cX12_candidate 44 = .ok (.iload_n 3, 1) := by decide +kernel
theorem dX12_candidate_45 : decode cX12_candidate 45 = .ok (.ifCond .ge 5, 3) := by decide +kernel
theorem dX12_candidate_50 : decode cX12_candidate 50 = .ok (.iload_n 3, 1) := by decide +kernel
theorem dX12_candidate_51 : decode cX12_candidate 51 = .ok (.aload_n 0, 1) := by decide +kernel
theorem dX12_candidate_52 : decode cX12_candidate 52 = .ok (.bipush 8, 2) := by decide +kernel
theorem dX12_candidate_54 : decode cX12_candidate 54 = .ok (.bipush 24, 2) := by decide +kernel
theorem dX12_candidate_56 : decode cX12_candidate 56 = .ok (.aload_n 0, 1) := by decide +kernel
theorem dX12_candidate_57 : decode cX12_candidate 57 = .ok (.getfield 286, 3) := by decide +kernel
theorem dX12_candidate_60 : decode cX12_candidate 60 = .ok (.imul, 1) := by decide +kernel
theorem dX12_candidate_61 : decode cX12_candidate 61 = .ok (.iload_n 1, 1) := by decide +kernel
theorem dX12_candidate_62 : decode cX12_candidate 62 = .ok (.iadd, 1) := by decide +kernel
theorem dX12_candidate_63 : decode cX12_candidate 63 = .ok (.imul, 1) := by decide +kernel
theorem dX12_candidate_64 : decode cX12_candidate 64 = .ok (.iload_n 2, 1) := by decide +kernel
theorem dX12_candidate_65 : decode cX12_candidate 65 = .ok (.iadd, 1) := by decide +kernel
theorem dX12_candidate_66 : decode cX12_candidate 66 = .ok (.invokevirtual 455, 3) := by decide +kernel
theorem dX12_candidate_69 : decode cX12_candidate 69 = .ok (.if_icmp .ge 12, 3) := by decide +kernel
theorem dX12_candidate_81 : decode cX12_candidate 81 = .ok (.iconst (-1), 1) := by decide +kernel
theorem dX12_candidate_82 : decode cX12_candidate 82 = .ok (.ireturn, 1) := by decide +kernel
theorem dX12_candidate_72 : decode cX12_candidate 72 = .ok (.aload_n 0, 1) := by decide +kernel
theorem dX12_candidate_73 : decode cX12_candidate 73 = .ok (.getfield 198, 3) := by decide +kernel
theorem dX12_candidate_76 : decode cX12_candidate 76 = .ok (.iload_n 3, 1) := by decide +kernel
theorem dX12_candidate_77 : decode cX12_candidate 77 = .ok (.iaload, 1) := by decide +kernel
theorem dX12_candidate_78 : decode cX12_candidate 78 = .ok (.goto 4, 3) := by decide +kernel
theorem dX12_checkNeed_0 : decode cX12_checkNeed 0 = .ok (.bipush 8, 2) := by decide +kernel
theorem dX12_checkNeed_2 : decode cX12_checkNeed 2 = .ok (.bipush 24, 2) := by decide +kernel
theorem dX12_checkNeed_4 : decode cX12_checkNeed 4 = .ok (.aload_n 0, 1) := by decide +kernel
theorem dX12_checkNeed_5 : decode cX12_checkNeed 5 = .ok (.getfield 286, 3) := by decide +kernel
theorem dX12_checkNeed_8 : decode cX12_checkNeed 8 = .ok (.imul, 1) := by decide +kernel
theorem dX12_checkNeed_9 : decode cX12_checkNeed 9 = .ok (.iload_n 1, 1) := by decide +kernel
theorem dX12_checkNeed_10 : decode cX12_checkNeed 10 = .ok (.iadd, 1) := by decide +kernel
theorem dX12_checkNeed_11 : decode cX12_checkNeed 11 = .ok (.imul, 1) := by decide +kernel
theorem dX12_checkNeed_12 : decode cX12_checkNeed 12 = .ok (.iload_n 2, 1) := by decide +kernel
theorem dX12_checkNeed_13 : decode cX12_checkNeed 13 = .ok (.iadd, 1) := by decide +kernel
theorem dX12_checkNeed_14 : decode cX12_checkNeed 14 = .ok (.istore_n 3, 1) := by decide +kernel
theorem dX12_checkNeed_15 : decode cX12_checkNeed 15 = .ok (.aload_n 0, 1) := by decide +kernel
theorem dX12_checkNeed_16 : decode cX12_checkNeed 16 = .ok (.iload_n 3, 1) := by decide +kernel
theorem dX12_checkNeed_17 : decode cX12_checkNeed 17 = .ok (.invokevirtual 455, 3) := by decide +kernel
theorem dX12_checkNeed_20 : decode cX12_checkNeed 20 = .ok (.istore 4, 2) := by decide +kernel
theorem dX12_checkNeed_22 : decode cX12_checkNeed 22 = .ok (.iload 4, 2) := by decide +kernel
theorem dX12_checkNeed_24 : decode cX12_checkNeed 24 = .ok (.ifCond .ne 16, 3) := by decide +kernel
theorem dX12_checkNeed_27 : decode cX12_checkNeed 27 = .ok (.aload_n 0, 1) := by decide +kernel
theorem dX12_checkNeed_28 : decode cX12_checkNeed 28 = .ok (.getfield 95, 3) := by decide +kernel
theorem dX12_checkNeed_31 : decode cX12_checkNeed 31 = .ok (.iload_n 3, 1) := by decide +kernel
theorem dX12_checkNeed_32 : decode cX12_checkNeed 32 = .ok (.baload, 1) := by decide +kernel
theorem dX12_checkNeed_33 : decode cX12_checkNeed 33 = .ok (.ifCond .ne 7, 3) := by decide +kernel
theorem dX12_checkNeed_40 : decode cX12_checkNeed 40 = .ok (.iconst 0, 1) := by decide +kernel
theorem dX12_checkNeed_36 : decode cX12_checkNeed 36 = .ok (.iconst 1, 1) := by decide +kernel
theorem dX12_checkNeed_37 : decode cX12_checkNeed 37 = .ok (.goto 4, 3) := by decide +kernel
theorem dX12_checkNeed_41 : decode cX12_checkNeed 41 = .ok (.istore 5, 2) := by decide +kernel
theorem dX12_checkNeed_43 : decode cX12_checkNeed 43 = .ok (.iload 4, 2) := by decide +kernel
theorem dX12_checkNeed_45 : decode cX12_checkNeed 45 = .ok (.iconst 1, 1) := by decide +kernel
theorem dX12_checkNeed_46 : decode cX12_checkNeed 46 = .ok (.if_icmp .le 16, 3) := by decide +kernel
theorem dX12_checkNeed_49 : decode cX12_checkNeed 49 = .ok (.aload_n 0, 1) := by decide +kernel
theorem dX12_checkNeed_50 : decode cX12_checkNeed 50 = .ok (.getfield 95, 3) := by decide +kernel
theorem dX12_checkNeed_53 : decode cX12_checkNeed 53 = .ok (.iload_n 3, 1) := by decide +kernel
theorem dX12_checkNeed_54 : decode cX12_checkNeed 54 = .ok (.baload, 1) := by decide +kernel
theorem dX12_checkNeed_55 : decode cX12_checkNeed 55 = .ok (.ifCond .ne 7, 3) := by decide +kernel
theorem dX12_checkNeed_62 : decode cX12_checkNeed 62 = .ok (.iconst 0, 1) := by decide +kernel
theorem dX12_checkNeed_58 : decode cX12_checkNeed 58 = .ok (.iconst 1, 1) := by decide +kernel
theorem dX12_checkNeed_59 : decode cX12_checkNeed 59 = .ok (.goto 4, 3) := by decide +kernel
theorem dX12_checkNeed_63 : decode cX12_checkNeed 63 = .ok (.istore 6, 2) := by decide +kernel
theorem dX12_checkNeed_65 : decode cX12_checkNeed 65 = .ok (.aload_n 0, 1) := by decide +kernel
theorem dX12_checkNeed_66 : decode cX12_checkNeed 66 = .ok (.getfield 213, 3) := by decide +kernel
theorem dX12_checkNeed_69 : decode cX12_checkNeed 69 = .ok (.bipush 8, 2) := by decide +kernel
theorem dX12_checkNeed_71 : decode cX12_checkNeed 71 = .ok (.iload_n 1, 1) := by decide +kernel
theorem dX12_checkNeed_72 : decode cX12_checkNeed 72 = .ok (.imul, 1) := by decide +kernel
theorem dX12_checkNeed_73 : decode cX12_checkNeed 73 = .ok (.iload_n 2, 1) := by decide +kernel
theorem dX12_checkNeed_74 : decode cX12_checkNeed 74 = .ok (.iadd, 1) := by decide +kernel
theorem dX12_checkNeed_75 : decode cX12_checkNeed 75 = .ok (.iload 5, 2) := by decide +kernel
theorem dX12_checkNeed_77 : decode cX12_checkNeed 77 = .ok (.ifCond .ne 8, 3) := by decide +kernel
theorem dX12_checkNeed_80 : decode cX12_checkNeed 80 = .ok (.iload 6, 2) := by decide +kernel
theorem dX12_checkNeed_82 : decode cX12_checkNeed 82 = .ok (.ifCond .eq 7, 3) := by decide +kernel
theorem dX12_checkNeed_89 : decode cX12_checkNeed 89 = .ok (.iconst 0, 1) := by decide +kernel
theorem dX12_checkNeed_85 : decode cX12_checkNeed 85 = .ok (.iconst 1, 1) := by decide +kernel
theorem dX12_checkNeed_86 : decode cX12_checkNeed 86 = .ok (.goto 4, 3) := by decide +kernel
theorem dX12_checkNeed_90 : decode cX12_checkNeed 90 = .ok (.bastore, 1) := by decide +kernel
theorem dX12_checkNeed_91 : decode cX12_checkNeed 91 = .ok (.iconst 0, 1) := by decide +kernel
theorem dX12_checkNeed_92 : decode cX12_checkNeed 92 = .ok (.istore 7, 2) := by decide +kernel
theorem dX12_checkNeed_94 : decode cX12_checkNeed 94 = .ok (.iconst 0, 1) := by decide +kernel
theorem dX12_checkNeed_95 : decode cX12_checkNeed 95 = .ok (.istore 8, 2) := by decide +kernel
theorem dX12_checkNeed_97 : decode cX12_checkNeed 97 = .ok (.iload 8, 2) := by decide +kernel
theorem dX12_checkNeed_99 : decode cX12_checkNeed 99 = .ok (.iload 4, 2) := by decide +kernel
theorem dX12_checkNeed_101 : decode cX12_checkNeed 101 = .ok (.if_icmp .ge 83, 3) := by decide +kernel
theorem dX12_checkNeed_104 : decode cX12_checkNeed 104 = .ok (.aload_n 0, 1) := by decide +kernel
theorem dX12_checkNeed_105 : decode cX12_checkNeed 105 = .ok (.getfield 92, 3) := by decide +kernel
theorem dX12_checkNeed_108 : decode cX12_checkNeed 108 = .ok (.iload_n 3, 1) := by decide +kernel
theorem dX12_checkNeed_109 : decode cX12_checkNeed 109 = .ok (.baload, 1) := by decide +kernel
theorem dX12_checkNeed_110 : decode cX12_checkNeed 110 = .ok (.ifCond .ne 74, 3) := by decide +kernel
theorem dX12_checkNeed_113 : decode cX12_checkNeed 113 = .ok (.aload_n 0, 1) := by decide +kernel
theorem dX12_checkNeed_114 : decode cX12_checkNeed 114 = .ok (.getfield 71, 3) := by decide +kernel
theorem dX12_checkNeed_117 : decode cX12_checkNeed 117 = .ok (.bipush 24, 2) := by decide +kernel
theorem dX12_checkNeed_119 : decode cX12_checkNeed 119 = .ok (.aload_n 0, 1) := by decide +kernel
theorem dX12_checkNeed_120 : decode cX12_checkNeed 120 = .ok (.getfield 286, 3) := by decide +kernel
theorem dX12_checkNeed_123 : decode cX12_checkNeed 123 = .ok (.imul, 1) := by decide +kernel
theorem dX12_checkNeed_124 : decode cX12_checkNeed 124 = .ok (.aload_n 0, 1) := by decide +kernel
theorem dX12_checkNeed_125 : decode cX12_checkNeed 125 = .ok (.getfield 198, 3) := by decide +kernel
theorem dX12_checkNeed_128 : decode cX12_checkNeed 128 = .ok (.iload 8, 2) := by decide +kernel
theorem dX12_checkNeed_130 : decode cX12_checkNeed 130 = .ok (.iaload, 1) := by decide +kernel
theorem dX12_checkNeed_131 : decode cX12_checkNeed 131 = .ok (.iadd, 1) := by decide +kernel
theorem dX12_checkNeed_132 : decode cX12_checkNeed 132 = .ok (.iaload, 1) := by decide +kernel
theorem dX12_checkNeed_133 : decode cX12_checkNeed 133 = .ok (.istore 9, 2) := by decide +kernel
theorem dX12_checkNeed_135 : decode cX12_checkNeed 135 = .ok (.iload 7, 2) := by decide +kernel
theorem dX12_checkNeed_137 : decode cX12_checkNeed 137 = .ok (.ifCond .ne 34, 3) := by decide +kernel
theorem dX12_checkNeed_171 : decode cX12_checkNeed 171 = .ok (.iconst 1, 1) := by decide +kernel
theorem dX12_checkNeed_172 : decode cX12_checkNeed 172 = .ok (.goto 4, 3) := by decide +kernel
theorem dX12_checkNeed_176 : decode cX12_checkNeed 176 = .ok (.istore 7, 2) := by decide +kernel
theorem dX12_checkNeed_178 : decode cX12_checkNeed 178 = .ok (.iinc 8 1, 3) := by decide +kernel
theorem dX12_checkNeed_181 : decode cX12_checkNeed 181 = .ok (.goto (-84), 3) := by decide +kernel
theorem dX12_checkNeed_140 : decode cX12_checkNeed 140 = .ok (.iload 9, 2) := by decide +kernel
theorem dX12_checkNeed_142 : decode cX12_checkNeed 142 = .ok (.iconst 3, 1) := by decide +kernel
theorem dX12_checkNeed_143 : decode cX12_checkNeed 143 = .ok (.if_icmp .eq 32, 3) := by decide +kernel
theorem dX12_checkNeed_175 : decode cX12_checkNeed 175 = .ok (.iconst 0, 1) := by decide +kernel
theorem dX12_checkNeed_146 : decode cX12_checkNeed 146 = .ok (.iload 9, 2) := by decide +kernel
theorem dX12_checkNeed_148 : decode cX12_checkNeed 148 = .ok (.invokestatic 458, 3) := by decide +kernel
theorem dX12_checkNeed_151 : decode cX12_checkNeed 151 = .ok (.aload_n 0, 1) := by decide +kernel
theorem dX12_checkNeed_152 : decode cX12_checkNeed 152 = .ok (.getfield 71, 3) := by decide +kernel
theorem dX12_checkNeed_155 : decode cX12_checkNeed 155 = .ok (.bipush 24, 2) := by decide +kernel
theorem dX12_checkNeed_157 : decode cX12_checkNeed 157 = .ok (.aload_n 0, 1) := by decide +kernel
theorem dX12_checkNeed_158 : decode cX12_checkNeed 158 = .ok (.getfield 286, 3) := by decide +kernel
theorem dX12_checkNeed_161 : decode cX12_checkNeed 161 = .ok (.imul, 1) := by decide +kernel
theorem dX12_checkNeed_162 : decode cX12_checkNeed 162 = .ok (.iload_n 1, 1) := by decide +kernel
theorem dX12_checkNeed_163 : decode cX12_checkNeed 163 = .ok (.iadd, 1) := by decide +kernel
theorem dX12_checkNeed_164 : decode cX12_checkNeed 164 = .ok (.iaload, 1) := by decide +kernel
theorem dX12_checkNeed_165 : decode cX12_checkNeed 165 = .ok (.invokestatic 458, 3) := by decide +kernel
theorem dX12_checkNeed_168 : decode cX12_checkNeed 168 = .ok (.if_icmp .ge 7, 3) := by decide +kernel
theorem dX12_checkNeed_184 : decode cX12_checkNeed 184 = .ok (.iload 5, 2) := by decide +kernel
theorem dX12_checkNeed_186 : decode cX12_checkNeed 186 = .ok (.ifCond .ne 13, 3) := by decide +kernel
theorem dX12_checkNeed_199 : decode cX12_checkNeed 199 = .ok (.aload_n 0, 1) := by decide +kernel
theorem dX12_checkNeed_200 : decode cX12_checkNeed 200 = .ok (.iload 5, 2) := by decide +kernel
theorem dX12_checkNeed_202 : decode cX12_checkNeed 202 = .ok (.ifCond .eq 7, 3) := by decide +kernel
theorem dX12_checkNeed_205 : decode cX12_checkNeed 205 = .ok (.iconst 1, 1) := by decide +kernel
theorem dX12_checkNeed_206 : decode cX12_checkNeed 206 = .ok (.goto 13, 3) := by decide +kernel
theorem dX12_checkNeed_219 : decode cX12_checkNeed 219 = .ok (.iload_n 1, 1) := by decide +kernel
theorem dX12_checkNeed_220 : decode cX12_checkNeed 220 = .ok (.iload_n 2, 1) := by decide +kernel
theorem dX12_checkNeed_221 : decode cX12_checkNeed 221 = .ok (.invokevirtual 461, 3) := by decide +kernel
theorem dX12_checkNeed_224 : decode cX12_checkNeed 224 = .ok (.return_, 1) := by decide +kernel
theorem dX12_checkNeed_189 : decode cX12_checkNeed 189 = .ok (.iload 6, 2) := by decide +kernel
theorem dX12_checkNeed_191 : decode cX12_checkNeed 191 = .ok (.ifCond .ne 8, 3) := by decide +kernel
theorem dX12_checkNeed_209 : decode cX12_checkNeed 209 = .ok (.iload 6, 2) := by decide +kernel
theorem dX12_checkNeed_211 : decode cX12_checkNeed 211 = .ok (.ifCond .eq 7, 3) := by decide +kernel
theorem dX12_checkNeed_214 : decode cX12_checkNeed 214 = .ok (.iconst 2, 1) := by decide +kernel
theorem dX12_checkNeed_215 : decode cX12_checkNeed 215 = .ok (.goto 4, 3) := by decide +kernel
theorem dX12_checkNeed_194 : decode cX12_checkNeed 194 = .ok (.iload 7, 2) := by decide +kernel
theorem dX12_checkNeed_196 : decode cX12_checkNeed 196 = .ok (.ifCond .eq 28, 3) := by decide +kernel
theorem dX12_checkNeed_218 : decode cX12_checkNeed 218 = .ok (.iconst 4, 1) := by decide +kernel
theorem dX12_addCycle_0 : decode cX12_addCycle 0 = .ok (.iconst 0, 1) := by decide +kernel
theorem dX12_addCycle_1 : decode cX12_addCycle 1 = .ok (.istore_n 2, 1) := by decide +kernel
theorem dX12_addCycle_2 : decode cX12_addCycle 2 = .ok (.aload_n 0, 1) := by decide +kernel
theorem dX12_addCycle_3 : decode cX12_addCycle 3 = .ok (.getfield 219, 3) := by decide +kernel
theorem dX12_addCycle_6 : decode cX12_addCycle 6 = .ok (.iload_n 2, 1) := by decide +kernel
theorem dX12_addCycle_7 : decode cX12_addCycle 7 = .ok (.iaload, 1) := by decide +kernel
theorem dX12_addCycle_8 : decode cX12_addCycle 8 = .ok (.iload_n 1, 1) := by decide +kernel
theorem dX12_addCycle_9 : decode cX12_addCycle 9 = .ok (.if_icmp .eq 9, 3) := by decide +kernel
theorem dX12_addCycle_12 : decode cX12_addCycle 12 = .ok (.iinc 2 1, 3) := by decide +kernel
theorem dX12_addCycle_15 : decode cX12_addCycle 15 = .ok (.goto (-13), 3) := by decide +kernel
theorem dX12_addCycle_18 : decode cX12_addCycle 18 = .ok (.iload_n 2, 1) := by decide +kernel
theorem dX12_addCycle_19 : decode cX12_addCycle 19 = .ok (.istore_n 3, 1) := by decide +kernel
theorem dX12_addCycle_20 : decode cX12_addCycle 20 = .ok (.iload_n 3, 1) := by decide +kernel
theorem dX12_addCycle_21 : decode cX12_addCycle 21 = .ok (.aload_n 0, 1) := by decide +kernel
theorem dX12_addCycle_22 : decode cX12_addCycle 22 = .ok (.getfield 449, 3) := by decide +kernel
theorem dX12_addCycle_25 : decode cX12_addCycle 25 = .ok (.if_icmp .ge 40, 3) := by decide +kernel
theorem dX12_addCycle_28 : decode cX12_addCycle 28 = .ok (.aload_n 0, 1) := by decide +kernel
theorem dX12_addCycle_29 : decode cX12_addCycle 29 = .ok (.getfield 435, 3) := by decide +kernel
theorem dX12_addCycle_32 : decode cX12_addCycle 32 = .ok (.bipush 100, 2) := by decide +kernel
theorem dX12_addCycle_34 : decode cX12_addCycle 34 = .ok (.if_icmp .ge 31, 3) := by decide +kernel
theorem dX12_addCycle_37 : decode cX12_addCycle 37 = .ok (.aload_n 0, 1) := by decide +kernel
theorem dX12_addCycle_38 : decode cX12_addCycle 38 = .ok (.getfield 210, 3) := by decide +kernel
theorem dX12_addCycle_41 : decode cX12_addCycle 41 = .ok (.bipush 24, 2) := by decide +kernel
theorem dX12_addCycle_43 : decode cX12_addCycle 43 = .ok (.aload_n 0, 1) := by decide +kernel
theorem dX12_addCycle_44 : decode cX12_addCycle 44 = .ok (.getfield 435, 3) := by decide +kernel
theorem dX12_addCycle_47 : decode cX12_addCycle 47 = .ok (.imul, 1) := by decide +kernel
theorem dX12_addCycle_48 : decode cX12_addCycle 48 = .ok (.iload_n 3, 1) := by decide +kernel
theorem dX12_addCycle_49 : decode cX12_addCycle 49 = .ok (.iadd, 1) := by decide +kernel
theorem dX12_addCycle_50 : decode cX12_addCycle 50 = .ok (.iload_n 2, 1) := by decide +kernel
theorem dX12_addCycle_51 : decode cX12_addCycle 51 = .ok (.isub, 1) := by decide +kernel
theorem dX12_addCycle_52 : decode cX12_addCycle 52 = .ok (.aload_n 0, 1) := by decide +kernel
theorem dX12_addCycle_53 : decode cX12_addCycle 53 = .ok (.getfield 219, 3) := by decide +kernel
theorem dX12_addCycle_56 : decode cX12_addCycle 56 = .ok (.iload_n 3, 1) := by decide +kernel
theorem dX12_addCycle_57 : decode cX12_addCycle 57 = .ok (.iaload, 1) := by decide +kernel
theorem dX12_addCycle_58 : decode cX12_addCycle 58 = .ok (.iastore, 1) := by decide +kernel
theorem dX12_addCycle_59 : decode cX12_addCycle 59 = .ok (.iinc 3 1, 3) := by decide +kernel
theorem dX12_addCycle_62 : decode cX12_addCycle 62 = .ok (.goto (-42), 3) := by decide +kernel
theorem dX12_addCycle_65 : decode cX12_addCycle 65 = .ok (.aload_n 0, 1) := by decide +kernel
theorem dX12_addCycle_66 : decode cX12_addCycle 66 = .ok (.iconst 3, 1) := by decide +kernel
theorem dX12_addCycle_67 : decode cX12_addCycle 67 = .ok (.iload_n 1, 1) := by decide +kernel
theorem dX12_addCycle_68 : decode cX12_addCycle 68 = .ok (.aload_n 0, 1) := by decide +kernel
theorem dX12_addCycle_69 : decode cX12_addCycle 69 = .ok (.getfield 449, 3) := by decide +kernel
theorem dX12_addCycle_72 : decode cX12_addCycle 72 = .ok (.iload_n 2, 1) := by decide +kernel
theorem dX12_addCycle_73 : decode cX12_addCycle 73 = .ok (.isub, 1) := by decide +kernel
theorem dX12_addCycle_74 : decode cX12_addCycle 74 = .ok (.invokevirtual 461, 3) := by decide +kernel
theorem dX12_addCycle_77 : decode cX12_addCycle 77 = .ok (.return_, 1) := by decide +kernel
abbrev r_s_suits : Room := { frames := 1, cells := 0, slots := 0, locals := 22 }
abbrev q_s_suits (D : va_G) (ks : KS) (ad : Nat → Nat) (kk : Nat → ClassId) (V : Vf) (L : Lf) (p0 : Int32) (p1 : Int32) (A : Nat → Prop) : Array Value → State → Outcome → State → Prop := va_Qi (fun (r : Int32) (_ : Unit) => (0 ≤ r.toInt ∧ r.toInt ≤ 1)) (fun _ t => gq D A (mw ad kk ks.1 V L) (mty kk) t) A
set_option maxHeartbeats 4000000 in
set_option maxRecDepth 100000 in
theorem s_suits (l : Launch) (D : va_G) (ks : KS) (sz : Nat) (ad : Nat → Nat) (kk : Nat → ClassId) (V : Vf) (L : Lf) (p0 : Int32) (p1 : Int32) (hMV : rgd bM V) (rg_p0 : 0 ≤ p0.toInt ∧ p0.toInt ≤ 383) (rg_p1 : 0 ≤ p1.toInt ∧ p1.toInt ≤ 23) (y1 : 0 ≤ (V 28 (Int32.toNatClampNeg p0)).toInt)  : Met l yX12_suits (Cond.code yX12_suits cX12_suits 4 (some .boolean) :: GW) r_s_suits (va_Pc [.ref (ad 0), .int p0, .int p1] (gp D ks (mw ad kk ks.1 V L) (mty kk) sz)) (q_s_suits D ks ad kk V L p0 p1 (va_A (mw ad kk ks.1 V L) sz)) 0 0 (va_A (mw ad kk ks.1 V L) sz) := by
  refine g_met (q_s_suits D ks ad kk V L p0 p1) (by decide) (Nat.le_of_ble_eq_true rfl) ?_
  intro p e s m below meth c A ls H locs hx hb hr hml hown hg hlocks hin hnw hgk hP hK hD hS hA hl
  have hown : s.vm.findClass RX12 = some m.cls := hown
  have hl : lv_has ls 4 [(0, .ref (ad 0)), (1, .int p0), (2, .int p1)] := hl
  have hP : va_P D vwCl (mw ad kk ks.1 V L) H := hP
  have hD : va_D A (mw ad kk ks.1 V L) := hD
  have hK : va_K D vwCl (mty kk) s := hK
  have r1 : (-1) ≤ ((V 28 (Int32.toNatClampNeg p0))).toInt ∧ ((V 28 (Int32.toNatClampNeg p0))).toInt ≤ 23 := hMV 28 (Int32.toNatClampNeg p0)
  refine lv_bipush (v := 24) hx hb dX12_suits_0 (by decide) ?_
  refine lv_aload_n hx hb dX12_suits_2 rfl (lv_at hl 0 rfl) ?_
  refine va_get (D := D) (ci := 12) (v := .int (V 0 11)) (C := RX12) (T := TX12) (N := 100) hx hb hg inX12 hown hK hP 0 rfl rfl 11 (by decide) (hg _ w1717) (fun _ h9 => h9) rfl dX12_suits_3 ?_
  have r2 : 0 ≤ ((V 0 11)).toInt ∧ ((V 0 11)).toInt ≤ 1 := hMV 0 11
  refine lv_imul hx hb dX12_suits_6 ?_
  refine lv_topi (fun z3 ez3 => ?_)
  have hz3 : z3.toInt = 24 * ((V 0 11)).toInt := i_mul ez3 (by decide) rfl (by omega)
  refine lv_iload_n hx hb dX12_suits_7 rfl (lv_at hl 2 rfl) ?_
  refine lv_iadd hx hb dX12_suits_8 ?_
  refine lv_topi (fun z4 ez4 => ?_)
  have hz4 : z4.toInt = z3.toInt + p1.toInt := i_add ez4 rfl rfl (by omega)
  refine lv_istore_n (lv' := [(3, .int z4), (0, .ref (ad 0)), (1, .int p0), (2, .int p1)]) hx hb dX12_suits_9 rfl hl (by decide) rfl (fun ls hl => ?_)
  refine lv_aload_n hx hb dX12_suits_10 rfl (lv_at hl 1 rfl) ?_
  refine lv_iload_n hx hb dX12_suits_11 rfl (lv_at hl 3 rfl) ?_
  refine gA_int (gA_runV (As := [.int p1]) (rest := []) (ci := 12) (q0 := 0) hx hb hml hown hg hP hD hK hS hA hnw hgk (s_isThere l D ks H.size ad kk V L p1 hMV ) w2164 w2166 w117 w172 w2167 rfl rfl hdV_yX12_isThere ⟨Nat.le_of_ble_eq_true rfl, Nat.le_of_ble_eq_true rfl⟩ rfl hl.1 rfl (Nat.le_of_ble_eq_true rfl) dX12_suits_12 ⟨Nat.le_of_ble_eq_true rfl, Nat.le_of_ble_eq_true rfl⟩) hP hD hK hS hA (fun z5 u6 H locs w7 hP hD hK hS => ?_)
  obtain ⟨rgz5, t8⟩ := w7
  have rgz5 : 0 ≤ z5.toInt ∧ z5.toInt ≤ 1 := rgz5
  have t8 : Imp (z5.toInt = 1) (0 ≤ p1.toInt ∧ p1.toInt ≤ 23) := t8
  refine lv_if_eq (tgt := 65) hx hb dX12_suits_15 (by decide) (fun c9 => ?_) (fun c9 => ?_)
  · skip
    have f10 : z5.toInt = 0 := b_eq rfl (by decide) c9
    refine lv_iconst (v := 0) hx hb dX12_suits_65 (by decide) ?_
    exact W.zret (v := 0) hx hb hr rfl (fun t ht hW => ⟨⟨0, (), rfl, (by decide), by rw [ht]; exact hP, va_K.moved hW.alike hK, hD⟩, hS.F ht⟩) hS.2.2 dX12_suits_66
  · skip
    have f11 : z5.toInt ≠ 0 := b_neq rfl (by decide) c9
    refine lv_aload_n hx hb dX12_suits_18 rfl (lv_at hl 1 rfl) ?_
    refine va_get (D := D) (ci := 12) (v := .ref (ad 21)) (C := RX12) (T := TX12) (N := 100) hx hb hg inX12 hown hK hP 0 rfl rfl 21 (by decide) (hg _ w1727) (fun _ h9 => h9) rfl dX12_suits_19 ?_
    refine lv_bipush (v := 24) hx hb dX12_suits_22 (by decide) ?_
    refine lv_iload_n hx hb dX12_suits_24 rfl (lv_at hl 0 rfl) ?_
    refine lv_imul hx hb dX12_suits_25 ?_
    refine lv_topi (fun z12 ez12 => ?_)
    have hz12 : z12.toInt = 24 * z4.toInt := i_mul ez12 (by decide) rfl (by omega)
    refine lv_aload_n hx hb dX12_suits_26 rfl (lv_at hl 1 rfl) ?_
    refine va_get (D := D) (ci := 12) (v := .ref (ad 28)) (C := RX12) (T := TX12) (N := 100) hx hb hg inX12 hown hK hP 0 rfl rfl 28 (by decide) (hg _ w1734) (fun _ h9 => h9) rfl dX12_suits_27 ?_
    refine lv_iload_n hx hb dX12_suits_30 rfl (lv_at hl 2 rfl) ?_
    refine va_iald (D := D) (i := p0) hx hb hK hP 21 20 rfl rfl (i_in (a := p0.toInt) rfl (by first | omega | ((try (have i_t8 := Imp.go t8 (by omega))); omega))) dX12_suits_31 ?_
    refine lv_iadd hx hb dX12_suits_32 ?_
    refine lv_topi (fun z13 ez13 => ?_)
    have hz13 : z13.toInt = z12.toInt + ((V 28 (Int32.toNatClampNeg p0))).toInt := i_add ez13 rfl rfl (by omega)
    refine va_zald (D := D) (i := z13) hx hb hK hP 14 13 rfl rfl (i_in (a := z13.toInt) rfl (by first | omega | ((try (have i_t8 := Imp.go t8 (by omega))); omega))) dX12_suits_33 ?_
    have r14 : 0 ≤ ((V 21 (Int32.toNatClampNeg z13))).toInt ∧ ((V 21 (Int32.toNatClampNeg z13))).toInt ≤ 1 := hMV 21 (Int32.toNatClampNeg z13)
    refine lv_if_eq (tgt := 65) hx hb dX12_suits_34 (by decide) (fun c15 => ?_) (fun c15 => ?_)
    · skip
      have f16 : ((V 21 (Int32.toNatClampNeg z13))).toInt = 0 := b_eq rfl (by decide) c15
      refine lv_iconst (v := 0) hx hb dX12_suits_65 (by decide) ?_
      exact W.zret (v := 0) hx hb hr rfl (fun t ht hW => ⟨⟨0, (), rfl, (by decide), by rw [ht]; exact hP, va_K.moved hW.alike hK, hD⟩, hS.F ht⟩) hS.2.2 dX12_suits_66
    · skip
      have f17 : ((V 21 (Int32.toNatClampNeg z13))).toInt ≠ 0 := b_neq rfl (by decide) c15
      refine lv_aload_n hx hb dX12_suits_37 rfl (lv_at hl 1 rfl) ?_
      refine va_get (D := D) (ci := 12) (v := .ref (ad 31)) (C := RX12) (T := TX12) (N := 100) hx hb hg inX12 hown hK hP 0 rfl rfl 31 (by decide) (hg _ w1737) (fun _ h9 => h9) rfl dX12_suits_38 ?_
      refine lv_iload_n hx hb dX12_suits_41 rfl (lv_at hl 2 rfl) ?_
      refine va_iald (D := D) (i := p0) hx hb hK hP 24 23 rfl rfl (i_in (a := p0.toInt) rfl (by first | omega | ((try (have i_t8 := Imp.go t8 (by omega))); omega))) dX12_suits_42 ?_
      refine lv_if_lt (tgt := 61) hx hb dX12_suits_43 (by decide) (fun c18 => ?_) (fun c18 => ?_)
      · skip
        have f19 : ((V 31 (Int32.toNatClampNeg p0))).toInt < 0 := b_lt rfl (by decide) c18
        refine lv_iconst (v := 1) hx hb dX12_suits_61 (by decide) ?_
        refine lv_goto (tgt := 66) hx hb dX12_suits_62 (by decide) ?_
        exact W.zret (v := 1) hx hb hr rfl (fun t ht hW => ⟨⟨1, (), rfl, (by decide), by rw [ht]; exact hP, va_K.moved hW.alike hK, hD⟩, hS.F ht⟩) hS.2.2 dX12_suits_66
      · skip
        have f20 : 0 ≤ ((V 31 (Int32.toNatClampNeg p0))).toInt := b_nlt rfl (by decide) c18
        refine lv_aload_n hx hb dX12_suits_46 rfl (lv_at hl 1 rfl) ?_
        refine va_get (D := D) (ci := 12) (v := .ref (ad 23)) (C := RX12) (T := TX12) (N := 100) hx hb hg inX12 hown hK hP 0 rfl rfl 23 (by decide) (hg _ w1729) (fun _ h9 => h9) rfl dX12_suits_47 ?_
        refine lv_iload_n hx hb dX12_suits_50 rfl (lv_at hl 0 rfl) ?_
        refine va_iald (D := D) (i := z4) hx hb hK hP 16 15 rfl rfl (i_in (a := z4.toInt) rfl (by first | omega | ((try (have i_t8 := Imp.go t8 (by omega))); omega))) dX12_suits_51 ?_
        refine lv_aload_n hx hb dX12_suits_52 rfl (lv_at hl 1 rfl) ?_
        refine va_get (D := D) (ci := 12) (v := .ref (ad 31)) (C := RX12) (T := TX12) (N := 100) hx hb hg inX12 hown hK hP 0 rfl rfl 31 (by decide) (hg _ w1737) (fun _ h9 => h9) rfl dX12_suits_53 ?_
        refine lv_iload_n hx hb dX12_suits_56 rfl (lv_at hl 2 rfl) ?_
        refine va_iald (D := D) (i := p0) hx hb hK hP 24 23 rfl rfl (i_in (a := p0.toInt) rfl (by first | omega | ((try (have i_t8 := Imp.go t8 (by omega))); omega))) dX12_suits_57 ?_
        refine lv_icmp_ne (tgt := 65) hx hb dX12_suits_58 (by decide) (fun c21 => ?_) (fun c21 => ?_)
        · skip
          have f22 : ((V 23 (Int32.toNatClampNeg z4))).toInt ≠ ((V 31 (Int32.toNatClampNeg p0))).toInt := b_neq rfl rfl c21
          refine lv_iconst (v := 0) hx hb dX12_suits_65 (by decide) ?_
          exact W.zret (v := 0) hx hb hr rfl (fun t ht hW => ⟨⟨0, (), rfl, (by decide), by rw [ht]; exact hP, va_K.moved hW.alike hK, hD⟩, hS.F ht⟩) hS.2.2 dX12_suits_66
        · skip
          have f23 : ((V 23 (Int32.toNatClampNeg z4))).toInt = ((V 31 (Int32.toNatClampNeg p0))).toInt := b_eq rfl rfl c21
          refine lv_iconst (v := 1) hx hb dX12_suits_61 (by decide) ?_
          refine lv_goto (tgt := 66) hx hb dX12_suits_62 (by decide) ?_
          exact W.zret (v := 1) hx hb hr rfl (fun t ht hW => ⟨⟨1, (), rfl, (by decide), by rw [ht]; exact hP, va_K.moved hW.alike hK, hD⟩, hS.F ht⟩) hS.2.2 dX12_suits_66
abbrev r_s_candidatesOf : Room := { frames := 2, cells := 0, slots := 0, locals := 45 }
abbrev q_s_candidatesOf (D : va_G) (ks : KS) (ad : Nat → Nat) (kk : Nat → ClassId) (V : Vf) (L : Lf) (p0 : Int32) (A : Nat → Prop) : Array Value → State → Outcome → State → Prop := va_Qi (fun (r : Int32) (u : Vf × Lf) => rgd bM u.1 ∧ agr [] [80] V u.1 ∧ u.2 = L ∧ (0 ≤ r.toInt ∧ r.toInt ≤ 24)) (fun u t => gq D A (mw ad kk ks.1 u.1 u.2) (mty kk) t) A
set_option maxHeartbeats 4000000 in
set_option maxRecDepth 100000 in
theorem s_candidatesOf (l : Launch) (D : va_G) (ks : KS) (sz : Nat) (ad : Nat → Nat) (kk : Nat → ClassId) (V : Vf) (L : Lf) (p0 : Int32) (hMV : rgd bM V) (rg_p0 : 0 ≤ p0.toInt ∧ p0.toInt ≤ 383) (y1 : 0 ≤ (V 28 (Int32.toNatClampNeg p0)).toInt)  : Met l yX12_candidatesOf (Cond.code yX12_candidatesOf cX12_candidatesOf 5 (some .int) :: GW) r_s_candidatesOf (va_Pc [.ref (ad 0), .int p0] (gp D ks (mw ad kk ks.1 V L) (mty kk) sz)) (q_s_candidatesOf D ks ad kk V L p0 (va_A (mw ad kk ks.1 V L) sz)) 0 0 (va_A (mw ad kk ks.1 V L) sz) := by
  refine g_met (q_s_candidatesOf D ks ad kk V L p0) (by decide) (Nat.le_of_ble_eq_true rfl) ?_
  intro p e s m below meth c A ls H locs hx hb hr hml hown hg hlocks hin hnw hgk hP hK hD hS hA hl
  have hown : s.vm.findClass RX12 = some m.cls := hown
  have hl : lv_has ls 5 [(0, .ref (ad 0)), (1, .int p0)] := hl
  have hP : va_P D vwCl (mw ad kk ks.1 V L) H := hP
  have hD : va_D A (mw ad kk ks.1 V L) := hD
  have hK : va_K D vwCl (mty kk) s := hK
  have agV : agr [] [80] V V := agr.rf
  have r1 : (-1) ≤ ((V 28 (Int32.toNatClampNeg p0))).toInt ∧ ((V 28 (Int32.toNatClampNeg p0))).toInt ≤ 23 := hMV 28 (Int32.toNatClampNeg p0)
  refine lv_iconst (v := 0) hx hb dX12_candidatesOf_0 (by decide) ?_
  refine lv_istore_n (lv' := [(2, .int 0), (0, .ref (ad 0)), (1, .int p0)]) hx hb dX12_candidatesOf_1 rfl hl (by decide) rfl (fun ls hl => ?_)
  refine lv_iconst (v := 0) hx hb dX12_candidatesOf_2 (by decide) ?_
  refine lv_istore_n (lv' := [(3, .int 0), (2, .int 0), (0, .ref (ad 0)), (1, .int p0)]) hx hb dX12_candidatesOf_3 rfl hl (by decide) rfl (fun ls hl => ?_)
  have lp4 : ∀ (fulp4 : Nat) (y2 : Int32) (y3 : Int32) (H : Heap) (locs : List Loc) (ls : Array Slot), 0 ≤ y2.toInt ∧ y2.toInt ≤ 24 → 24 - y2.toInt < (fulp4 : Int) → va_P D vwCl (mw ad kk ks.1 V L) H → va_D A (mw ad kk ks.1 V L) → va_S A s.heap H locs → lv_has ls 5 [(3, .int y2), (2, .int y3), (0, .ref (ad 0)), (1, .int p0)] → W p l e r_s_candidatesOf s m ([.ref (ad 0), .int p0] : List Value).toArray below meth c H locs 0 0 (MQ below (q_s_candidatesOf D ks ad kk V L p0 A) ([.ref (ad 0), .int p0] : List Value).toArray s 0 0 A) (F0 m 4 ls []) := by
    intro fulp4
    induction fulp4 with
    | zero =>
      intro y2 y3 H locs ls klp4_0 hn  hP hD hS hl
      exfalso; omega
    | succ fulp4 ihlp4 =>
      intro y2 y3 H locs ls klp4_0 hn  hP hD hS hl
      refine lv_iload_n hx hb dX12_candidatesOf_4 rfl (lv_at hl 0 rfl) ?_
      refine lv_aload_n hx hb dX12_candidatesOf_5 rfl (lv_at hl 2 rfl) ?_
      refine va_get (D := D) (ci := 12) (v := .ref (ad 19)) (C := RX12) (T := TX12) (N := 100) hx hb hg inX12 hown hK hP 0 rfl rfl 19 (by decide) (hg _ w1725) (fun _ h9 => h9) rfl dX12_candidatesOf_6 ?_
      refine lv_aload_n hx hb dX12_candidatesOf_9 rfl (lv_at hl 2 rfl) ?_
      refine va_get (D := D) (ci := 12) (v := .int (V 0 11)) (C := RX12) (T := TX12) (N := 100) hx hb hg inX12 hown hK hP 0 rfl rfl 11 (by decide) (hg _ w1717) (fun _ h9 => h9) rfl dX12_candidatesOf_10 ?_
      have r5 : 0 ≤ ((V 0 11)).toInt ∧ ((V 0 11)).toInt ≤ 1 := hMV 0 11
      refine va_iald (D := D) (i := (V 0 11)) hx hb hK hP 12 11 rfl rfl (i_in (a := ((V 0 11)).toInt) rfl (by omega)) dX12_candidatesOf_13 ?_
      have r6 : 0 ≤ ((V 19 (Int32.toNatClampNeg (V 0 11)))).toInt ∧ ((V 19 (Int32.toNatClampNeg (V 0 11)))).toInt ≤ 24 := hMV 19 (Int32.toNatClampNeg (V 0 11))
      refine lv_icmp_ge (tgt := 69) hx hb dX12_candidatesOf_14 (by decide) (fun c7 => ?_) (fun c7 => ?_)
      · skip
        have f8 : ((V 19 (Int32.toNatClampNeg (V 0 11)))).toInt ≤ y2.toInt := b_le rfl rfl c7
        refine lv_iconst (v := 0) hx hb dX12_candidatesOf_69 (by decide) ?_
        refine lv_istore_n (lv' := [(3, .int 0), (2, .int y3), (0, .ref (ad 0)), (1, .int p0)]) hx hb dX12_candidatesOf_70 rfl hl (by decide) rfl (fun ls hl => ?_)
        refine lv_iconst (v := 0) hx hb dX12_candidatesOf_71 (by decide) ?_
        refine lv_istore (lv' := [(4, .int 0), (3, .int 0), (2, .int y3), (0, .ref (ad 0)), (1, .int p0)]) hx hb dX12_candidatesOf_72 hl (by decide) rfl (fun ls hl => ?_)
        have lp12 : ∀ (fulp12 : Nat) (y9 : Int32) (y10 : Int32) (V11 : Vf) (H : Heap) (locs : List Loc) (ls : Array Slot), 0 ≤ y9.toInt ∧ y9.toInt ≤ 24 → 0 ≤ y10.toInt ∧ y10.toInt ≤ 24 → y10.toInt ≤ y9.toInt → 24 - y9.toInt < (fulp12 : Int) → agr [] [80] V V11 → rgd bM V11 → va_P D vwCl (mw ad kk ks.1 V11 L) H → va_D A (mw ad kk ks.1 V11 L) → va_S A s.heap H locs → lv_has ls 5 [(4, .int y9), (3, .int y10), (2, .int y3), (0, .ref (ad 0)), (1, .int p0)] → W p l e r_s_candidatesOf s m ([.ref (ad 0), .int p0] : List Value).toArray below meth c H locs 0 0 (MQ below (q_s_candidatesOf D ks ad kk V L p0 A) ([.ref (ad 0), .int p0] : List Value).toArray s 0 0 A) (F0 m 74 ls []) := by
          intro fulp12
          induction fulp12 with
          | zero =>
            intro y9 y10 V11 H locs ls klp12_0 klp12_1 xlp12_0 hn ajV11 hMV11 hP hD hS hl
            exfalso; omega
          | succ fulp12 ihlp12 =>
            intro y9 y10 V11 H locs ls klp12_0 klp12_1 xlp12_0 hn ajV11 hMV11 hP hD hS hl
            have agV11 : agr [] [80] V V11 := agV.tr ajV11 (by decide) (by decide)
            refine lv_iload hx hb dX12_candidatesOf_74 (lv_at hl 0 rfl) ?_
            refine lv_aload_n hx hb dX12_candidatesOf_76 rfl (lv_at hl 3 rfl) ?_
            refine va_get (D := D) (ci := 12) (v := .ref (ad 19)) (C := RX12) (T := TX12) (N := 100) hx hb hg inX12 hown hK hP 0 rfl rfl 19 (by decide) (hg _ w1725) (fun _ h9 => h9) rfl dX12_candidatesOf_77 ?_
            refine lv_aload_n hx hb dX12_candidatesOf_80 rfl (lv_at hl 3 rfl) ?_
            refine va_get (D := D) (ci := 12) (v := .int (V11 0 11)) (C := RX12) (T := TX12) (N := 100) hx hb hg inX12 hown hK hP 0 rfl rfl 11 (by decide) (hg _ w1717) (fun _ h9 => h9) rfl dX12_candidatesOf_81 ?_
            refine g_top (v := (V 0 11)) (ajV11 0 11 rfl) ?_
            refine va_iald (D := D) (i := (V 0 11)) hx hb hK hP 12 11 rfl rfl (i_in (a := ((V 0 11)).toInt) rfl (by omega)) dX12_candidatesOf_84 ?_
            refine g_top (v := (V 19 (Int32.toNatClampNeg (V 0 11)))) (ajV11 19 (Int32.toNatClampNeg (V 0 11)) rfl) ?_
            refine lv_icmp_ge (tgt := 143) hx hb dX12_candidatesOf_85 (by decide) (fun c13 => ?_) (fun c13 => ?_)
            · skip
              have f14 : ((V 19 (Int32.toNatClampNeg (V 0 11)))).toInt ≤ y9.toInt := b_le rfl rfl c13
              refine lv_iload_n hx hb dX12_candidatesOf_143 rfl (lv_at hl 1 rfl) ?_
              exact W.iret (v := y10) hx hb hr (fun t ht hW => ⟨⟨y10, (V11, L), rfl, ⟨hMV11, agV11, rfl, (show 0 ≤ y10.toInt ∧ y10.toInt ≤ 24 from by omega)⟩, by rw [ht]; exact hP, va_K.moved hW.alike hK, hD⟩, hS.F ht⟩) hS.2.2 dX12_candidatesOf_144
            · skip
              have f15 : y9.toInt < ((V 19 (Int32.toNatClampNeg (V 0 11)))).toInt := b_nle rfl rfl c13
              refine lv_aload_n hx hb dX12_candidatesOf_88 rfl (lv_at hl 3 rfl) ?_
              refine lv_iload_n hx hb dX12_candidatesOf_89 rfl (lv_at hl 4 rfl) ?_
              refine lv_iload hx hb dX12_candidatesOf_90 (lv_at hl 0 rfl) ?_
              have pq16 : (V11 28 (Int32.toNatClampNeg p0)).toInt = ((V 28 (Int32.toNatClampNeg p0))).toInt := congrArg Int32.toInt (ajV11 28 (Int32.toNatClampNeg p0) rfl)
              refine gA_int (gA_runV (As := [.int p0, .int y9]) (rest := []) (ci := 12) (q0 := 0) hx hb hml hown hg hP hD hK hS hA hnw hgk (s_suits l D ks H.size ad kk V11 L p0 y9 hMV11 (by omega) (by omega) (show 0 ≤ (V11 28 (Int32.toNatClampNeg p0)).toInt from by omega)) w2176 w2178 w120 w172 w2179 rfl rfl hdV_yX12_suits ⟨Nat.le_of_ble_eq_true rfl, Nat.le_of_ble_eq_true rfl⟩ rfl hl.1 rfl (Nat.le_of_ble_eq_true rfl) dX12_candidatesOf_92 ⟨Nat.le_of_ble_eq_true rfl, Nat.le_of_ble_eq_true rfl⟩) hP hD hK hS hA (fun z17 u18 H locs w19 hP hD hK hS => ?_)
              have rgz17 := w19
              have rgz17 : 0 ≤ z17.toInt ∧ z17.toInt ≤ 1 := rgz17
              refine lv_if_eq (tgt := 137) hx hb dX12_candidatesOf_95 (by decide) (fun c20 => ?_) (fun c20 => ?_)
              · skip
                have f21 : z17.toInt = 0 := b_eq rfl (by decide) c20
                obtain ⟨z22, ez22⟩ : ∃ y : Int32, y = y9 + 1 := ⟨_, rfl⟩
                have hz22 : z22.toInt = y9.toInt + 1 := i_add ez22 rfl (by decide) (by omega)
                refine lv_iinc (v := z22) (lv' := [(4, .int z22), (3, .int y10), (2, .int y3), (0, .ref (ad 0)), (1, .int p0)]) hx hb dX12_candidatesOf_137 hl (k := 0) rfl (by rw [ez22]; rfl) (by decide) rfl (fun ls hl => ?_)
                refine lv_goto (tgt := 74) hx hb dX12_candidatesOf_140 (by decide) ?_
                exact ihlp12 z22 y10 V11 H locs ls (by omega) (by omega) (show y10.toInt ≤ z22.toInt from by omega) (by omega) (agr.tr agr.rf ajV11 (by decide) (by decide)) hMV11 hP hD hS (lv_sub hl [0, 1, 2, 3, 4] rfl)
              · skip
                have f23 : z17.toInt ≠ 0 := b_neq rfl (by decide) c20
                refine lv_aload_n hx hb dX12_candidatesOf_98 rfl (lv_at hl 3 rfl) ?_
                refine va_get (D := D) (ci := 12) (v := .ref (ad 30)) (C := RX12) (T := TX12) (N := 100) hx hb hg inX12 hown hK hP 0 rfl rfl 30 (by decide) (hg _ w1736) (fun _ h9 => h9) rfl dX12_candidatesOf_99 ?_
                refine lv_iload_n hx hb dX12_candidatesOf_102 rfl (lv_at hl 4 rfl) ?_
                refine va_zald (D := D) (i := p0) hx hb hK hP 23 22 rfl rfl (i_in (a := p0.toInt) rfl (by omega)) dX12_candidatesOf_103 ?_
                refine g_top (v := (V 30 (Int32.toNatClampNeg p0))) (ajV11 30 (Int32.toNatClampNeg p0) rfl) ?_
                have r24 : 0 ≤ ((V 30 (Int32.toNatClampNeg p0))).toInt ∧ ((V 30 (Int32.toNatClampNeg p0))).toInt ≤ 1 := hMV 30 (Int32.toNatClampNeg p0)
                refine lv_if_ne (tgt := 126) hx hb dX12_candidatesOf_104 (by decide) (fun c25 => ?_) (fun c25 => ?_)
                · skip
                  have f26 : ((V 30 (Int32.toNatClampNeg p0))).toInt ≠ 0 := b_neq rfl (by decide) c25
                  refine lv_aload_n hx hb dX12_candidatesOf_126 rfl (lv_at hl 3 rfl) ?_
                  refine va_get (D := D) (ci := 12) (v := .ref (ad 80)) (C := RX12) (T := TX12) (N := 100) hx hb hg inX12 hown hK hP 0 rfl rfl 80 (by decide) (hg _ w1786) (fun _ h9 => h9) rfl dX12_candidatesOf_127 ?_
                  refine lv_iload_n hx hb dX12_candidatesOf_130 rfl (lv_at hl 1 rfl) ?_
                  refine lv_iload hx hb dX12_candidatesOf_131 (lv_at hl 0 rfl) ?_
                  refine va_iast (D := D) (i := y10) (x := y9) hx hb hK hP hD hS 57 56 rfl rfl (i_in (a := y10.toInt) rfl (by omega)) dX12_candidatesOf_133 (fun H locs hP hD hS => ?_)
                  obtain ⟨V27, hV27⟩ : ∃ z, z = up2 V11 80 (Int32.toNatClampNeg y10) y9 := ⟨_, rfl⟩
                  have hP : va_P D vwCl (mw ad kk ks.1 V27 L) H := by rw [hV27]; exact hP
                  have hD : va_D A (mw ad kk ks.1 V27 L) := by rw [hV27]; exact hD
                  have hMV27 : rgd bM V27 := hMV11.put hV27 (show 0 ≤ y9.toInt ∧ y9.toInt ≤ 23 from by omega)
                  have agV27 : agr [] [80] V V27 := agV11.up hV27 rfl
                  obtain ⟨z28, ez28⟩ : ∃ y : Int32, y = y10 + 1 := ⟨_, rfl⟩
                  have hz28 : z28.toInt = y10.toInt + 1 := i_add ez28 rfl (by decide) (by omega)
                  refine lv_iinc (v := z28) (lv' := [(3, .int z28), (4, .int y9), (2, .int y3), (0, .ref (ad 0)), (1, .int p0)]) hx hb dX12_candidatesOf_134 hl (k := 1) rfl (by rw [ez28]; rfl) (by decide) rfl (fun ls hl => ?_)
                  obtain ⟨z29, ez29⟩ : ∃ y : Int32, y = y9 + 1 := ⟨_, rfl⟩
                  have hz29 : z29.toInt = y9.toInt + 1 := i_add ez29 rfl (by decide) (by omega)
                  refine lv_iinc (v := z29) (lv' := [(4, .int z29), (3, .int z28), (2, .int y3), (0, .ref (ad 0)), (1, .int p0)]) hx hb dX12_candidatesOf_137 hl (k := 1) rfl (by rw [ez29]; rfl) (by decide) rfl (fun ls hl => ?_)
                  refine lv_goto (tgt := 74) hx hb dX12_candidatesOf_140 (by decide) ?_
                  exact ihlp12 z29 z28 V27 H locs ls (by omega) (by omega) (show z28.toInt ≤ z29.toInt from by omega) (by omega) (agr.up (agr.tr agr.rf ajV11 (by decide) (by decide)) hV27 rfl) hMV27 hP hD hS (lv_sub hl [0, 1, 2, 3, 4] rfl)
                · skip
                  have f30 : ((V 30 (Int32.toNatClampNeg p0))).toInt = 0 := b_eq rfl (by decide) c25
                  refine lv_aload_n hx hb dX12_candidatesOf_107 rfl (lv_at hl 3 rfl) ?_
                  refine va_get (D := D) (ci := 12) (v := .ref (ad 24)) (C := RX12) (T := TX12) (N := 100) hx hb hg inX12 hown hK hP 0 rfl rfl 24 (by decide) (hg _ w1730) (fun _ h9 => h9) rfl dX12_candidatesOf_108 ?_
                  refine lv_bipush (v := 24) hx hb dX12_candidatesOf_111 (by decide) ?_
                  refine lv_aload_n hx hb dX12_candidatesOf_113 rfl (lv_at hl 3 rfl) ?_
                  refine va_get (D := D) (ci := 12) (v := .int (V11 0 11)) (C := RX12) (T := TX12) (N := 100) hx hb hg inX12 hown hK hP 0 rfl rfl 11 (by decide) (hg _ w1717) (fun _ h9 => h9) rfl dX12_candidatesOf_114 ?_
                  refine g_top (v := (V 0 11)) (ajV11 0 11 rfl) ?_
                  refine lv_imul hx hb dX12_candidatesOf_117 ?_
                  refine lv_topi (fun z31 ez31 => ?_)
                  have hz31 : z31.toInt = 24 * ((V 0 11)).toInt := i_mul ez31 (by decide) rfl (by omega)
                  refine lv_iload hx hb dX12_candidatesOf_118 (lv_at hl 0 rfl) ?_
                  refine lv_iadd hx hb dX12_candidatesOf_120 ?_
                  refine lv_topi (fun z32 ez32 => ?_)
                  have hz32 : z32.toInt = z31.toInt + y9.toInt := i_add ez32 rfl rfl (by omega)
                  refine va_iald (D := D) (i := z32) hx hb hK hP 17 16 rfl rfl (i_in (a := z32.toInt) rfl (by omega)) dX12_candidatesOf_121 ?_
                  refine g_top (v := (V 24 (Int32.toNatClampNeg z32))) (ajV11 24 (Int32.toNatClampNeg z32) rfl) ?_
                  have r33 : 0 ≤ ((V 24 (Int32.toNatClampNeg z32))).toInt ∧ ((V 24 (Int32.toNatClampNeg z32))).toInt ≤ 9 := hMV 24 (Int32.toNatClampNeg z32)
                  refine lv_iload_n hx hb dX12_candidatesOf_122 rfl (lv_at hl 2 rfl) ?_
                  refine lv_icmp_ne (tgt := 137) hx hb dX12_candidatesOf_123 (by decide) (fun c34 => ?_) (fun c34 => ?_)
                  · skip
                    have f35 : ((V 24 (Int32.toNatClampNeg z32))).toInt ≠ y3.toInt := b_neq rfl rfl c34
                    obtain ⟨z36, ez36⟩ : ∃ y : Int32, y = y9 + 1 := ⟨_, rfl⟩
                    have hz36 : z36.toInt = y9.toInt + 1 := i_add ez36 rfl (by decide) (by omega)
                    refine lv_iinc (v := z36) (lv' := [(4, .int z36), (3, .int y10), (2, .int y3), (0, .ref (ad 0)), (1, .int p0)]) hx hb dX12_candidatesOf_137 hl (k := 0) rfl (by rw [ez36]; rfl) (by decide) rfl (fun ls hl => ?_)
                    refine lv_goto (tgt := 74) hx hb dX12_candidatesOf_140 (by decide) ?_
                    exact ihlp12 z36 y10 V11 H locs ls (by omega) (by omega) (show y10.toInt ≤ z36.toInt from by omega) (by omega) (agr.tr agr.rf ajV11 (by decide) (by decide)) hMV11 hP hD hS (lv_sub hl [0, 1, 2, 3, 4] rfl)
                  · skip
                    have f37 : ((V 24 (Int32.toNatClampNeg z32))).toInt = y3.toInt := b_eq rfl rfl c34
                    refine lv_aload_n hx hb dX12_candidatesOf_126 rfl (lv_at hl 3 rfl) ?_
                    refine va_get (D := D) (ci := 12) (v := .ref (ad 80)) (C := RX12) (T := TX12) (N := 100) hx hb hg inX12 hown hK hP 0 rfl rfl 80 (by decide) (hg _ w1786) (fun _ h9 => h9) rfl dX12_candidatesOf_127 ?_
                    refine lv_iload_n hx hb dX12_candidatesOf_130 rfl (lv_at hl 1 rfl) ?_
                    refine lv_iload hx hb dX12_candidatesOf_131 (lv_at hl 0 rfl) ?_
                    refine va_iast (D := D) (i := y10) (x := y9) hx hb hK hP hD hS 57 56 rfl rfl (i_in (a := y10.toInt) rfl (by omega)) dX12_candidatesOf_133 (fun H locs hP hD hS => ?_)
                    obtain ⟨V38, hV38⟩ : ∃ z, z = up2 V11 80 (Int32.toNatClampNeg y10) y9 := ⟨_, rfl⟩
                    have hP : va_P D vwCl (mw ad kk ks.1 V38 L) H := by rw [hV38]; exact hP
                    have hD : va_D A (mw ad kk ks.1 V38 L) := by rw [hV38]; exact hD
                    have hMV38 : rgd bM V38 := hMV11.put hV38 (show 0 ≤ y9.toInt ∧ y9.toInt ≤ 23 from by omega)
                    have agV38 : agr [] [80] V V38 := agV11.up hV38 rfl
                    obtain ⟨z39, ez39⟩ : ∃ y : Int32, y = y10 + 1 := ⟨_, rfl⟩
                    have hz39 : z39.toInt = y10.toInt + 1 := i_add ez39 rfl (by decide) (by omega)
                    refine lv_iinc (v := z39) (lv' := [(3, .int z39), (4, .int y9), (2, .int y3), (0, .ref (ad 0)), (1, .int p0)]) hx hb dX12_candidatesOf_134 hl (k := 1) rfl (by rw [ez39]; rfl) (by decide) rfl (fun ls hl => ?_)
                    obtain ⟨z40, ez40⟩ : ∃ y : Int32, y = y9 + 1 := ⟨_, rfl⟩
                    have hz40 : z40.toInt = y9.toInt + 1 := i_add ez40 rfl (by decide) (by omega)
                    refine lv_iinc (v := z40) (lv' := [(4, .int z40), (3, .int z39), (2, .int y3), (0, .ref (ad 0)), (1, .int p0)]) hx hb dX12_candidatesOf_137 hl (k := 1) rfl (by rw [ez40]; rfl) (by decide) rfl (fun ls hl => ?_)
                    refine lv_goto (tgt := 74) hx hb dX12_candidatesOf_140 (by decide) ?_
                    exact ihlp12 z40 z39 V38 H locs ls (by omega) (by omega) (show z39.toInt ≤ z40.toInt from by omega) (by omega) (agr.up (agr.tr agr.rf ajV11 (by decide) (by decide)) hV38 rfl) hMV38 hP hD hS (lv_sub hl [0, 1, 2, 3, 4] rfl)
        have r41 : Int32.toInt 0 = 0 := by decide
        exact lp12 ((24 - (Int32.toInt 0) + 1 : Int).toNat) 0 0 V H locs ls (by decide) (by decide) (show (Int32.toInt 0) ≤ (Int32.toInt 0) from by omega) (by omega) agr.rf hMV hP hD hS (lv_sub hl [0, 1, 2, 3, 4] rfl)
      · skip
        have f42 : y2.toInt < ((V 19 (Int32.toNatClampNeg (V 0 11)))).toInt := b_nle rfl rfl c7
        refine lv_aload_n hx hb dX12_candidatesOf_17 rfl (lv_at hl 2 rfl) ?_
        refine lv_iload_n hx hb dX12_candidatesOf_18 rfl (lv_at hl 3 rfl) ?_
        refine lv_iload_n hx hb dX12_candidatesOf_19 rfl (lv_at hl 0 rfl) ?_
        refine gA_int (gA_runV (As := [.int p0, .int y2]) (rest := []) (ci := 12) (q0 := 0) hx hb hml hown hg hP hD hK hS hA hnw hgk (s_suits l D ks H.size ad kk V L p0 y2 hMV (by omega) (by omega) (show 0 ≤ (V 28 (Int32.toNatClampNeg p0)).toInt from by omega)) w2176 w2178 w120 w172 w2179 rfl rfl hdV_yX12_suits ⟨Nat.le_of_ble_eq_true rfl, Nat.le_of_ble_eq_true rfl⟩ rfl hl.1 rfl (Nat.le_of_ble_eq_true rfl) dX12_candidatesOf_20 ⟨Nat.le_of_ble_eq_true rfl, Nat.le_of_ble_eq_true rfl⟩) hP hD hK hS hA (fun z43 u44 H locs w45 hP hD hK hS => ?_)
        have rgz43 := w45
        have rgz43 : 0 ≤ z43.toInt ∧ z43.toInt ≤ 1 := rgz43
        refine lv_if_eq (tgt := 61) hx hb dX12_candidatesOf_23 (by decide) (fun c46 => ?_) (fun c46 => ?_)
        · skip
          have f47 : z43.toInt = 0 := b_eq rfl (by decide) c46
          refine lv_iload_n hx hb dX12_candidatesOf_61 rfl (lv_at hl 1 rfl) ?_
          refine lv_istore_n (lv' := [(2, .int y3), (3, .int y2), (0, .ref (ad 0)), (1, .int p0)]) hx hb dX12_candidatesOf_62 rfl hl (by decide) rfl (fun ls hl => ?_)
          obtain ⟨z48, ez48⟩ : ∃ y : Int32, y = y2 + 1 := ⟨_, rfl⟩
          have hz48 : z48.toInt = y2.toInt + 1 := i_add ez48 rfl (by decide) (by omega)
          refine lv_iinc (v := z48) (lv' := [(3, .int z48), (2, .int y3), (0, .ref (ad 0)), (1, .int p0)]) hx hb dX12_candidatesOf_63 hl (k := 1) rfl (by rw [ez48]; rfl) (by decide) rfl (fun ls hl => ?_)
          refine lv_goto (tgt := 4) hx hb dX12_candidatesOf_66 (by decide) ?_
          exact ihlp4 z48 y3 H locs ls (by omega) (by omega) hP hD hS (lv_sub hl [0, 1, 2, 3] rfl)
        · skip
          have f49 : z43.toInt ≠ 0 := b_neq rfl (by decide) c46
          refine lv_aload_n hx hb dX12_candidatesOf_26 rfl (lv_at hl 2 rfl) ?_
          refine va_get (D := D) (ci := 12) (v := .ref (ad 24)) (C := RX12) (T := TX12) (N := 100) hx hb hg inX12 hown hK hP 0 rfl rfl 24 (by decide) (hg _ w1730) (fun _ h9 => h9) rfl dX12_candidatesOf_27 ?_
          refine lv_bipush (v := 24) hx hb dX12_candidatesOf_30 (by decide) ?_
          refine lv_aload_n hx hb dX12_candidatesOf_32 rfl (lv_at hl 2 rfl) ?_
          refine va_get (D := D) (ci := 12) (v := .int (V 0 11)) (C := RX12) (T := TX12) (N := 100) hx hb hg inX12 hown hK hP 0 rfl rfl 11 (by decide) (hg _ w1717) (fun _ h9 => h9) rfl dX12_candidatesOf_33 ?_
          refine lv_imul hx hb dX12_candidatesOf_36 ?_
          refine lv_topi (fun z50 ez50 => ?_)
          have hz50 : z50.toInt = 24 * ((V 0 11)).toInt := i_mul ez50 (by decide) rfl (by omega)
          refine lv_iload_n hx hb dX12_candidatesOf_37 rfl (lv_at hl 0 rfl) ?_
          refine lv_iadd hx hb dX12_candidatesOf_38 ?_
          refine lv_topi (fun z51 ez51 => ?_)
          have hz51 : z51.toInt = z50.toInt + y2.toInt := i_add ez51 rfl rfl (by omega)
          refine va_iald (D := D) (i := z51) hx hb hK hP 17 16 rfl rfl (i_in (a := z51.toInt) rfl (by omega)) dX12_candidatesOf_39 ?_
          have r52 : 0 ≤ ((V 24 (Int32.toNatClampNeg z51))).toInt ∧ ((V 24 (Int32.toNatClampNeg z51))).toInt ≤ 9 := hMV 24 (Int32.toNatClampNeg z51)
          refine lv_iload_n hx hb dX12_candidatesOf_40 rfl (lv_at hl 1 rfl) ?_
          refine lv_icmp_le (tgt := 61) hx hb dX12_candidatesOf_41 (by decide) (fun c53 => ?_) (fun c53 => ?_)
          · skip
            have f54 : ((V 24 (Int32.toNatClampNeg z51))).toInt ≤ y3.toInt := b_le rfl rfl c53
            refine lv_iload_n hx hb dX12_candidatesOf_61 rfl (lv_at hl 1 rfl) ?_
            refine lv_istore_n (lv' := [(2, .int y3), (3, .int y2), (0, .ref (ad 0)), (1, .int p0)]) hx hb dX12_candidatesOf_62 rfl hl (by decide) rfl (fun ls hl => ?_)
            obtain ⟨z55, ez55⟩ : ∃ y : Int32, y = y2 + 1 := ⟨_, rfl⟩
            have hz55 : z55.toInt = y2.toInt + 1 := i_add ez55 rfl (by decide) (by omega)
            refine lv_iinc (v := z55) (lv' := [(3, .int z55), (2, .int y3), (0, .ref (ad 0)), (1, .int p0)]) hx hb dX12_candidatesOf_63 hl (k := 1) rfl (by rw [ez55]; rfl) (by decide) rfl (fun ls hl => ?_)
            refine lv_goto (tgt := 4) hx hb dX12_candidatesOf_66 (by decide) ?_
            exact ihlp4 z55 y3 H locs ls (by omega) (by omega) hP hD hS (lv_sub hl [0, 1, 2, 3] rfl)
          · skip
            have f56 : y3.toInt < ((V 24 (Int32.toNatClampNeg z51))).toInt := b_nle rfl rfl c53
            refine lv_aload_n hx hb dX12_candidatesOf_44 rfl (lv_at hl 2 rfl) ?_
            refine va_get (D := D) (ci := 12) (v := .ref (ad 24)) (C := RX12) (T := TX12) (N := 100) hx hb hg inX12 hown hK hP 0 rfl rfl 24 (by decide) (hg _ w1730) (fun _ h9 => h9) rfl dX12_candidatesOf_45 ?_
            refine lv_bipush (v := 24) hx hb dX12_candidatesOf_48 (by decide) ?_
            refine lv_aload_n hx hb dX12_candidatesOf_50 rfl (lv_at hl 2 rfl) ?_
            refine va_get (D := D) (ci := 12) (v := .int (V 0 11)) (C := RX12) (T := TX12) (N := 100) hx hb hg inX12 hown hK hP 0 rfl rfl 11 (by decide) (hg _ w1717) (fun _ h9 => h9) rfl dX12_candidatesOf_51 ?_
            refine lv_imul hx hb dX12_candidatesOf_54 ?_
            refine lv_topi (fun z57 ez57 => ?_)
            have hz57 : z57.toInt = 24 * ((V 0 11)).toInt := i_mul ez57 (by decide) rfl (by omega)
            refine lv_iload_n hx hb dX12_candidatesOf_55 rfl (lv_at hl 0 rfl) ?_
            refine lv_iadd hx hb dX12_candidatesOf_56 ?_
            refine lv_topi (fun z58 ez58 => ?_)
            have hz58 : z58.toInt = z57.toInt + y2.toInt := i_add ez58 rfl rfl (by omega)
            refine va_iald (D := D) (i := z58) hx hb hK hP 17 16 rfl rfl (i_in (a := z58.toInt) rfl (by omega)) dX12_candidatesOf_57 ?_
            have r59 : 0 ≤ ((V 24 (Int32.toNatClampNeg z58))).toInt ∧ ((V 24 (Int32.toNatClampNeg z58))).toInt ≤ 9 := hMV 24 (Int32.toNatClampNeg z58)
            refine lv_goto (tgt := 62) hx hb dX12_candidatesOf_58 (by decide) ?_
            refine lv_istore_n (lv' := [(2, .int (V 24 (Int32.toNatClampNeg z58))), (3, .int y2), (0, .ref (ad 0)), (1, .int p0)]) hx hb dX12_candidatesOf_62 rfl hl (by decide) rfl (fun ls hl => ?_)
            obtain ⟨z60, ez60⟩ : ∃ y : Int32, y = y2 + 1 := ⟨_, rfl⟩
            have hz60 : z60.toInt = y2.toInt + 1 := i_add ez60 rfl (by decide) (by omega)
            refine lv_iinc (v := z60) (lv' := [(3, .int z60), (2, .int (V 24 (Int32.toNatClampNeg z58))), (0, .ref (ad 0)), (1, .int p0)]) hx hb dX12_candidatesOf_63 hl (k := 1) rfl (by rw [ez60]; rfl) (by decide) rfl (fun ls hl => ?_)
            refine lv_goto (tgt := 4) hx hb dX12_candidatesOf_66 (by decide) ?_
            exact ihlp4 z60 (V 24 (Int32.toNatClampNeg z58)) H locs ls (by omega) (by omega) hP hD hS (lv_sub hl [0, 1, 2, 3] rfl)
  have r61 : Int32.toInt 0 = 0 := by decide
  exact lp4 ((24 - (Int32.toInt 0) + 1 : Int).toNat) 0 0 H locs ls (by decide) (by omega) hP hD hS (lv_sub hl [0, 1, 2, 3] rfl)
abbrev r_s_isCandidate : Room := { frames := 3, cells := 0, slots := 0, locals := 69 }
abbrev q_s_isCandidate (D : va_G) (ks : KS) (ad : Nat → Nat) (kk : Nat → ClassId) (V : Vf) (L : Lf) (p0 : Int32) (p1 : Int32) (A : Nat → Prop) : Array Value → State → Outcome → State → Prop := va_Qi (fun (r : Int32) (u : Vf × Lf) => rgd bM u.1 ∧ agr [] [80] V u.1 ∧ u.2 = L ∧ (0 ≤ r.toInt ∧ r.toInt ≤ 1)) (fun u t => gq D A (mw ad kk ks.1 u.1 u.2) (mty kk) t) A
set_option maxHeartbeats 4000000 in
set_option maxRecDepth 100000 in
theorem s_isCandidate (l : Launch) (D : va_G) (ks : KS) (sz : Nat) (ad : Nat → Nat) (kk : Nat → ClassId) (V : Vf) (L : Lf) (p0 : Int32) (p1 : Int32) (hMV : rgd bM V) (rg_p0 : 0 ≤ p0.toInt ∧ p0.toInt ≤ 383) (y1 : 0 ≤ (V 28 (Int32.toNatClampNeg p0)).toInt)  : Met l yX12_isCandidate (Cond.code yX12_isCandidate cX12_isCandidate 6 (some .boolean) :: GW) r_s_isCandidate (va_Pc [.ref (ad 0), .int p0, .int p1] (gp D ks (mw ad kk ks.1 V L) (mty kk) sz)) (q_s_isCandidate D ks ad kk V L p0 p1 (va_A (mw ad kk ks.1 V L) sz)) 0 0 (va_A (mw ad kk ks.1 V L) sz) := by
  refine g_met (q_s_isCandidate D ks ad kk V L p0 p1) (by decide) (Nat.le_of_ble_eq_true rfl) ?_
  intro p e s m below meth c A ls H locs hx hb hr hml hown hg hlocks hin hnw hgk hP hK hD hS hA hl
  have hown : s.vm.findClass RX12 = some m.cls := hown
  have hl : lv_has ls 6 [(0, .ref (ad 0)), (1, .int p0), (2, .int p1)] := hl
  have hP : va_P D vwCl (mw ad kk ks.1 V L) H := hP
  have hD : va_D A (mw ad kk ks.1 V L) := hD
  have hK : va_K D vwCl (mty kk) s := hK
  have agV : agr [] [80] V V := agr.rf
  have r1 : (-1) ≤ ((V 28 (Int32.toNatClampNeg p0))).toInt ∧ ((V 28 (Int32.toNatClampNeg p0))).toInt ≤ 23 := hMV 28 (Int32.toNatClampNeg p0)
  refine lv_aload_n hx hb dX12_isCandidate_0 rfl (lv_at hl 0 rfl) ?_
  refine lv_iload_n hx hb dX12_isCandidate_1 rfl (lv_at hl 1 rfl) ?_
  refine gA_int (gA_runV (As := [.int p0]) (rest := []) (ci := 12) (q0 := 0) hx hb hml hown hg hP hD hK hS hA hnw hgk (s_candidatesOf l D ks H.size ad kk V L p0 hMV (by omega) (show 0 ≤ (V 28 (Int32.toNatClampNeg p0)).toInt from by omega)) w2172 w2174 w119 w172 w2175 rfl rfl hdV_yX12_candidatesOf ⟨Nat.le_of_ble_eq_true rfl, Nat.le_of_ble_eq_true rfl⟩ rfl hl.1 rfl (Nat.le_of_ble_eq_true rfl) dX12_isCandidate_2 ⟨Nat.le_of_ble_eq_true rfl, Nat.le_of_ble_eq_true rfl⟩) hP hD hK hS hA (fun z2 u3 H locs w4 hP hD hK hS => ?_)
  obtain ⟨V5, L6⟩ := u3
  obtain ⟨hMV5, ajV5, axL6, rgz2⟩ := w4
  have axL6 : L = L6 := Eq.symm axL6
  subst axL6
  have hP : va_P D vwCl (mw ad kk ks.1 V5 L) H := hP
  have hD : va_D A (mw ad kk ks.1 V5 L) := hD
  have hMV5 : rgd bM V5 := hMV5
  have ajV5 : agr [] [80] V V5 := ajV5
  have agV5 : agr [] [80] V V5 := agV.tr ajV5 (by decide) (by decide)
  have rgz2 : 0 ≤ z2.toInt ∧ z2.toInt ≤ 24 := rgz2
  refine lv_istore_n (lv' := [(3, .int z2), (0, .ref (ad 0)), (1, .int p0), (2, .int p1)]) hx hb dX12_isCandidate_5 rfl hl (by decide) rfl (fun ls hl => ?_)
  refine lv_iconst (v := 0) hx hb dX12_isCandidate_6 (by decide) ?_
  refine lv_istore (lv' := [(4, .int 0), (3, .int z2), (0, .ref (ad 0)), (1, .int p0), (2, .int p1)]) hx hb dX12_isCandidate_7 hl (by decide) rfl (fun ls hl => ?_)
  refine lv_iconst (v := 0) hx hb dX12_isCandidate_9 (by decide) ?_
  refine lv_istore (lv' := [(5, .int 0), (4, .int 0), (3, .int z2), (0, .ref (ad 0)), (1, .int p0), (2, .int p1)]) hx hb dX12_isCandidate_10 hl (by decide) rfl (fun ls hl => ?_)
  have lp9 : ∀ (fulp9 : Nat) (y7 : Int32) (y8 : Int32) (H : Heap) (locs : List Loc) (ls : Array Slot), 0 ≤ y7.toInt ∧ y7.toInt ≤ 24 → 0 ≤ y8.toInt ∧ y8.toInt ≤ 1 → y7.toInt ≤ z2.toInt → z2.toInt - y7.toInt < (fulp9 : Int) → va_P D vwCl (mw ad kk ks.1 V5 L) H → va_D A (mw ad kk ks.1 V5 L) → va_S A s.heap H locs → lv_has ls 6 [(5, .int y7), (4, .int y8), (3, .int z2), (0, .ref (ad 0)), (1, .int p0), (2, .int p1)] → W p l e r_s_isCandidate s m ([.ref (ad 0), .int p0, .int p1] : List Value).toArray below meth c H locs 0 0 (MQ below (q_s_isCandidate D ks ad kk V L p0 p1 A) ([.ref (ad 0), .int p0, .int p1] : List Value).toArray s 0 0 A) (F0 m 12 ls []) := by
    intro fulp9
    induction fulp9 with
    | zero =>
      intro y7 y8 H locs ls klp9_0 klp9_1 xlp9_0 hn  hP hD hS hl
      exfalso; omega
    | succ fulp9 ihlp9 =>
      intro y7 y8 H locs ls klp9_0 klp9_1 xlp9_0 hn  hP hD hS hl
      refine lv_iload hx hb dX12_isCandidate_12 (lv_at hl 0 rfl) ?_
      refine lv_iload_n hx hb dX12_isCandidate_14 rfl (lv_at hl 2 rfl) ?_
      refine lv_icmp_ge (tgt := 47) hx hb dX12_isCandidate_15 (by decide) (fun c10 => ?_) (fun c10 => ?_)
      · skip
        have f11 : z2.toInt ≤ y7.toInt := b_le rfl rfl c10
        refine lv_iload hx hb dX12_isCandidate_47 (lv_at hl 1 rfl) ?_
        exact W.zret (v := y8) hx hb hr (nb_ok (by omega)) (fun t ht hW => ⟨⟨y8, (V5, L), rfl, ⟨hMV5, agV5, rfl, (show 0 ≤ y8.toInt ∧ y8.toInt ≤ 1 from by omega)⟩, by rw [ht]; exact hP, va_K.moved hW.alike hK, hD⟩, hS.F ht⟩) hS.2.2 dX12_isCandidate_49
      · skip
        have f12 : y7.toInt < z2.toInt := b_nle rfl rfl c10
        refine lv_iload hx hb dX12_isCandidate_18 (lv_at hl 1 rfl) ?_
        refine lv_if_ne (tgt := 34) hx hb dX12_isCandidate_20 (by decide) (fun c13 => ?_) (fun c13 => ?_)
        · skip
          have f14 : y8.toInt ≠ 0 := b_neq rfl (by decide) c13
          refine lv_iconst (v := 1) hx hb dX12_isCandidate_34 (by decide) ?_
          refine lv_goto (tgt := 39) hx hb dX12_isCandidate_35 (by decide) ?_
          refine lv_istore (lv' := [(4, .int 1), (5, .int y7), (3, .int z2), (0, .ref (ad 0)), (1, .int p0), (2, .int p1)]) hx hb dX12_isCandidate_39 hl (by decide) rfl (fun ls hl => ?_)
          obtain ⟨z15, ez15⟩ : ∃ y : Int32, y = y7 + 1 := ⟨_, rfl⟩
          have hz15 : z15.toInt = y7.toInt + 1 := i_add ez15 rfl (by decide) (by omega)
          refine lv_iinc (v := z15) (lv' := [(5, .int z15), (4, .int 1), (3, .int z2), (0, .ref (ad 0)), (1, .int p0), (2, .int p1)]) hx hb dX12_isCandidate_41 hl (k := 1) rfl (by rw [ez15]; rfl) (by decide) rfl (fun ls hl => ?_)
          refine lv_goto (tgt := 12) hx hb dX12_isCandidate_44 (by decide) ?_
          have r16 : Int32.toInt 1 = 1 := by decide
          exact ihlp9 z15 1 H locs ls (by omega) (by decide) (show z15.toInt ≤ z2.toInt from by omega) (by omega) hP hD hS (lv_sub hl [0, 1, 2, 3, 4, 5] rfl)
        · skip
          have f17 : y8.toInt = 0 := b_eq rfl (by decide) c13
          refine lv_aload_n hx hb dX12_isCandidate_23 rfl (lv_at hl 3 rfl) ?_
          refine va_get (D := D) (ci := 12) (v := .ref (ad 80)) (C := RX12) (T := TX12) (N := 100) hx hb hg inX12 hown hK hP 0 rfl rfl 80 (by decide) (hg _ w1786) (fun _ h9 => h9) rfl dX12_isCandidate_24 ?_
          refine lv_iload hx hb dX12_isCandidate_27 (lv_at hl 0 rfl) ?_
          refine va_iald (D := D) (i := y7) hx hb hK hP 57 56 rfl rfl (i_in (a := y7.toInt) rfl (by omega)) dX12_isCandidate_29 ?_
          have r18 : 0 ≤ ((V5 80 (Int32.toNatClampNeg y7))).toInt ∧ ((V5 80 (Int32.toNatClampNeg y7))).toInt ≤ 23 := hMV5 80 (Int32.toNatClampNeg y7)
          refine lv_iload_n hx hb dX12_isCandidate_30 rfl (lv_at hl 5 rfl) ?_
          refine lv_icmp_ne (tgt := 38) hx hb dX12_isCandidate_31 (by decide) (fun c19 => ?_) (fun c19 => ?_)
          · skip
            have f20 : ((V5 80 (Int32.toNatClampNeg y7))).toInt ≠ p1.toInt := b_neq rfl rfl c19
            refine lv_iconst (v := 0) hx hb dX12_isCandidate_38 (by decide) ?_
            refine lv_istore (lv' := [(4, .int 0), (5, .int y7), (3, .int z2), (0, .ref (ad 0)), (1, .int p0), (2, .int p1)]) hx hb dX12_isCandidate_39 hl (by decide) rfl (fun ls hl => ?_)
            obtain ⟨z21, ez21⟩ : ∃ y : Int32, y = y7 + 1 := ⟨_, rfl⟩
            have hz21 : z21.toInt = y7.toInt + 1 := i_add ez21 rfl (by decide) (by omega)
            refine lv_iinc (v := z21) (lv' := [(5, .int z21), (4, .int 0), (3, .int z2), (0, .ref (ad 0)), (1, .int p0), (2, .int p1)]) hx hb dX12_isCandidate_41 hl (k := 1) rfl (by rw [ez21]; rfl) (by decide) rfl (fun ls hl => ?_)
            refine lv_goto (tgt := 12) hx hb dX12_isCandidate_44 (by decide) ?_
            have r22 : Int32.toInt 0 = 0 := by decide
            exact ihlp9 z21 0 H locs ls (by omega) (by decide) (show z21.toInt ≤ z2.toInt from by omega) (by omega) hP hD hS (lv_sub hl [0, 1, 2, 3, 4, 5] rfl)
          · skip
            have f23 : ((V5 80 (Int32.toNatClampNeg y7))).toInt = p1.toInt := b_eq rfl rfl c19
            refine lv_iconst (v := 1) hx hb dX12_isCandidate_34 (by decide) ?_
            refine lv_goto (tgt := 39) hx hb dX12_isCandidate_35 (by decide) ?_
            refine lv_istore (lv' := [(4, .int 1), (5, .int y7), (3, .int z2), (0, .ref (ad 0)), (1, .int p0), (2, .int p1)]) hx hb dX12_isCandidate_39 hl (by decide) rfl (fun ls hl => ?_)
            obtain ⟨z24, ez24⟩ : ∃ y : Int32, y = y7 + 1 := ⟨_, rfl⟩
            have hz24 : z24.toInt = y7.toInt + 1 := i_add ez24 rfl (by decide) (by omega)
            refine lv_iinc (v := z24) (lv' := [(5, .int z24), (4, .int 1), (3, .int z2), (0, .ref (ad 0)), (1, .int p0), (2, .int p1)]) hx hb dX12_isCandidate_41 hl (k := 1) rfl (by rw [ez24]; rfl) (by decide) rfl (fun ls hl => ?_)
            refine lv_goto (tgt := 12) hx hb dX12_isCandidate_44 (by decide) ?_
            have r25 : Int32.toInt 1 = 1 := by decide
            exact ihlp9 z24 1 H locs ls (by omega) (by decide) (show z24.toInt ≤ z2.toInt from by omega) (by omega) hP hD hS (lv_sub hl [0, 1, 2, 3, 4, 5] rfl)
  have r26 : Int32.toInt 0 = 0 := by decide
  exact lp9 ((z2.toInt - (Int32.toInt 0) + 1 : Int).toNat) 0 0 H locs ls (by decide) (by decide) (show (Int32.toInt 0) ≤ z2.toInt from by omega) (by omega) hP hD hS (lv_sub hl [0, 1, 2, 3, 4, 5] rfl)
abbrev r_s_joined : Room := { frames := 0, cells := 0, slots := 0, locals := 0 }
abbrev q_s_joined (D : va_G) (ks : KS) (ad : Nat → Nat) (kk : Nat → ClassId) (V : Vf) (L : Lf) (p0 : Int32) (p1 : Int32) (p2 : Int32) (A : Nat → Prop) : Array Value → State → Outcome → State → Prop := va_Qi (fun (r : Int32) (u : Vf × Lf) => rgd bM u.1 ∧ agr [(0, 0)] [] V u.1 ∧ u.2 = L) (fun u t => gq D A (mw ad kk ks.1 u.1 u.2) (mty kk) t) A
set_option maxHeartbeats 4000000 in
set_option maxRecDepth 100000 in
theorem s_joined (l : Launch) (D : va_G) (ks : KS) (sz : Nat) (ad : Nat → Nat) (kk : Nat → ClassId) (V : Vf) (L : Lf) (p0 : Int32) (p1 : Int32) (p2 : Int32) (hMV : rgd bM V)  : Met l yX12_joined (Cond.code yX12_joined cX12_joined 4 (some .int) :: GW) r_s_joined (va_Pc [.ref (ad 0), .int p0, .int p1, .int p2] (gp D ks (mw ad kk ks.1 V L) (mty kk) sz)) (q_s_joined D ks ad kk V L p0 p1 p2 (va_A (mw ad kk ks.1 V L) sz)) 0 0 (va_A (mw ad kk ks.1 V L) sz) := by
  refine g_met (q_s_joined D ks ad kk V L p0 p1 p2) (by decide) (Nat.le_of_ble_eq_true rfl) ?_
  intro p e s m below meth c A ls H locs hx hb hr hml hown hg hlocks hin hnw hgk hP hK hD hS hA hl
  have hown : s.vm.findClass RX12 = some m.cls := hown
  have hl : lv_has ls 4 [(0, .ref (ad 0)), (1, .int p0), (2, .int p1), (3, .int p2)] := hl
  have hP : va_P D vwCl (mw ad kk ks.1 V L) H := hP
  have hD : va_D A (mw ad kk ks.1 V L) := hD
  have hK : va_K D vwCl (mty kk) s := hK
  have agV : agr [(0, 0)] [] V V := agr.rf
  refine lv_aload_n hx hb dX12_joined_0 rfl (lv_at hl 0 rfl) ?_
  refine lv_iconst (v := 0) hx hb dX12_joined_1 (by decide) ?_
  refine va_put (D := D) (ci := 12) (v := .int 0) (ty := tyX12 0) (C := RX12) (T := TX12) (N := 100) hx hb hg inX12 tyX12 tyX12_ok nmX12 hown hK hP hD hS 0 rfl rfl 0 (by decide) (hg _ w1706) (fun _ h9 => h9) rfl (tyX12_ok 0 (by decide)) rfl rfl (Nat.le_of_ble_eq_true rfl) dX12_joined_2 (fun H locs hP hD hS => ?_)
  obtain ⟨V1, hV1⟩ : ∃ z, z = up2 V 0 0 0 := ⟨_, rfl⟩
  have hP : va_P D vwCl (mw ad kk ks.1 V1 L) H := by rw [hV1]; exact hP
  have hD : va_D A (mw ad kk ks.1 V1 L) := by rw [hV1]; exact hD
  have hMV1 : rgd bM V1 := hMV.put hV1 (i_full _)
  have agV1 : agr [(0, 0)] [] V V1 := agV.up hV1 rfl
  refine lv_iload_n hx hb dX12_joined_5 rfl (lv_at hl 1 rfl) ?_
  refine lv_if_lt (tgt := 63) hx hb dX12_joined_6 (by decide) (fun c2 => ?_) (fun c2 => ?_)
  · skip
    have f3 : p0.toInt < 0 := b_lt rfl (by decide) c2
    refine lv_iconst (v := (-1)) hx hb dX12_joined_63 (by decide) ?_
    exact W.iret (v := (-1)) hx hb hr (fun t ht hW => ⟨⟨(-1), (V1, L), rfl, ⟨hMV1, agV1, rfl⟩, by rw [ht]; exact hP, va_K.moved hW.alike hK, hD⟩, hS.F ht⟩) hS.2.2 dX12_joined_64
  · skip
    have f4 : 0 ≤ p0.toInt := b_nlt rfl (by decide) c2
    refine lv_iload_n hx hb dX12_joined_9 rfl (lv_at hl 1 rfl) ?_
    refine lv_aload_n hx hb dX12_joined_10 rfl (lv_at hl 0 rfl) ?_
    refine va_get (D := D) (ci := 12) (v := .int (V1 0 60)) (C := RX12) (T := TX12) (N := 100) hx hb hg inX12 hown hK hP 0 rfl rfl 60 (by decide) (hg _ w1766) (fun _ h9 => h9) rfl dX12_joined_11 ?_
    refine g_top (v := (V 0 60)) (up2_k hV1 (by decide)) ?_
    have r5 : 0 ≤ ((V 0 60)).toInt ∧ ((V 0 60)).toInt ≤ 300 := hMV 0 60
    refine lv_icmp_ge (tgt := 63) hx hb dX12_joined_14 (by decide) (fun c6 => ?_) (fun c6 => ?_)
    · skip
      have f7 : ((V 0 60)).toInt ≤ p0.toInt := b_le rfl rfl c6
      refine lv_iconst (v := (-1)) hx hb dX12_joined_63 (by decide) ?_
      exact W.iret (v := (-1)) hx hb hr (fun t ht hW => ⟨⟨(-1), (V1, L), rfl, ⟨hMV1, agV1, rfl⟩, by rw [ht]; exact hP, va_K.moved hW.alike hK, hD⟩, hS.F ht⟩) hS.2.2 dX12_joined_64
    · skip
      have f8 : p0.toInt < ((V 0 60)).toInt := b_nle rfl rfl c6
      refine lv_iload_n hx hb dX12_joined_17 rfl (lv_at hl 2 rfl) ?_
      refine lv_if_lt (tgt := 63) hx hb dX12_joined_18 (by decide) (fun c9 => ?_) (fun c9 => ?_)
      · skip
        have f10 : p1.toInt < 0 := b_lt rfl (by decide) c9
        refine lv_iconst (v := (-1)) hx hb dX12_joined_63 (by decide) ?_
        exact W.iret (v := (-1)) hx hb hr (fun t ht hW => ⟨⟨(-1), (V1, L), rfl, ⟨hMV1, agV1, rfl⟩, by rw [ht]; exact hP, va_K.moved hW.alike hK, hD⟩, hS.F ht⟩) hS.2.2 dX12_joined_64
      · skip
        have f11 : 0 ≤ p1.toInt := b_nlt rfl (by decide) c9
        refine lv_iload_n hx hb dX12_joined_21 rfl (lv_at hl 2 rfl) ?_
        refine lv_aload_n hx hb dX12_joined_22 rfl (lv_at hl 0 rfl) ?_
        refine va_get (D := D) (ci := 12) (v := .ref (ad 27)) (C := RX12) (T := TX12) (N := 100) hx hb hg inX12 hown hK hP 0 rfl rfl 27 (by decide) (hg _ w1733) (fun _ h9 => h9) rfl dX12_joined_23 ?_
        refine lv_bipush (v := 24) hx hb dX12_joined_26 (by decide) ?_
        refine lv_aload_n hx hb dX12_joined_28 rfl (lv_at hl 0 rfl) ?_
        refine va_get (D := D) (ci := 12) (v := .int (V1 0 11)) (C := RX12) (T := TX12) (N := 100) hx hb hg inX12 hown hK hP 0 rfl rfl 11 (by decide) (hg _ w1717) (fun _ h9 => h9) rfl dX12_joined_29 ?_
        refine g_top (v := (V 0 11)) (up2_k hV1 (by decide)) ?_
        have r12 : 0 ≤ ((V 0 11)).toInt ∧ ((V 0 11)).toInt ≤ 1 := hMV 0 11
        refine lv_imul hx hb dX12_joined_32 ?_
        refine lv_topi (fun z13 ez13 => ?_)
        have hz13 : z13.toInt = 24 * ((V 0 11)).toInt := i_mul ez13 (by decide) rfl (by omega)
        refine lv_aload_n hx hb dX12_joined_33 rfl (lv_at hl 0 rfl) ?_
        refine va_get (D := D) (ci := 12) (v := .ref (ad 61)) (C := RX12) (T := TX12) (N := 100) hx hb hg inX12 hown hK hP 0 rfl rfl 61 (by decide) (hg _ w1767) (fun _ h9 => h9) rfl dX12_joined_34 ?_
        refine lv_iload_n hx hb dX12_joined_37 rfl (lv_at hl 1 rfl) ?_
        refine va_iald (D := D) (i := p0) hx hb hK hP 46 45 rfl rfl (i_in (a := p0.toInt) rfl (by omega)) dX12_joined_38 ?_
        refine g_top (v := (V 61 (Int32.toNatClampNeg p0))) (up2_o hV1 (by decide)) ?_
        have r14 : 0 ≤ ((V 61 (Int32.toNatClampNeg p0))).toInt ∧ ((V 61 (Int32.toNatClampNeg p0))).toInt ≤ 23 := hMV 61 (Int32.toNatClampNeg p0)
        refine lv_iadd hx hb dX12_joined_39 ?_
        refine lv_topi (fun z15 ez15 => ?_)
        have hz15 : z15.toInt = z13.toInt + ((V 61 (Int32.toNatClampNeg p0))).toInt := i_add ez15 rfl rfl (by omega)
        refine va_iald (D := D) (i := z15) hx hb hK hP 20 19 rfl rfl (i_in (a := z15.toInt) rfl (by omega)) dX12_joined_40 ?_
        refine g_top (v := (V 27 (Int32.toNatClampNeg z15))) (up2_o hV1 (by decide)) ?_
        have r16 : 0 ≤ ((V 27 (Int32.toNatClampNeg z15))).toInt ∧ ((V 27 (Int32.toNatClampNeg z15))).toInt ≤ 8 := hMV 27 (Int32.toNatClampNeg z15)
        refine lv_icmp_ge (tgt := 63) hx hb dX12_joined_41 (by decide) (fun c17 => ?_) (fun c17 => ?_)
        · skip
          have f18 : ((V 27 (Int32.toNatClampNeg z15))).toInt ≤ p1.toInt := b_le rfl rfl c17
          refine lv_iconst (v := (-1)) hx hb dX12_joined_63 (by decide) ?_
          exact W.iret (v := (-1)) hx hb hr (fun t ht hW => ⟨⟨(-1), (V1, L), rfl, ⟨hMV1, agV1, rfl⟩, by rw [ht]; exact hP, va_K.moved hW.alike hK, hD⟩, hS.F ht⟩) hS.2.2 dX12_joined_64
        · skip
          have f19 : p1.toInt < ((V 27 (Int32.toNatClampNeg z15))).toInt := b_nle rfl rfl c17
          refine lv_iload_n hx hb dX12_joined_44 rfl (lv_at hl 3 rfl) ?_
          refine lv_if_lt (tgt := 63) hx hb dX12_joined_45 (by decide) (fun c20 => ?_) (fun c20 => ?_)
          · skip
            have f21 : p2.toInt < 0 := b_lt rfl (by decide) c20
            refine lv_iconst (v := (-1)) hx hb dX12_joined_63 (by decide) ?_
            exact W.iret (v := (-1)) hx hb hr (fun t ht hW => ⟨⟨(-1), (V1, L), rfl, ⟨hMV1, agV1, rfl⟩, by rw [ht]; exact hP, va_K.moved hW.alike hK, hD⟩, hS.F ht⟩) hS.2.2 dX12_joined_64
          · skip
            have f22 : 0 ≤ p2.toInt := b_nlt rfl (by decide) c20
            refine lv_iload_n hx hb dX12_joined_48 rfl (lv_at hl 3 rfl) ?_
            refine lv_aload_n hx hb dX12_joined_49 rfl (lv_at hl 0 rfl) ?_
            refine va_get (D := D) (ci := 12) (v := .ref (ad 66)) (C := RX12) (T := TX12) (N := 100) hx hb hg inX12 hown hK hP 0 rfl rfl 66 (by decide) (hg _ w1772) (fun _ h9 => h9) rfl dX12_joined_50 ?_
            refine lv_bipush (v := 8) hx hb dX12_joined_53 (by decide) ?_
            refine lv_iload_n hx hb dX12_joined_55 rfl (lv_at hl 1 rfl) ?_
            refine lv_imul hx hb dX12_joined_56 ?_
            refine lv_topi (fun z23 ez23 => ?_)
            have hz23 : z23.toInt = 8 * p0.toInt := i_mul ez23 (by decide) rfl (by omega)
            refine lv_iload_n hx hb dX12_joined_57 rfl (lv_at hl 2 rfl) ?_
            refine lv_iadd hx hb dX12_joined_58 ?_
            refine lv_topi (fun z24 ez24 => ?_)
            have hz24 : z24.toInt = z23.toInt + p1.toInt := i_add ez24 rfl rfl (by omega)
            refine va_iald (D := D) (i := z24) hx hb hK hP 50 49 rfl rfl (i_in (a := z24.toInt) rfl (by omega)) dX12_joined_59 ?_
            refine g_top (v := (V 66 (Int32.toNatClampNeg z24))) (up2_o hV1 (by decide)) ?_
            have r25 : 0 ≤ ((V 66 (Int32.toNatClampNeg z24))).toInt ∧ ((V 66 (Int32.toNatClampNeg z24))).toInt ≤ 24 := hMV 66 (Int32.toNatClampNeg z24)
            refine lv_icmp_lt (tgt := 65) hx hb dX12_joined_60 (by decide) (fun c26 => ?_) (fun c26 => ?_)
            · skip
              have f27 : p2.toInt < ((V 66 (Int32.toNatClampNeg z24))).toInt := b_lt rfl rfl c26
              refine lv_aload_n hx hb dX12_joined_65 rfl (lv_at hl 0 rfl) ?_
              refine va_get (D := D) (ci := 12) (v := .ref (ad 67)) (C := RX12) (T := TX12) (N := 100) hx hb hg inX12 hown hK hP 0 rfl rfl 67 (by decide) (hg _ w1773) (fun _ h9 => h9) rfl dX12_joined_66 ?_
              refine lv_bipush (v := 24) hx hb dX12_joined_69 (by decide) ?_
              refine lv_bipush (v := 8) hx hb dX12_joined_71 (by decide) ?_
              refine lv_iload_n hx hb dX12_joined_73 rfl (lv_at hl 1 rfl) ?_
              refine lv_imul hx hb dX12_joined_74 ?_
              refine lv_topi (fun z28 ez28 => ?_)
              have hz28 : z28.toInt = 8 * p0.toInt := i_mul ez28 (by decide) rfl (by omega)
              refine lv_iload_n hx hb dX12_joined_75 rfl (lv_at hl 2 rfl) ?_
              refine lv_iadd hx hb dX12_joined_76 ?_
              refine lv_topi (fun z29 ez29 => ?_)
              have hz29 : z29.toInt = z28.toInt + p1.toInt := i_add ez29 rfl rfl (by omega)
              refine lv_imul hx hb dX12_joined_77 ?_
              refine lv_topi (fun z30 ez30 => ?_)
              have hz30 : z30.toInt = 24 * z29.toInt := i_mul ez30 (by decide) rfl (by omega)
              refine lv_iload_n hx hb dX12_joined_78 rfl (lv_at hl 3 rfl) ?_
              refine lv_iadd hx hb dX12_joined_79 ?_
              refine lv_topi (fun z31 ez31 => ?_)
              have hz31 : z31.toInt = z30.toInt + p2.toInt := i_add ez31 rfl rfl (by omega)
              refine va_iald (D := D) (i := z31) hx hb hK hP 51 50 rfl rfl (i_in (a := z31.toInt) rfl (by omega)) dX12_joined_80 ?_
              refine g_top (v := (V 67 (Int32.toNatClampNeg z31))) (up2_o hV1 (by decide)) ?_
              have r32 : 0 ≤ ((V 67 (Int32.toNatClampNeg z31))).toInt ∧ ((V 67 (Int32.toNatClampNeg z31))).toInt ≤ 299 := hMV 67 (Int32.toNatClampNeg z31)
              exact W.iret (v := (V 67 (Int32.toNatClampNeg z31))) hx hb hr (fun t ht hW => ⟨⟨(V 67 (Int32.toNatClampNeg z31)), (V1, L), rfl, ⟨hMV1, agV1, rfl⟩, by rw [ht]; exact hP, va_K.moved hW.alike hK, hD⟩, hS.F ht⟩) hS.2.2 dX12_joined_81
            · skip
              have f33 : ((V 66 (Int32.toNatClampNeg z24))).toInt ≤ p2.toInt := b_nlt rfl rfl c26
              refine lv_iconst (v := (-1)) hx hb dX12_joined_63 (by decide) ?_
              exact W.iret (v := (-1)) hx hb hr (fun t ht hW => ⟨⟨(-1), (V1, L), rfl, ⟨hMV1, agV1, rfl⟩, by rw [ht]; exact hP, va_K.moved hW.alike hK, hD⟩, hS.F ht⟩) hS.2.2 dX12_joined_64
abbrev r_s_candidate : Room := { frames := 3, cells := 0, slots := 0, locals := 69 }
abbrev q_s_candidate (D : va_G) (ks : KS) (ad : Nat → Nat) (kk : Nat → ClassId) (V : Vf) (L : Lf) (p0 : Int32) (p1 : Int32) (p2 : Int32) (A : Nat → Prop) : Array Value → State → Outcome → State → Prop := va_Qi (fun (r : Int32) (u : Vf × Lf) => rgd bM u.1 ∧ agr [(0, 0)] [80] V u.1 ∧ u.2 = L) (fun u t => gq D A (mw ad kk ks.1 u.1 u.2) (mty kk) t) A
set_option maxHeartbeats 4000000 in
set_option maxRecDepth 100000 in
theorem s_candidate (l : Launch) (D : va_G) (ks : KS) (sz : Nat) (ad : Nat → Nat) (kk : Nat → ClassId) (V : Vf) (L : Lf) (p0 : Int32) (p1 : Int32) (p2 : Int32) (hMV : rgd bM V) (hBV : BV V)  : Met l yX12_candidate (Cond.code yX12_candidate cX12_candidate 4 (some .int) :: GW) r_s_candidate (va_Pc [.ref (ad 0), .int p0, .int p1, .int p2] (gp D ks (mw ad kk ks.1 V L) (mty kk) sz)) (q_s_candidate D ks ad kk V L p0 p1 p2 (va_A (mw ad kk ks.1 V L) sz)) 0 0 (va_A (mw ad kk ks.1 V L) sz) := by
  refine g_met (q_s_candidate D ks ad kk V L p0 p1 p2) (by decide) (Nat.le_of_ble_eq_true rfl) ?_
  intro p e s m below meth c A ls H locs hx hb hr hml hown hg hlocks hin hnw hgk hP hK hD hS hA hl
  have hown : s.vm.findClass RX12 = some m.cls := hown
  have hl : lv_has ls 4 [(0, .ref (ad 0)), (1, .int p0), (2, .int p1), (3, .int p2)] := hl
  have hP : va_P D vwCl (mw ad kk ks.1 V L) H := hP
  have hD : va_D A (mw ad kk ks.1 V L) := hD
  have hK : va_K D vwCl (mty kk) s := hK
  have agV : agr [(0, 0)] [80] V V := agr.rf
  refine lv_aload_n hx hb dX12_candidate_0 rfl (lv_at hl 0 rfl) ?_
  refine lv_iconst (v := 0) hx hb dX12_candidate_1 (by decide) ?_
  refine va_put (D := D) (ci := 12) (v := .int 0) (ty := tyX12 0) (C := RX12) (T := TX12) (N := 100) hx hb hg inX12 tyX12 tyX12_ok nmX12 hown hK hP hD hS 0 rfl rfl 0 (by decide) (hg _ w1706) (fun _ h9 => h9) rfl (tyX12_ok 0 (by decide)) rfl rfl (Nat.le_of_ble_eq_true rfl) dX12_candidate_2 (fun H locs hP hD hS => ?_)
  obtain ⟨V1, hV1⟩ : ∃ z, z = up2 V 0 0 0 := ⟨_, rfl⟩
  have hP : va_P D vwCl (mw ad kk ks.1 V1 L) H := by rw [hV1]; exact hP
  have hD : va_D A (mw ad kk ks.1 V1 L) := by rw [hV1]; exact hD
  have hMV1 : rgd bM V1 := hMV.put hV1 (i_full _)
  have agV1 : agr [(0, 0)] [80] V V1 := agV.up hV1 rfl
  refine lv_iload_n hx hb dX12_candidate_5 rfl (lv_at hl 1 rfl) ?_
  refine lv_if_lt (tgt := 48) hx hb dX12_candidate_6 (by decide) (fun c2 => ?_) (fun c2 => ?_)
  · skip
    have f3 : p0.toInt < 0 := b_lt rfl (by decide) c2
    refine lv_iconst (v := (-1)) hx hb dX12_candidate_48 (by decide) ?_
    exact W.iret (v := (-1)) hx hb hr (fun t ht hW => ⟨⟨(-1), (V1, L), rfl, ⟨hMV1, agV1, rfl⟩, by rw [ht]; exact hP, va_K.moved hW.alike hK, hD⟩, hS.F ht⟩) hS.2.2 dX12_candidate_49
  · skip
    have f4 : 0 ≤ p0.toInt := b_nlt rfl (by decide) c2
    refine lv_iload_n hx hb dX12_candidate_9 rfl (lv_at hl 1 rfl) ?_
    refine lv_aload_n hx hb dX12_candidate_10 rfl (lv_at hl 0 rfl) ?_
    refine va_get (D := D) (ci := 12) (v := .ref (ad 19)) (C := RX12) (T := TX12) (N := 100) hx hb hg inX12 hown hK hP 0 rfl rfl 19 (by decide) (hg _ w1725) (fun _ h9 => h9) rfl dX12_candidate_11 ?_
    refine lv_aload_n hx hb dX12_candidate_14 rfl (lv_at hl 0 rfl) ?_
    refine va_get (D := D) (ci := 12) (v := .int (V1 0 11)) (C := RX12) (T := TX12) (N := 100) hx hb hg inX12 hown hK hP 0 rfl rfl 11 (by decide) (hg _ w1717) (fun _ h9 => h9) rfl dX12_candidate_15 ?_
    refine g_top (v := (V 0 11)) (up2_k hV1 (by decide)) ?_
    have r5 : 0 ≤ ((V 0 11)).toInt ∧ ((V 0 11)).toInt ≤ 1 := hMV 0 11
    refine va_iald (D := D) (i := (V 0 11)) hx hb hK hP 12 11 rfl rfl (i_in (a := ((V 0 11)).toInt) rfl (by first | omega | ((try (have i_hBV := Imp.go hBV (by omega))); omega))) dX12_candidate_18 ?_
    refine g_top (v := (V 19 (Int32.toNatClampNeg (V 0 11)))) (up2_o hV1 (by decide)) ?_
    have r6 : 0 ≤ ((V 19 (Int32.toNatClampNeg (V 0 11)))).toInt ∧ ((V 19 (Int32.toNatClampNeg (V 0 11)))).toInt ≤ 24 := hMV 19 (Int32.toNatClampNeg (V 0 11))
    refine lv_icmp_ge (tgt := 48) hx hb dX12_candidate_19 (by decide) (fun c7 => ?_) (fun c7 => ?_)
    · skip
      have f8 : ((V 19 (Int32.toNatClampNeg (V 0 11)))).toInt ≤ p0.toInt := b_le rfl rfl c7
      refine lv_iconst (v := (-1)) hx hb dX12_candidate_48 (by decide) ?_
      exact W.iret (v := (-1)) hx hb hr (fun t ht hW => ⟨⟨(-1), (V1, L), rfl, ⟨hMV1, agV1, rfl⟩, by rw [ht]; exact hP, va_K.moved hW.alike hK, hD⟩, hS.F ht⟩) hS.2.2 dX12_candidate_49
    · skip
      have f9 : p0.toInt < ((V 19 (Int32.toNatClampNeg (V 0 11)))).toInt := b_nle rfl rfl c7
      refine lv_iload_n hx hb dX12_candidate_22 rfl (lv_at hl 2 rfl) ?_
      refine lv_if_lt (tgt := 48) hx hb dX12_candidate_23 (by decide) (fun c10 => ?_) (fun c10 => ?_)
      · skip
        have f11 : p1.toInt < 0 := b_lt rfl (by decide) c10
        refine lv_iconst (v := (-1)) hx hb dX12_candidate_48 (by decide) ?_
        exact W.iret (v := (-1)) hx hb hr (fun t ht hW => ⟨⟨(-1), (V1, L), rfl, ⟨hMV1, agV1, rfl⟩, by rw [ht]; exact hP, va_K.moved hW.alike hK, hD⟩, hS.F ht⟩) hS.2.2 dX12_candidate_49
      · skip
        have f12 : 0 ≤ p1.toInt := b_nlt rfl (by decide) c10
        refine lv_iload_n hx hb dX12_candidate_26 rfl (lv_at hl 2 rfl) ?_
        refine lv_aload_n hx hb dX12_candidate_27 rfl (lv_at hl 0 rfl) ?_
        refine va_get (D := D) (ci := 12) (v := .ref (ad 27)) (C := RX12) (T := TX12) (N := 100) hx hb hg inX12 hown hK hP 0 rfl rfl 27 (by decide) (hg _ w1733) (fun _ h9 => h9) rfl dX12_candidate_28 ?_
        refine lv_bipush (v := 24) hx hb dX12_candidate_31 (by decide) ?_
        refine lv_aload_n hx hb dX12_candidate_33 rfl (lv_at hl 0 rfl) ?_
        refine va_get (D := D) (ci := 12) (v := .int (V1 0 11)) (C := RX12) (T := TX12) (N := 100) hx hb hg inX12 hown hK hP 0 rfl rfl 11 (by decide) (hg _ w1717) (fun _ h9 => h9) rfl dX12_candidate_34 ?_
        refine g_top (v := (V 0 11)) (up2_k hV1 (by decide)) ?_
        refine lv_imul hx hb dX12_candidate_37 ?_
        refine lv_topi (fun z13 ez13 => ?_)
        have hz13 : z13.toInt = 24 * ((V 0 11)).toInt := i_mul ez13 (by decide) rfl (by omega)
        refine lv_iload_n hx hb dX12_candidate_38 rfl (lv_at hl 1 rfl) ?_
        refine lv_iadd hx hb dX12_candidate_39 ?_
        refine lv_topi (fun z14 ez14 => ?_)
        have hz14 : z14.toInt = z13.toInt + p0.toInt := i_add ez14 rfl rfl (by omega)
        refine va_iald (D := D) (i := z14) hx hb hK hP 20 19 rfl rfl (i_in (a := z14.toInt) rfl (by first | omega | ((try (have i_hBV := Imp.go hBV (by omega))); omega))) dX12_candidate_40 ?_
        refine g_top (v := (V 27 (Int32.toNatClampNeg z14))) (up2_o hV1 (by decide)) ?_
        have r15 : 0 ≤ ((V 27 (Int32.toNatClampNeg z14))).toInt ∧ ((V 27 (Int32.toNatClampNeg z14))).toInt ≤ 8 := hMV 27 (Int32.toNatClampNeg z14)
        refine lv_icmp_ge (tgt := 48) hx hb dX12_candidate_41 (by decide) (fun c16 => ?_) (fun c16 => ?_)
        · skip
          have f17 : ((V 27 (Int32.toNatClampNeg z14))).toInt ≤ p1.toInt := b_le rfl rfl c16
          refine lv_iconst (v := (-1)) hx hb dX12_candidate_48 (by decide) ?_
          exact W.iret (v := (-1)) hx hb hr (fun t ht hW => ⟨⟨(-1), (V1, L), rfl, ⟨hMV1, agV1, rfl⟩, by rw [ht]; exact hP, va_K.moved hW.alike hK, hD⟩, hS.F ht⟩) hS.2.2 dX12_candidate_49
        · skip
          have f18 : p1.toInt < ((V 27 (Int32.toNatClampNeg z14))).toInt := b_nle rfl rfl c16
          refine lv_iload_n hx hb dX12_candidate_44 rfl (lv_at hl 3 rfl) ?_
          refine lv_if_ge (tgt := 50) hx hb dX12_candidate_45 (by decide) (fun c19 => ?_) (fun c19 => ?_)
          · skip
            have f20 : 0 ≤ p2.toInt := b_le (by decide) rfl c19
            refine lv_iload_n hx hb dX12_candidate_50 rfl (lv_at hl 3 rfl) ?_
            refine lv_aload_n hx hb dX12_candidate_51 rfl (lv_at hl 0 rfl) ?_
            refine lv_bipush (v := 8) hx hb dX12_candidate_52 (by decide) ?_
            refine lv_bipush (v := 24) hx hb dX12_candidate_54 (by decide) ?_
            refine lv_aload_n hx hb dX12_candidate_56 rfl (lv_at hl 0 rfl) ?_
            refine va_get (D := D) (ci := 12) (v := .int (V1 0 11)) (C := RX12) (T := TX12) (N := 100) hx hb hg inX12 hown hK hP 0 rfl rfl 11 (by decide) (hg _ w1717) (fun _ h9 => h9) rfl dX12_candidate_57 ?_
            refine g_top (v := (V 0 11)) (up2_k hV1 (by decide)) ?_
            refine lv_imul hx hb dX12_candidate_60 ?_
            refine lv_topi (fun z21 ez21 => ?_)
            have hz21 : z21.toInt = 24 * ((V 0 11)).toInt := i_mul ez21 (by decide) rfl (by omega)
            refine lv_iload_n hx hb dX12_candidate_61 rfl (lv_at hl 1 rfl) ?_
            refine lv_iadd hx hb dX12_candidate_62 ?_
            refine lv_topi (fun z22 ez22 => ?_)
            have hz22 : z22.toInt = z21.toInt + p0.toInt := i_add ez22 rfl rfl (by omega)
            refine lv_imul hx hb dX12_candidate_63 ?_
            refine lv_topi (fun z23 ez23 => ?_)
            have hz23 : z23.toInt = 8 * z22.toInt := i_mul ez23 (by decide) rfl (by omega)
            refine lv_iload_n hx hb dX12_candidate_64 rfl (lv_at hl 2 rfl) ?_
            refine lv_iadd hx hb dX12_candidate_65 ?_
            refine lv_topi (fun z24 ez24 => ?_)
            have hz24 : z24.toInt = z23.toInt + p1.toInt := i_add ez24 rfl rfl (by omega)
            have bb25 : 0 ≤ (V 28 (Int32.toNatClampNeg z24)).toInt := hBV (p0.toInt) (p1.toInt) z14 z24 (by first | omega | ((try (have i_hBV := Imp.go hBV (by omega))); omega)) (by first | omega | ((try (have i_hBV := Imp.go hBV (by omega))); omega)) (by first | omega | ((try (have i_hBV := Imp.go hBV (by omega))); omega)) (by first | omega | ((try (have i_hBV := Imp.go hBV (by omega))); omega)) (by first | omega | ((try (have i_hBV := Imp.go hBV (by omega))); omega)) (by first | omega | ((try (have i_hBV := Imp.go hBV (by omega))); omega))
            have pq26 : (V1 28 (Int32.toNatClampNeg z24)).toInt = ((V 28 (Int32.toNatClampNeg z24))).toInt := congrArg Int32.toInt (up2_o hV1 (by decide))
            have r27 : (-1) ≤ ((V 28 (Int32.toNatClampNeg z24))).toInt ∧ ((V 28 (Int32.toNatClampNeg z24))).toInt ≤ 23 := hMV 28 (Int32.toNatClampNeg z24)
            refine gA_int (gA_runV (As := [.int z24]) (rest := [.int p2]) (ci := 12) (q0 := 0) hx hb hml hown hg hP hD hK hS hA hnw hgk (s_candidatesOf l D ks H.size ad kk V1 L z24 hMV1 (by first | omega | ((try (have i_hBV := Imp.go hBV (by omega))); omega)) (show 0 ≤ (V1 28 (Int32.toNatClampNeg z24)).toInt from by first | omega | ((try (have i_hBV := Imp.go hBV (by omega))); omega))) w2172 w2174 w119 w172 w2175 rfl rfl hdV_yX12_candidatesOf ⟨Nat.le_of_ble_eq_true rfl, Nat.le_of_ble_eq_true rfl⟩ rfl hl.1 rfl (Nat.le_of_ble_eq_true rfl) dX12_candidate_66 ⟨Nat.le_of_ble_eq_true rfl, Nat.le_of_ble_eq_true rfl⟩) hP hD hK hS hA (fun z28 u29 H locs w30 hP hD hK hS => ?_)
            obtain ⟨V31, L32⟩ := u29
            obtain ⟨hMV31, ajV31, axL32, rgz28⟩ := w30
            have axL32 : L = L32 := Eq.symm axL32
            subst axL32
            have hP : va_P D vwCl (mw ad kk ks.1 V31 L) H := hP
            have hD : va_D A (mw ad kk ks.1 V31 L) := hD
            have hMV31 : rgd bM V31 := hMV31
            have ajV31 : agr [] [80] V1 V31 := ajV31
            have agV31 : agr [(0, 0)] [80] V V31 := agV1.tr ajV31 (by decide) (by decide)
            have rgz28 : 0 ≤ z28.toInt ∧ z28.toInt ≤ 24 := rgz28
            refine lv_icmp_ge (tgt := 81) hx hb dX12_candidate_69 (by decide) (fun c33 => ?_) (fun c33 => ?_)
            · skip
              have f34 : z28.toInt ≤ p2.toInt := b_le rfl rfl c33
              refine lv_iconst (v := (-1)) hx hb dX12_candidate_81 (by decide) ?_
              exact W.iret (v := (-1)) hx hb hr (fun t ht hW => ⟨⟨(-1), (V31, L), rfl, ⟨hMV31, agV31, rfl⟩, by rw [ht]; exact hP, va_K.moved hW.alike hK, hD⟩, hS.F ht⟩) hS.2.2 dX12_candidate_82
            · skip
              have f35 : p2.toInt < z28.toInt := b_nle rfl rfl c33
              refine lv_aload_n hx hb dX12_candidate_72 rfl (lv_at hl 0 rfl) ?_
              refine va_get (D := D) (ci := 12) (v := .ref (ad 80)) (C := RX12) (T := TX12) (N := 100) hx hb hg inX12 hown hK hP 0 rfl rfl 80 (by decide) (hg _ w1786) (fun _ h9 => h9) rfl dX12_candidate_73 ?_
              refine lv_iload_n hx hb dX12_candidate_76 rfl (lv_at hl 3 rfl) ?_
              refine va_iald (D := D) (i := p2) hx hb hK hP 57 56 rfl rfl (i_in (a := p2.toInt) rfl (by first | omega | ((try (have i_hBV := Imp.go hBV (by omega))); omega))) dX12_candidate_77 ?_
              have r36 : 0 ≤ ((V31 80 (Int32.toNatClampNeg p2))).toInt ∧ ((V31 80 (Int32.toNatClampNeg p2))).toInt ≤ 23 := hMV31 80 (Int32.toNatClampNeg p2)
              refine lv_goto (tgt := 82) hx hb dX12_candidate_78 (by decide) ?_
              exact W.iret (v := (V31 80 (Int32.toNatClampNeg p2))) hx hb hr (fun t ht hW => ⟨⟨(V31 80 (Int32.toNatClampNeg p2)), (V31, L), rfl, ⟨hMV31, agV31, rfl⟩, by rw [ht]; exact hP, va_K.moved hW.alike hK, hD⟩, hS.F ht⟩) hS.2.2 dX12_candidate_82
          · skip
            have f37 : p2.toInt < 0 := b_nle (by decide) rfl c19
            refine lv_iconst (v := (-1)) hx hb dX12_candidate_48 (by decide) ?_
            exact W.iret (v := (-1)) hx hb hr (fun t ht hW => ⟨⟨(-1), (V1, L), rfl, ⟨hMV1, agV1, rfl⟩, by rw [ht]; exact hP, va_K.moved hW.alike hK, hD⟩, hS.F ht⟩) hS.2.2 dX12_candidate_49
abbrev r_s_checkNeed : Room := { frames := 3, cells := 0, slots := 0, locals := 69 }
abbrev q_s_checkNeed (D : va_G) (ks : KS) (ad : Nat → Nat) (kk : Nat → ClassId) (V : Vf) (L : Lf) (p0 : Int32) (p1 : Int32) (A : Nat → Prop) : Array Value → State → Outcome → State → Prop := va_Qv (fun (u : Vf × Lf) => rgd bM u.1 ∧ agr [(0, 81)] [80, 82, 83, 84, 86] V u.1 ∧ u.2 = L ∧ ((u.1 0 81).toInt ≤ (V 0 81).toInt + 1) ∧ ((V 0 81).toInt ≤ (u.1 0 81).toInt)) (fun u t => gq D A (mw ad kk ks.1 u.1 u.2) (mty kk) t) A
set_option maxHeartbeats 4000000 in
set_option maxRecDepth 100000 in
theorem s_checkNeed (l : Launch) (D : va_G) (ks : KS) (sz : Nat) (ad : Nat → Nat) (kk : Nat → ClassId) (V : Vf) (L : Lf) (p0 : Int32) (p1 : Int32) (hMV : rgd bM V) (rg_p0 : 0 ≤ p0.toInt ∧ p0.toInt ≤ 23) (rg_p1 : 0 ≤ p1.toInt ∧ p1.toInt ≤ 7) (y1 : ∀ m : Int32, m.toInt = 8 * (24 * (V 0 11).toInt + p0.toInt) + p1.toInt → 0 ≤ (V 28 (Int32.toNatClampNeg m)).toInt) (y2 : (V 0 81).toInt ≤ 999999)  : Met l yX12_checkNeed (Cond.code yX12_checkNeed cX12_checkNeed 10 none :: GW) r_s_checkNeed (va_Pc [.ref (ad 0), .int p0, .int p1] (gp D ks (mw ad kk ks.1 V L) (mty kk) sz)) (q_s_checkNeed D ks ad kk V L p0 p1 (va_A (mw ad kk ks.1 V L) sz)) 0 0 (va_A (mw ad kk ks.1 V L) sz) := by
  refine g_met (q_s_checkNeed D ks ad kk V L p0 p1) (by decide) (Nat.le_of_ble_eq_true rfl) ?_
  intro p e s m below meth c A ls H locs hx hb hr hml hown hg hlocks hin hnw hgk hP hK hD hS hA hl
  have hown : s.vm.findClass RX12 = some m.cls := hown
  have hl : lv_has ls 10 [(0, .ref (ad 0)), (1, .int p0), (2, .int p1)] := hl
  have hP : va_P D vwCl (mw ad kk ks.1 V L) H := hP
  have hD : va_D A (mw ad kk ks.1 V L) := hD
  have hK : va_K D vwCl (mty kk) s := hK
  have agV : agr [(0, 81)] [80, 82, 83, 84, 86] V V := agr.rf
  have r1 : 0 ≤ ((V 0 81)).toInt ∧ ((V 0 81)).toInt ≤ 1000000 := hMV 0 81
  refine lv_bipush (v := 8) hx hb dX12_checkNeed_0 (by decide) ?_
  refine lv_bipush (v := 24) hx hb dX12_checkNeed_2 (by decide) ?_
  refine lv_aload_n hx hb dX12_checkNeed_4 rfl (lv_at hl 0 rfl) ?_
  refine va_get (D := D) (ci := 12) (v := .int (V 0 11)) (C := RX12) (T := TX12) (N := 100) hx hb hg inX12 hown hK hP 0 rfl rfl 11 (by decide) (hg _ w1717) (fun _ h9 => h9) rfl dX12_checkNeed_5 ?_
  have r2 : 0 ≤ ((V 0 11)).toInt ∧ ((V 0 11)).toInt ≤ 1 := hMV 0 11
  refine lv_imul hx hb dX12_checkNeed_8 ?_
  refine lv_topi (fun z3 ez3 => ?_)
  have hz3 : z3.toInt = 24 * ((V 0 11)).toInt := i_mul ez3 (by decide) rfl (by omega)
  refine lv_iload_n hx hb dX12_checkNeed_9 rfl (lv_at hl 1 rfl) ?_
  refine lv_iadd hx hb dX12_checkNeed_10 ?_
  refine lv_topi (fun z4 ez4 => ?_)
  have hz4 : z4.toInt = z3.toInt + p0.toInt := i_add ez4 rfl rfl (by omega)
  refine lv_imul hx hb dX12_checkNeed_11 ?_
  refine lv_topi (fun z5 ez5 => ?_)
  have hz5 : z5.toInt = 8 * z4.toInt := i_mul ez5 (by decide) rfl (by omega)
  refine lv_iload_n hx hb dX12_checkNeed_12 rfl (lv_at hl 2 rfl) ?_
  refine lv_iadd hx hb dX12_checkNeed_13 ?_
  refine lv_topi (fun z6 ez6 => ?_)
  have hz6 : z6.toInt = z5.toInt + p1.toInt := i_add ez6 rfl rfl (by omega)
  refine lv_istore_n (lv' := [(3, .int z6), (0, .ref (ad 0)), (1, .int p0), (2, .int p1)]) hx hb dX12_checkNeed_14 rfl hl (by decide) rfl (fun ls hl => ?_)
  refine lv_aload_n hx hb dX12_checkNeed_15 rfl (lv_at hl 1 rfl) ?_
  refine lv_iload_n hx hb dX12_checkNeed_16 rfl (lv_at hl 0 rfl) ?_
  have bb7 := y1 z6 (by first | omega | ((try (have i_y1 := Imp.go y1 (by omega))); omega))
  have r8 : (-1) ≤ ((V 28 (Int32.toNatClampNeg z6))).toInt ∧ ((V 28 (Int32.toNatClampNeg z6))).toInt ≤ 23 := hMV 28 (Int32.toNatClampNeg z6)
  refine gA_int (gA_runV (As := [.int z6]) (rest := []) (ci := 12) (q0 := 0) hx hb hml hown hg hP hD hK hS hA hnw hgk (s_candidatesOf l D ks H.size ad kk V L z6 hMV (by first | omega | ((try (have i_y1 := Imp.go y1 (by omega))); omega)) (show 0 ≤ (V 28 (Int32.toNatClampNeg z6)).toInt from by first | omega | ((try (have i_y1 := Imp.go y1 (by omega))); omega))) w2172 w2174 w119 w172 w2175 rfl rfl hdV_yX12_candidatesOf ⟨Nat.le_of_ble_eq_true rfl, Nat.le_of_ble_eq_true rfl⟩ rfl hl.1 rfl (Nat.le_of_ble_eq_true rfl) dX12_checkNeed_17 ⟨Nat.le_of_ble_eq_true rfl, Nat.le_of_ble_eq_true rfl⟩) hP hD hK hS hA (fun z9 u10 H locs w11 hP hD hK hS => ?_)
  obtain ⟨V12, L13⟩ := u10
  obtain ⟨hMV12, ajV12, axL13, rgz9⟩ := w11
  have axL13 : L = L13 := Eq.symm axL13
  subst axL13
  have hP : va_P D vwCl (mw ad kk ks.1 V12 L) H := hP
  have hD : va_D A (mw ad kk ks.1 V12 L) := hD
  have hMV12 : rgd bM V12 := hMV12
  have ajV12 : agr [] [80] V V12 := ajV12
  have agV12 : agr [(0, 81)] [80, 82, 83, 84, 86] V V12 := agV.tr ajV12 (by decide) (by decide)
  have rgz9 : 0 ≤ z9.toInt ∧ z9.toInt ≤ 24 := rgz9
  refine lv_istore (lv' := [(4, .int z9), (3, .int z6), (0, .ref (ad 0)), (1, .int p0), (2, .int p1)]) hx hb dX12_checkNeed_20 hl (by decide) rfl (fun ls hl => ?_)
  refine lv_iload hx hb dX12_checkNeed_22 (lv_at hl 0 rfl) ?_
  have J14 : ∀ (y15 : Int32) (H : Heap) (locs : List Loc) (ls : Array Slot), 0 ≤ y15.toInt ∧ y15.toInt ≤ 1 → va_P D vwCl (mw ad kk ks.1 V12 L) H → va_D A (mw ad kk ks.1 V12 L) → va_S A s.heap H locs → lv_has ls 10 [(4, .int z9), (3, .int z6), (0, .ref (ad 0)), (1, .int p0), (2, .int p1)] → W p l e r_s_checkNeed s m ([.ref (ad 0), .int p0, .int p1] : List Value).toArray below meth c H locs 0 0 (MQ below (q_s_checkNeed D ks ad kk V L p0 p1 A) ([.ref (ad 0), .int p0, .int p1] : List Value).toArray s 0 0 A) (F0 m 41 ls [.int y15]) := by
    intro y15 H locs ls kJ14_0 hP hD hS hl
    refine lv_istore (lv' := [(5, .int y15), (4, .int z9), (3, .int z6), (0, .ref (ad 0)), (1, .int p0), (2, .int p1)]) hx hb dX12_checkNeed_41 hl (by decide) rfl (fun ls hl => ?_)
    refine lv_iload hx hb dX12_checkNeed_43 (lv_at hl 1 rfl) ?_
    refine lv_iconst (v := 1) hx hb dX12_checkNeed_45 (by decide) ?_
    have J16 : ∀ (y17 : Int32) (H : Heap) (locs : List Loc) (ls : Array Slot), 0 ≤ y17.toInt ∧ y17.toInt ≤ 1 → va_P D vwCl (mw ad kk ks.1 V12 L) H → va_D A (mw ad kk ks.1 V12 L) → va_S A s.heap H locs → lv_has ls 10 [(5, .int y15), (4, .int z9), (3, .int z6), (0, .ref (ad 0)), (1, .int p0), (2, .int p1)] → W p l e r_s_checkNeed s m ([.ref (ad 0), .int p0, .int p1] : List Value).toArray below meth c H locs 0 0 (MQ below (q_s_checkNeed D ks ad kk V L p0 p1 A) ([.ref (ad 0), .int p0, .int p1] : List Value).toArray s 0 0 A) (F0 m 63 ls [.int y17]) := by
      intro y17 H locs ls kJ16_0 hP hD hS hl
      refine lv_istore (lv' := [(6, .int y17), (5, .int y15), (4, .int z9), (3, .int z6), (0, .ref (ad 0)), (1, .int p0), (2, .int p1)]) hx hb dX12_checkNeed_63 hl (by decide) rfl (fun ls hl => ?_)
      refine lv_aload_n hx hb dX12_checkNeed_65 rfl (lv_at hl 4 rfl) ?_
      refine va_get (D := D) (ci := 12) (v := .ref (ad 86)) (C := RX12) (T := TX12) (N := 100) hx hb hg inX12 hown hK hP 0 rfl rfl 86 (by decide) (hg _ w1792) (fun _ h9 => h9) rfl dX12_checkNeed_66 ?_
      refine lv_bipush (v := 8) hx hb dX12_checkNeed_69 (by decide) ?_
      refine lv_iload_n hx hb dX12_checkNeed_71 rfl (lv_at hl 5 rfl) ?_
      refine lv_imul hx hb dX12_checkNeed_72 ?_
      refine lv_topi (fun z18 ez18 => ?_)
      have hz18 : z18.toInt = 8 * p0.toInt := i_mul ez18 (by decide) rfl (by omega)
      refine lv_iload_n hx hb dX12_checkNeed_73 rfl (lv_at hl 6 rfl) ?_
      refine lv_iadd hx hb dX12_checkNeed_74 ?_
      refine lv_topi (fun z19 ez19 => ?_)
      have hz19 : z19.toInt = z18.toInt + p1.toInt := i_add ez19 rfl rfl (by omega)
      refine lv_iload hx hb dX12_checkNeed_75 (lv_at hl 1 rfl) ?_
      have J20 : ∀ (y21 : Int32) (H : Heap) (locs : List Loc) (ls : Array Slot), 0 ≤ y21.toInt ∧ y21.toInt ≤ 1 → va_P D vwCl (mw ad kk ks.1 V12 L) H → va_D A (mw ad kk ks.1 V12 L) → va_S A s.heap H locs → lv_has ls 10 [(6, .int y17), (5, .int y15), (4, .int z9), (3, .int z6), (0, .ref (ad 0)), (1, .int p0), (2, .int p1)] → W p l e r_s_checkNeed s m ([.ref (ad 0), .int p0, .int p1] : List Value).toArray below meth c H locs 0 0 (MQ below (q_s_checkNeed D ks ad kk V L p0 p1 A) ([.ref (ad 0), .int p0, .int p1] : List Value).toArray s 0 0 A) (F0 m 90 ls [.int y21, .int z19, .ref (ad 86)]) := by
        intro y21 H locs ls kJ20_0 hP hD hS hl
        refine va_zast (D := D) (i := z19) (x := y21) hx hb hK hP hD hS 62 61 rfl rfl (i_in (a := z19.toInt) rfl (by first | omega | ((try (have i_y1 := Imp.go y1 (by omega))); omega))) dX12_checkNeed_90 (fun H locs hP hD hS => ?_)
        obtain ⟨V22, hV22⟩ : ∃ z, z = up2 V12 86 (Int32.toNatClampNeg z19) (vp_nar .boolean y21) := ⟨_, rfl⟩
        have hP : va_P D vwCl (mw ad kk ks.1 V22 L) H := by rw [hV22]; exact hP
        have hD : va_D A (mw ad kk ks.1 V22 L) := by rw [hV22]; exact hD
        have hMV22 : rgd bM V22 := hMV12.put hV22 (nar_b _)
        have agV22 : agr [(0, 81)] [80, 82, 83, 84, 86] V V22 := agV12.up hV22 rfl
        refine lv_iconst (v := 0) hx hb dX12_checkNeed_91 (by decide) ?_
        refine lv_istore (lv' := [(7, .int 0), (6, .int y17), (5, .int y15), (4, .int z9), (3, .int z6), (0, .ref (ad 0)), (1, .int p0), (2, .int p1)]) hx hb dX12_checkNeed_92 hl (by decide) rfl (fun ls hl => ?_)
        refine lv_iconst (v := 0) hx hb dX12_checkNeed_94 (by decide) ?_
        refine lv_istore (lv' := [(8, .int 0), (7, .int 0), (6, .int y17), (5, .int y15), (4, .int z9), (3, .int z6), (0, .ref (ad 0)), (1, .int p0), (2, .int p1)]) hx hb dX12_checkNeed_95 hl (by decide) rfl (fun ls hl => ?_)
        have lp25 : ∀ (fulp25 : Nat) (y23 : Int32) (y24 : Int32) (H : Heap) (locs : List Loc) (ls : Array Slot), 0 ≤ y23.toInt ∧ y23.toInt ≤ 24 → 0 ≤ y24.toInt ∧ y24.toInt ≤ 1 → y23.toInt ≤ z9.toInt → z9.toInt - y23.toInt < (fulp25 : Int) → va_P D vwCl (mw ad kk ks.1 V22 L) H → va_D A (mw ad kk ks.1 V22 L) → va_S A s.heap H locs → lv_has ls 10 [(8, .int y23), (7, .int y24), (6, .int y17), (5, .int y15), (4, .int z9), (3, .int z6), (0, .ref (ad 0)), (1, .int p0), (2, .int p1)] → W p l e r_s_checkNeed s m ([.ref (ad 0), .int p0, .int p1] : List Value).toArray below meth c H locs 0 0 (MQ below (q_s_checkNeed D ks ad kk V L p0 p1 A) ([.ref (ad 0), .int p0, .int p1] : List Value).toArray s 0 0 A) (F0 m 97 ls []) := by
          intro fulp25
          induction fulp25 with
          | zero =>
            intro y23 y24 H locs ls klp25_0 klp25_1 xlp25_0 hn  hP hD hS hl
            exfalso; omega
          | succ fulp25 ihlp25 =>
            intro y23 y24 H locs ls klp25_0 klp25_1 xlp25_0 hn  hP hD hS hl
            refine lv_iload hx hb dX12_checkNeed_97 (lv_at hl 0 rfl) ?_
            refine lv_iload hx hb dX12_checkNeed_99 (lv_at hl 4 rfl) ?_
            have J26 : ∀ (H : Heap) (locs : List Loc) (ls : Array Slot), va_P D vwCl (mw ad kk ks.1 V22 L) H → va_D A (mw ad kk ks.1 V22 L) → va_S A s.heap H locs → lv_has ls 10 [(8, .int y23), (7, .int y24), (6, .int y17), (5, .int y15), (4, .int z9), (3, .int z6), (0, .ref (ad 0)), (1, .int p0), (2, .int p1)] → W p l e r_s_checkNeed s m ([.ref (ad 0), .int p0, .int p1] : List Value).toArray below meth c H locs 0 0 (MQ below (q_s_checkNeed D ks ad kk V L p0 p1 A) ([.ref (ad 0), .int p0, .int p1] : List Value).toArray s 0 0 A) (F0 m 184 ls []) := by
              intro H locs ls  hP hD hS hl
              refine lv_iload hx hb dX12_checkNeed_184 (lv_at hl 3 rfl) ?_
              refine lv_if_ne (tgt := 199) hx hb dX12_checkNeed_186 (by decide) (fun c27 => ?_) (fun c27 => ?_)
              · skip
                have f28 : y15.toInt ≠ 0 := b_neq rfl (by decide) c27
                refine lv_aload_n hx hb dX12_checkNeed_199 rfl (lv_at hl 6 rfl) ?_
                refine lv_iload hx hb dX12_checkNeed_200 (lv_at hl 3 rfl) ?_
                refine lv_if_eq (tgt := 209) hx hb dX12_checkNeed_202 (by decide) (fun c29 => ?_) (fun c29 => ?_)
                · skip
                  have f30 : y15.toInt = 0 := b_eq rfl (by decide) c29
                  exfalso; first | omega | ((try (have i_y1 := Imp.go y1 (by omega))); omega)
                · skip
                  have f31 : y15.toInt ≠ 0 := b_neq rfl (by decide) c29
                  refine lv_iconst (v := 1) hx hb dX12_checkNeed_205 (by decide) ?_
                  refine lv_goto (tgt := 219) hx hb dX12_checkNeed_206 (by decide) ?_
                  refine lv_iload_n hx hb dX12_checkNeed_219 rfl (lv_at hl 7 rfl) ?_
                  refine lv_iload_n hx hb dX12_checkNeed_220 rfl (lv_at hl 8 rfl) ?_
                  have r32 : Int32.toInt 1 = 1 := by decide
                  have pq33 : (V22 0 81).toInt = ((V 0 81)).toInt := congrArg Int32.toInt ((up2_o hV22 (by decide)).trans (ajV12 0 81 rfl))
                  refine gA_void (gA_runV (As := [.int 1, .int p0, .int p1]) (rest := []) (ci := 12) (q0 := 0) hx hb hml hown hg hP hD hK hS hA hnw hgk (s_addFault l D ks H.size ad kk V22 L 1 p0 p1 hMV22 (by first | omega | ((try (have i_y1 := Imp.go y1 (by omega))); omega)) (show (V22 0 81).toInt ≤ 999999 from by first | omega | ((try (have i_y1 := Imp.go y1 (by omega))); omega))) w2183 w2185 w121 w172 w2186 rfl rfl hdV_yX12_addFault ⟨Nat.le_of_ble_eq_true rfl, Nat.le_of_ble_eq_true rfl⟩ rfl hl.1 rfl (Nat.le_of_ble_eq_true rfl) dX12_checkNeed_221 ⟨Nat.le_of_ble_eq_true rfl, Nat.le_of_ble_eq_true rfl⟩) hP hD hK hS hA (fun u35 H locs w36 hP hD hK hS => ?_)
                  obtain ⟨V38, L39⟩ := u35
                  obtain ⟨hMV38, ajV38, axL39, t37⟩ := w36
                  have axL39 : L = L39 := Eq.symm axL39
                  subst axL39
                  have hP : va_P D vwCl (mw ad kk ks.1 V38 L) H := hP
                  have hD : va_D A (mw ad kk ks.1 V38 L) := hD
                  have hMV38 : rgd bM V38 := hMV38
                  have ajV38 : agr [(0, 81)] [82, 83, 84] V22 V38 := ajV38
                  have agV38 : agr [(0, 81)] [80, 82, 83, 84, 86] V V38 := agV22.tr ajV38 (by decide) (by decide)
                  have t37 : (V38 0 81).toInt = (V22 0 81).toInt + 1 := t37
                  have r40 : 0 ≤ ((V38 0 81)).toInt ∧ ((V38 0 81)).toInt ≤ 1000000 := hMV38 0 81
                  exact W.vret hx hb hr (fun t ht hW => ⟨⟨(V38, L), rfl, ⟨hMV38, agV38, rfl, (show (V38 0 81).toInt ≤ (V 0 81).toInt + 1 from by first | omega | ((try (have i_y1 := Imp.go y1 (by omega))); omega)), (show (V 0 81).toInt ≤ (V38 0 81).toInt from by first | omega | ((try (have i_y1 := Imp.go y1 (by omega))); omega))⟩, by rw [ht]; exact hP, va_K.moved hW.alike hK, hD⟩, hS.F ht⟩) hS.2.2 dX12_checkNeed_224
              · skip
                have f41 : y15.toInt = 0 := b_eq rfl (by decide) c27
                refine lv_iload hx hb dX12_checkNeed_189 (lv_at hl 2 rfl) ?_
                refine lv_if_ne (tgt := 199) hx hb dX12_checkNeed_191 (by decide) (fun c42 => ?_) (fun c42 => ?_)
                · skip
                  have f43 : y17.toInt ≠ 0 := b_neq rfl (by decide) c42
                  refine lv_aload_n hx hb dX12_checkNeed_199 rfl (lv_at hl 6 rfl) ?_
                  refine lv_iload hx hb dX12_checkNeed_200 (lv_at hl 3 rfl) ?_
                  refine lv_if_eq (tgt := 209) hx hb dX12_checkNeed_202 (by decide) (fun c44 => ?_) (fun c44 => ?_)
                  · skip
                    have f45 : y15.toInt = 0 := b_eq rfl (by decide) c44
                    refine lv_iload hx hb dX12_checkNeed_209 (lv_at hl 2 rfl) ?_
                    refine lv_if_eq (tgt := 218) hx hb dX12_checkNeed_211 (by decide) (fun c46 => ?_) (fun c46 => ?_)
                    · skip
                      have f47 : y17.toInt = 0 := b_eq rfl (by decide) c46
                      exfalso; first | omega | ((try (have i_y1 := Imp.go y1 (by omega))); omega)
                    · skip
                      have f48 : y17.toInt ≠ 0 := b_neq rfl (by decide) c46
                      refine lv_iconst (v := 2) hx hb dX12_checkNeed_214 (by decide) ?_
                      refine lv_goto (tgt := 219) hx hb dX12_checkNeed_215 (by decide) ?_
                      refine lv_iload_n hx hb dX12_checkNeed_219 rfl (lv_at hl 7 rfl) ?_
                      refine lv_iload_n hx hb dX12_checkNeed_220 rfl (lv_at hl 8 rfl) ?_
                      have r49 : Int32.toInt 2 = 2 := by decide
                      have pq50 : (V22 0 81).toInt = ((V 0 81)).toInt := congrArg Int32.toInt ((up2_o hV22 (by decide)).trans (ajV12 0 81 rfl))
                      refine gA_void (gA_runV (As := [.int 2, .int p0, .int p1]) (rest := []) (ci := 12) (q0 := 0) hx hb hml hown hg hP hD hK hS hA hnw hgk (s_addFault l D ks H.size ad kk V22 L 2 p0 p1 hMV22 (by first | omega | ((try (have i_y1 := Imp.go y1 (by omega))); omega)) (show (V22 0 81).toInt ≤ 999999 from by first | omega | ((try (have i_y1 := Imp.go y1 (by omega))); omega))) w2183 w2185 w121 w172 w2186 rfl rfl hdV_yX12_addFault ⟨Nat.le_of_ble_eq_true rfl, Nat.le_of_ble_eq_true rfl⟩ rfl hl.1 rfl (Nat.le_of_ble_eq_true rfl) dX12_checkNeed_221 ⟨Nat.le_of_ble_eq_true rfl, Nat.le_of_ble_eq_true rfl⟩) hP hD hK hS hA (fun u52 H locs w53 hP hD hK hS => ?_)
                      obtain ⟨V55, L56⟩ := u52
                      obtain ⟨hMV55, ajV55, axL56, t54⟩ := w53
                      have axL56 : L = L56 := Eq.symm axL56
                      subst axL56
                      have hP : va_P D vwCl (mw ad kk ks.1 V55 L) H := hP
                      have hD : va_D A (mw ad kk ks.1 V55 L) := hD
                      have hMV55 : rgd bM V55 := hMV55
                      have ajV55 : agr [(0, 81)] [82, 83, 84] V22 V55 := ajV55
                      have agV55 : agr [(0, 81)] [80, 82, 83, 84, 86] V V55 := agV22.tr ajV55 (by decide) (by decide)
                      have t54 : (V55 0 81).toInt = (V22 0 81).toInt + 1 := t54
                      have r57 : 0 ≤ ((V55 0 81)).toInt ∧ ((V55 0 81)).toInt ≤ 1000000 := hMV55 0 81
                      exact W.vret hx hb hr (fun t ht hW => ⟨⟨(V55, L), rfl, ⟨hMV55, agV55, rfl, (show (V55 0 81).toInt ≤ (V 0 81).toInt + 1 from by first | omega | ((try (have i_y1 := Imp.go y1 (by omega))); omega)), (show (V 0 81).toInt ≤ (V55 0 81).toInt from by first | omega | ((try (have i_y1 := Imp.go y1 (by omega))); omega))⟩, by rw [ht]; exact hP, va_K.moved hW.alike hK, hD⟩, hS.F ht⟩) hS.2.2 dX12_checkNeed_224
                  · skip
                    have f58 : y15.toInt ≠ 0 := b_neq rfl (by decide) c44
                    exfalso; first | omega | ((try (have i_y1 := Imp.go y1 (by omega))); omega)
                · skip
                  have f59 : y17.toInt = 0 := b_eq rfl (by decide) c42
                  refine lv_iload hx hb dX12_checkNeed_194 (lv_at hl 1 rfl) ?_
                  refine lv_if_eq (tgt := 224) hx hb dX12_checkNeed_196 (by decide) (fun c60 => ?_) (fun c60 => ?_)
                  · skip
                    have f61 : y24.toInt = 0 := b_eq rfl (by decide) c60
                    have pq62 : (V22 0 81).toInt = ((V 0 81)).toInt := congrArg Int32.toInt ((up2_o hV22 (by decide)).trans (ajV12 0 81 rfl))
                    exact W.vret hx hb hr (fun t ht hW => ⟨⟨(V22, L), rfl, ⟨hMV22, agV22, rfl, (show (V22 0 81).toInt ≤ (V 0 81).toInt + 1 from by first | omega | ((try (have i_y1 := Imp.go y1 (by omega))); omega)), (show (V 0 81).toInt ≤ (V22 0 81).toInt from by first | omega | ((try (have i_y1 := Imp.go y1 (by omega))); omega))⟩, by rw [ht]; exact hP, va_K.moved hW.alike hK, hD⟩, hS.F ht⟩) hS.2.2 dX12_checkNeed_224
                  · skip
                    have f63 : y24.toInt ≠ 0 := b_neq rfl (by decide) c60
                    refine lv_aload_n hx hb dX12_checkNeed_199 rfl (lv_at hl 6 rfl) ?_
                    refine lv_iload hx hb dX12_checkNeed_200 (lv_at hl 3 rfl) ?_
                    refine lv_if_eq (tgt := 209) hx hb dX12_checkNeed_202 (by decide) (fun c64 => ?_) (fun c64 => ?_)
                    · skip
                      have f65 : y15.toInt = 0 := b_eq rfl (by decide) c64
                      refine lv_iload hx hb dX12_checkNeed_209 (lv_at hl 2 rfl) ?_
                      refine lv_if_eq (tgt := 218) hx hb dX12_checkNeed_211 (by decide) (fun c66 => ?_) (fun c66 => ?_)
                      · skip
                        have f67 : y17.toInt = 0 := b_eq rfl (by decide) c66
                        refine lv_iconst (v := 4) hx hb dX12_checkNeed_218 (by decide) ?_
                        refine lv_iload_n hx hb dX12_checkNeed_219 rfl (lv_at hl 7 rfl) ?_
                        refine lv_iload_n hx hb dX12_checkNeed_220 rfl (lv_at hl 8 rfl) ?_
                        have r68 : Int32.toInt 4 = 4 := by decide
                        have pq69 : (V22 0 81).toInt = ((V 0 81)).toInt := congrArg Int32.toInt ((up2_o hV22 (by decide)).trans (ajV12 0 81 rfl))
                        refine gA_void (gA_runV (As := [.int 4, .int p0, .int p1]) (rest := []) (ci := 12) (q0 := 0) hx hb hml hown hg hP hD hK hS hA hnw hgk (s_addFault l D ks H.size ad kk V22 L 4 p0 p1 hMV22 (by first | omega | ((try (have i_y1 := Imp.go y1 (by omega))); omega)) (show (V22 0 81).toInt ≤ 999999 from by first | omega | ((try (have i_y1 := Imp.go y1 (by omega))); omega))) w2183 w2185 w121 w172 w2186 rfl rfl hdV_yX12_addFault ⟨Nat.le_of_ble_eq_true rfl, Nat.le_of_ble_eq_true rfl⟩ rfl hl.1 rfl (Nat.le_of_ble_eq_true rfl) dX12_checkNeed_221 ⟨Nat.le_of_ble_eq_true rfl, Nat.le_of_ble_eq_true rfl⟩) hP hD hK hS hA (fun u71 H locs w72 hP hD hK hS => ?_)
                        obtain ⟨V74, L75⟩ := u71
                        obtain ⟨hMV74, ajV74, axL75, t73⟩ := w72
                        have axL75 : L = L75 := Eq.symm axL75
                        subst axL75
                        have hP : va_P D vwCl (mw ad kk ks.1 V74 L) H := hP
                        have hD : va_D A (mw ad kk ks.1 V74 L) := hD
                        have hMV74 : rgd bM V74 := hMV74
                        have ajV74 : agr [(0, 81)] [82, 83, 84] V22 V74 := ajV74
                        have agV74 : agr [(0, 81)] [80, 82, 83, 84, 86] V V74 := agV22.tr ajV74 (by decide) (by decide)
                        have t73 : (V74 0 81).toInt = (V22 0 81).toInt + 1 := t73
                        have r76 : 0 ≤ ((V74 0 81)).toInt ∧ ((V74 0 81)).toInt ≤ 1000000 := hMV74 0 81
                        exact W.vret hx hb hr (fun t ht hW => ⟨⟨(V74, L), rfl, ⟨hMV74, agV74, rfl, (show (V74 0 81).toInt ≤ (V 0 81).toInt + 1 from by first | omega | ((try (have i_y1 := Imp.go y1 (by omega))); omega)), (show (V 0 81).toInt ≤ (V74 0 81).toInt from by first | omega | ((try (have i_y1 := Imp.go y1 (by omega))); omega))⟩, by rw [ht]; exact hP, va_K.moved hW.alike hK, hD⟩, hS.F ht⟩) hS.2.2 dX12_checkNeed_224
                      · skip
                        have f77 : y17.toInt ≠ 0 := b_neq rfl (by decide) c66
                        exfalso; first | omega | ((try (have i_y1 := Imp.go y1 (by omega))); omega)
                    · skip
                      have f78 : y15.toInt ≠ 0 := b_neq rfl (by decide) c64
                      exfalso; first | omega | ((try (have i_y1 := Imp.go y1 (by omega))); omega)
            refine lv_icmp_ge (tgt := 184) hx hb dX12_checkNeed_101 (by decide) (fun c79 => ?_) (fun c79 => ?_)
            · skip
              have f80 : z9.toInt ≤ y23.toInt := b_le rfl rfl c79
              exact J26  H locs ls  hP hD hS (lv_sub hl [0, 1, 2, 3, 4, 5, 6, 7, 8] rfl)
            · skip
              have f81 : y23.toInt < z9.toInt := b_nle rfl rfl c79
              refine lv_aload_n hx hb dX12_checkNeed_104 rfl (lv_at hl 6 rfl) ?_
              refine va_get (D := D) (ci := 12) (v := .ref (ad 29)) (C := RX12) (T := TX12) (N := 100) hx hb hg inX12 hown hK hP 0 rfl rfl 29 (by decide) (hg _ w1735) (fun _ h9 => h9) rfl dX12_checkNeed_105 ?_
              refine lv_iload_n hx hb dX12_checkNeed_108 rfl (lv_at hl 5 rfl) ?_
              refine va_zald (D := D) (i := z6) hx hb hK hP 22 21 rfl rfl (i_in (a := z6.toInt) rfl (by first | omega | ((try (have i_y1 := Imp.go y1 (by omega))); omega))) dX12_checkNeed_109 ?_
              refine g_top (v := (V 29 (Int32.toNatClampNeg z6))) ((up2_o hV22 (by decide)).trans (ajV12 29 (Int32.toNatClampNeg z6) rfl)) ?_
              have r82 : 0 ≤ ((V 29 (Int32.toNatClampNeg z6))).toInt ∧ ((V 29 (Int32.toNatClampNeg z6))).toInt ≤ 1 := hMV 29 (Int32.toNatClampNeg z6)
              refine lv_if_ne (tgt := 184) hx hb dX12_checkNeed_110 (by decide) (fun c83 => ?_) (fun c83 => ?_)
              · skip
                have f84 : ((V 29 (Int32.toNatClampNeg z6))).toInt ≠ 0 := b_neq rfl (by decide) c83
                exact J26  H locs ls  hP hD hS (lv_sub hl [0, 1, 2, 3, 4, 5, 6, 7, 8] rfl)
              · skip
                have f85 : ((V 29 (Int32.toNatClampNeg z6))).toInt = 0 := b_eq rfl (by decide) c83
                refine lv_aload_n hx hb dX12_checkNeed_113 rfl (lv_at hl 6 rfl) ?_
                refine va_get (D := D) (ci := 12) (v := .ref (ad 22)) (C := RX12) (T := TX12) (N := 100) hx hb hg inX12 hown hK hP 0 rfl rfl 22 (by decide) (hg _ w1728) (fun _ h9 => h9) rfl dX12_checkNeed_114 ?_
                refine lv_bipush (v := 24) hx hb dX12_checkNeed_117 (by decide) ?_
                refine lv_aload_n hx hb dX12_checkNeed_119 rfl (lv_at hl 6 rfl) ?_
                refine va_get (D := D) (ci := 12) (v := .int (V22 0 11)) (C := RX12) (T := TX12) (N := 100) hx hb hg inX12 hown hK hP 0 rfl rfl 11 (by decide) (hg _ w1717) (fun _ h9 => h9) rfl dX12_checkNeed_120 ?_
                refine g_top (v := (V 0 11)) ((up2_o hV22 (by decide)).trans (ajV12 0 11 rfl)) ?_
                refine lv_imul hx hb dX12_checkNeed_123 ?_
                refine lv_topi (fun z86 ez86 => ?_)
                have hz86 : z86.toInt = 24 * ((V 0 11)).toInt := i_mul ez86 (by decide) rfl (by omega)
                refine lv_aload_n hx hb dX12_checkNeed_124 rfl (lv_at hl 6 rfl) ?_
                refine va_get (D := D) (ci := 12) (v := .ref (ad 80)) (C := RX12) (T := TX12) (N := 100) hx hb hg inX12 hown hK hP 0 rfl rfl 80 (by decide) (hg _ w1786) (fun _ h9 => h9) rfl dX12_checkNeed_125 ?_
                refine lv_iload hx hb dX12_checkNeed_128 (lv_at hl 0 rfl) ?_
                refine va_iald (D := D) (i := y23) hx hb hK hP 57 56 rfl rfl (i_in (a := y23.toInt) rfl (by first | omega | ((try (have i_y1 := Imp.go y1 (by omega))); omega))) dX12_checkNeed_130 ?_
                refine g_top (v := (V12 80 (Int32.toNatClampNeg y23))) (up2_o hV22 (by decide)) ?_
                have r87 : 0 ≤ ((V12 80 (Int32.toNatClampNeg y23))).toInt ∧ ((V12 80 (Int32.toNatClampNeg y23))).toInt ≤ 23 := hMV12 80 (Int32.toNatClampNeg y23)
                refine lv_iadd hx hb dX12_checkNeed_131 ?_
                refine lv_topi (fun z88 ez88 => ?_)
                have hz88 : z88.toInt = z86.toInt + ((V12 80 (Int32.toNatClampNeg y23))).toInt := i_add ez88 rfl rfl (by omega)
                refine va_iald (D := D) (i := z88) hx hb hK hP 15 14 rfl rfl (i_in (a := z88.toInt) rfl (by first | omega | ((try (have i_y1 := Imp.go y1 (by omega))); omega))) dX12_checkNeed_132 ?_
                refine g_top (v := (V 22 (Int32.toNatClampNeg z88))) ((up2_o hV22 (by decide)).trans (ajV12 22 (Int32.toNatClampNeg z88) rfl)) ?_
                refine lv_istore (lv' := [(9, .int (V 22 (Int32.toNatClampNeg z88))), (8, .int y23), (7, .int y24), (6, .int y17), (5, .int y15), (4, .int z9), (3, .int z6), (0, .ref (ad 0)), (1, .int p0), (2, .int p1)]) hx hb dX12_checkNeed_133 hl (by decide) rfl (fun ls hl => ?_)
                refine lv_iload hx hb dX12_checkNeed_135 (lv_at hl 2 rfl) ?_
                refine lv_if_ne (tgt := 171) hx hb dX12_checkNeed_137 (by decide) (fun c89 => ?_) (fun c89 => ?_)
                · skip
                  have f90 : y24.toInt ≠ 0 := b_neq rfl (by decide) c89
                  refine lv_iconst (v := 1) hx hb dX12_checkNeed_171 (by decide) ?_
                  refine lv_goto (tgt := 176) hx hb dX12_checkNeed_172 (by decide) ?_
                  refine lv_istore (lv' := [(7, .int 1), (9, .int (V 22 (Int32.toNatClampNeg z88))), (8, .int y23), (6, .int y17), (5, .int y15), (4, .int z9), (3, .int z6), (0, .ref (ad 0)), (1, .int p0), (2, .int p1)]) hx hb dX12_checkNeed_176 hl (by decide) rfl (fun ls hl => ?_)
                  obtain ⟨z91, ez91⟩ : ∃ y : Int32, y = y23 + 1 := ⟨_, rfl⟩
                  have hz91 : z91.toInt = y23.toInt + 1 := i_add ez91 rfl (by decide) (by omega)
                  refine lv_iinc (v := z91) (lv' := [(8, .int z91), (7, .int 1), (9, .int (V 22 (Int32.toNatClampNeg z88))), (6, .int y17), (5, .int y15), (4, .int z9), (3, .int z6), (0, .ref (ad 0)), (1, .int p0), (2, .int p1)]) hx hb dX12_checkNeed_178 hl (k := 2) rfl (by rw [ez91]; rfl) (by decide) rfl (fun ls hl => ?_)
                  refine lv_goto (tgt := 97) hx hb dX12_checkNeed_181 (by decide) ?_
                  have r92 : Int32.toInt 1 = 1 := by decide
                  exact ihlp25 z91 1 H locs ls (by first | omega | ((try (have i_y1 := Imp.go y1 (by omega))); omega)) (by decide) (show z91.toInt ≤ z9.toInt from by first | omega | ((try (have i_y1 := Imp.go y1 (by omega))); omega)) (by first | omega | ((try (have i_y1 := Imp.go y1 (by omega))); omega)) hP hD hS (lv_sub hl [0, 1, 3, 4, 5, 6, 7, 8, 9] rfl)
                · skip
                  have f93 : y24.toInt = 0 := b_eq rfl (by decide) c89
                  refine lv_iload hx hb dX12_checkNeed_140 (lv_at hl 0 rfl) ?_
                  refine lv_iconst (v := 3) hx hb dX12_checkNeed_142 (by decide) ?_
                  refine lv_icmp_eq (tgt := 175) hx hb dX12_checkNeed_143 (by decide) (fun c94 => ?_) (fun c94 => ?_)
                  · skip
                    have f95 : ((V 22 (Int32.toNatClampNeg z88))).toInt = 3 := b_eq rfl (by decide) c94
                    refine lv_iconst (v := 0) hx hb dX12_checkNeed_175 (by decide) ?_
                    refine lv_istore (lv' := [(7, .int 0), (9, .int (V 22 (Int32.toNatClampNeg z88))), (8, .int y23), (6, .int y17), (5, .int y15), (4, .int z9), (3, .int z6), (0, .ref (ad 0)), (1, .int p0), (2, .int p1)]) hx hb dX12_checkNeed_176 hl (by decide) rfl (fun ls hl => ?_)
                    obtain ⟨z96, ez96⟩ : ∃ y : Int32, y = y23 + 1 := ⟨_, rfl⟩
                    have hz96 : z96.toInt = y23.toInt + 1 := i_add ez96 rfl (by decide) (by omega)
                    refine lv_iinc (v := z96) (lv' := [(8, .int z96), (7, .int 0), (9, .int (V 22 (Int32.toNatClampNeg z88))), (6, .int y17), (5, .int y15), (4, .int z9), (3, .int z6), (0, .ref (ad 0)), (1, .int p0), (2, .int p1)]) hx hb dX12_checkNeed_178 hl (k := 2) rfl (by rw [ez96]; rfl) (by decide) rfl (fun ls hl => ?_)
                    refine lv_goto (tgt := 97) hx hb dX12_checkNeed_181 (by decide) ?_
                    have r97 : Int32.toInt 0 = 0 := by decide
                    exact ihlp25 z96 0 H locs ls (by first | omega | ((try (have i_y1 := Imp.go y1 (by omega))); omega)) (by decide) (show z96.toInt ≤ z9.toInt from by first | omega | ((try (have i_y1 := Imp.go y1 (by omega))); omega)) (by first | omega | ((try (have i_y1 := Imp.go y1 (by omega))); omega)) hP hD hS (lv_sub hl [0, 1, 3, 4, 5, 6, 7, 8, 9] rfl)
                  · skip
                    have f98 : ((V 22 (Int32.toNatClampNeg z88))).toInt ≠ 3 := b_neq rfl (by decide) c94
                    refine lv_iload hx hb dX12_checkNeed_146 (lv_at hl 0 rfl) ?_
                    refine gE_int (g_runS (As := [.int (V 22 (Int32.toNatClampNeg z88))]) (rest := []) (wc := []) (tc := []) hx hb hml hown hg gw_self hP hD hK hS hA hnw hgk [] [] (by decide) rfl rfl (s_longness l D ks H.size (V 22 (Int32.toNatClampNeg z88)) ) w2180 w2181 w172 w2182 hdS_yX12_longness ⟨Nat.le_of_ble_eq_true rfl, Nat.le_of_ble_eq_true rfl⟩ rfl hl.1 rfl (Nat.le_of_ble_eq_true rfl) dX12_checkNeed_148 ⟨Nat.le_of_ble_eq_true rfl, Nat.le_of_ble_eq_true rfl⟩) hP hD hK hS hA (fun z99 u100 H locs w101 hP hD hK hS => ?_)
                    refine lv_aload_n hx hb dX12_checkNeed_151 rfl (lv_at hl 7 rfl) ?_
                    refine va_get (D := D) (ci := 12) (v := .ref (ad 22)) (C := RX12) (T := TX12) (N := 100) hx hb hg inX12 hown hK hP 0 rfl rfl 22 (by decide) (hg _ w1728) (fun _ h9 => h9) rfl dX12_checkNeed_152 ?_
                    refine lv_bipush (v := 24) hx hb dX12_checkNeed_155 (by decide) ?_
                    refine lv_aload_n hx hb dX12_checkNeed_157 rfl (lv_at hl 7 rfl) ?_
                    refine va_get (D := D) (ci := 12) (v := .int (V22 0 11)) (C := RX12) (T := TX12) (N := 100) hx hb hg inX12 hown hK hP 0 rfl rfl 11 (by decide) (hg _ w1717) (fun _ h9 => h9) rfl dX12_checkNeed_158 ?_
                    refine g_top (v := (V 0 11)) ((up2_o hV22 (by decide)).trans (ajV12 0 11 rfl)) ?_
                    refine lv_imul hx hb dX12_checkNeed_161 ?_
                    refine lv_topi (fun z102 ez102 => ?_)
                    have hz102 : z102.toInt = 24 * ((V 0 11)).toInt := i_mul ez102 (by decide) rfl (by omega)
                    refine lv_iload_n hx hb dX12_checkNeed_162 rfl (lv_at hl 8 rfl) ?_
                    refine lv_iadd hx hb dX12_checkNeed_163 ?_
                    refine lv_topi (fun z103 ez103 => ?_)
                    have hz103 : z103.toInt = z102.toInt + p0.toInt := i_add ez103 rfl rfl (by omega)
                    refine va_iald (D := D) (i := z103) hx hb hK hP 15 14 rfl rfl (i_in (a := z103.toInt) rfl (by first | omega | ((try (have i_y1 := Imp.go y1 (by omega))); omega))) dX12_checkNeed_164 ?_
                    refine g_top (v := (V 22 (Int32.toNatClampNeg z103))) ((up2_o hV22 (by decide)).trans (ajV12 22 (Int32.toNatClampNeg z103) rfl)) ?_
                    refine gE_int (g_runS (As := [.int (V 22 (Int32.toNatClampNeg z103))]) (rest := [.int z99]) (wc := []) (tc := []) hx hb hml hown hg gw_self hP hD hK hS hA hnw hgk [] [] (by decide) rfl rfl (s_longness l D ks H.size (V 22 (Int32.toNatClampNeg z103)) ) w2180 w2181 w172 w2182 hdS_yX12_longness ⟨Nat.le_of_ble_eq_true rfl, Nat.le_of_ble_eq_true rfl⟩ rfl hl.1 rfl (Nat.le_of_ble_eq_true rfl) dX12_checkNeed_165 ⟨Nat.le_of_ble_eq_true rfl, Nat.le_of_ble_eq_true rfl⟩) hP hD hK hS hA (fun z104 u105 H locs w106 hP hD hK hS => ?_)
                    refine lv_icmp_ge (tgt := 175) hx hb dX12_checkNeed_168 (by decide) (fun c107 => ?_) (fun c107 => ?_)
                    · skip
                      have f108 : z104.toInt ≤ z99.toInt := b_le rfl rfl c107
                      refine lv_iconst (v := 0) hx hb dX12_checkNeed_175 (by decide) ?_
                      refine lv_istore (lv' := [(7, .int 0), (9, .int (V 22 (Int32.toNatClampNeg z88))), (8, .int y23), (6, .int y17), (5, .int y15), (4, .int z9), (3, .int z6), (0, .ref (ad 0)), (1, .int p0), (2, .int p1)]) hx hb dX12_checkNeed_176 hl (by decide) rfl (fun ls hl => ?_)
                      obtain ⟨z109, ez109⟩ : ∃ y : Int32, y = y23 + 1 := ⟨_, rfl⟩
                      have hz109 : z109.toInt = y23.toInt + 1 := i_add ez109 rfl (by decide) (by omega)
                      refine lv_iinc (v := z109) (lv' := [(8, .int z109), (7, .int 0), (9, .int (V 22 (Int32.toNatClampNeg z88))), (6, .int y17), (5, .int y15), (4, .int z9), (3, .int z6), (0, .ref (ad 0)), (1, .int p0), (2, .int p1)]) hx hb dX12_checkNeed_178 hl (k := 2) rfl (by rw [ez109]; rfl) (by decide) rfl (fun ls hl => ?_)
                      refine lv_goto (tgt := 97) hx hb dX12_checkNeed_181 (by decide) ?_
                      have r110 : Int32.toInt 0 = 0 := by decide
                      exact ihlp25 z109 0 H locs ls (by first | omega | ((try (have i_y1 := Imp.go y1 (by omega))); omega)) (by decide) (show z109.toInt ≤ z9.toInt from by first | omega | ((try (have i_y1 := Imp.go y1 (by omega))); omega)) (by first | omega | ((try (have i_y1 := Imp.go y1 (by omega))); omega)) hP hD hS (lv_sub hl [0, 1, 3, 4, 5, 6, 7, 8, 9] rfl)
                    · skip
                      have f111 : z99.toInt < z104.toInt := b_nle rfl rfl c107
                      refine lv_iconst (v := 1) hx hb dX12_checkNeed_171 (by decide) ?_
                      refine lv_goto (tgt := 176) hx hb dX12_checkNeed_172 (by decide) ?_
                      refine lv_istore (lv' := [(7, .int 1), (9, .int (V 22 (Int32.toNatClampNeg z88))), (8, .int y23), (6, .int y17), (5, .int y15), (4, .int z9), (3, .int z6), (0, .ref (ad 0)), (1, .int p0), (2, .int p1)]) hx hb dX12_checkNeed_176 hl (by decide) rfl (fun ls hl => ?_)
                      obtain ⟨z112, ez112⟩ : ∃ y : Int32, y = y23 + 1 := ⟨_, rfl⟩
                      have hz112 : z112.toInt = y23.toInt + 1 := i_add ez112 rfl (by decide) (by omega)
                      refine lv_iinc (v := z112) (lv' := [(8, .int z112), (7, .int 1), (9, .int (V 22 (Int32.toNatClampNeg z88))), (6, .int y17), (5, .int y15), (4, .int z9), (3, .int z6), (0, .ref (ad 0)), (1, .int p0), (2, .int p1)]) hx hb dX12_checkNeed_178 hl (k := 2) rfl (by rw [ez112]; rfl) (by decide) rfl (fun ls hl => ?_)
                      refine lv_goto (tgt := 97) hx hb dX12_checkNeed_181 (by decide) ?_
                      have r113 : Int32.toInt 1 = 1 := by decide
                      exact ihlp25 z112 1 H locs ls (by first | omega | ((try (have i_y1 := Imp.go y1 (by omega))); omega)) (by decide) (show z112.toInt ≤ z9.toInt from by first | omega | ((try (have i_y1 := Imp.go y1 (by omega))); omega)) (by first | omega | ((try (have i_y1 := Imp.go y1 (by omega))); omega)) hP hD hS (lv_sub hl [0, 1, 3, 4, 5, 6, 7, 8, 9] rfl)
        have r114 : Int32.toInt 0 = 0 := by decide
        exact lp25 ((z9.toInt - (Int32.toInt 0) + 1 : Int).toNat) 0 0 H locs ls (by decide) (by decide) (show (Int32.toInt 0) ≤ z9.toInt from by first | omega | ((try (have i_y1 := Imp.go y1 (by omega))); omega)) (by first | omega | ((try (have i_y1 := Imp.go y1 (by omega))); omega)) hP hD hS (lv_sub hl [0, 1, 2, 3, 4, 5, 6, 7, 8] rfl)
      refine lv_if_ne (tgt := 85) hx hb dX12_checkNeed_77 (by decide) (fun c115 => ?_) (fun c115 => ?_)
      · skip
        have f116 : y15.toInt ≠ 0 := b_neq rfl (by decide) c115
        refine lv_iconst (v := 1) hx hb dX12_checkNeed_85 (by decide) ?_
        refine lv_goto (tgt := 90) hx hb dX12_checkNeed_86 (by decide) ?_
        have r117 : Int32.toInt 1 = 1 := by decide
        exact J20 1 H locs ls (by decide) hP hD hS (lv_sub hl [0, 1, 2, 3, 4, 5, 6] rfl)
      · skip
        have f118 : y15.toInt = 0 := b_eq rfl (by decide) c115
        refine lv_iload hx hb dX12_checkNeed_80 (lv_at hl 0 rfl) ?_
        refine lv_if_eq (tgt := 89) hx hb dX12_checkNeed_82 (by decide) (fun c119 => ?_) (fun c119 => ?_)
        · skip
          have f120 : y17.toInt = 0 := b_eq rfl (by decide) c119
          refine lv_iconst (v := 0) hx hb dX12_checkNeed_89 (by decide) ?_
          have r121 : Int32.toInt 0 = 0 := by decide
          exact J20 0 H locs ls (by decide) hP hD hS (lv_sub hl [0, 1, 2, 3, 4, 5, 6] rfl)
        · skip
          have f122 : y17.toInt ≠ 0 := b_neq rfl (by decide) c119
          refine lv_iconst (v := 1) hx hb dX12_checkNeed_85 (by decide) ?_
          refine lv_goto (tgt := 90) hx hb dX12_checkNeed_86 (by decide) ?_
          have r123 : Int32.toInt 1 = 1 := by decide
          exact J20 1 H locs ls (by decide) hP hD hS (lv_sub hl [0, 1, 2, 3, 4, 5, 6] rfl)
    refine lv_icmp_le (tgt := 62) hx hb dX12_checkNeed_46 (by decide) (fun c124 => ?_) (fun c124 => ?_)
    · skip
      have f125 : z9.toInt ≤ 1 := b_le rfl (by decide) c124
      refine lv_iconst (v := 0) hx hb dX12_checkNeed_62 (by decide) ?_
      have r126 : Int32.toInt 0 = 0 := by decide
      exact J16 0 H locs ls (by decide) hP hD hS (lv_sub hl [0, 1, 2, 3, 4, 5] rfl)
    · skip
      have f127 : 1 < z9.toInt := b_nle rfl (by decide) c124
      refine lv_aload_n hx hb dX12_checkNeed_49 rfl (lv_at hl 3 rfl) ?_
      refine va_get (D := D) (ci := 12) (v := .ref (ad 30)) (C := RX12) (T := TX12) (N := 100) hx hb hg inX12 hown hK hP 0 rfl rfl 30 (by decide) (hg _ w1736) (fun _ h9 => h9) rfl dX12_checkNeed_50 ?_
      refine lv_iload_n hx hb dX12_checkNeed_53 rfl (lv_at hl 2 rfl) ?_
      refine va_zald (D := D) (i := z6) hx hb hK hP 23 22 rfl rfl (i_in (a := z6.toInt) rfl (by first | omega | ((try (have i_y1 := Imp.go y1 (by omega))); omega))) dX12_checkNeed_54 ?_
      refine g_top (v := (V 30 (Int32.toNatClampNeg z6))) (ajV12 30 (Int32.toNatClampNeg z6) rfl) ?_
      have r128 : 0 ≤ ((V 30 (Int32.toNatClampNeg z6))).toInt ∧ ((V 30 (Int32.toNatClampNeg z6))).toInt ≤ 1 := hMV 30 (Int32.toNatClampNeg z6)
      refine lv_if_ne (tgt := 62) hx hb dX12_checkNeed_55 (by decide) (fun c129 => ?_) (fun c129 => ?_)
      · skip
        have f130 : ((V 30 (Int32.toNatClampNeg z6))).toInt ≠ 0 := b_neq rfl (by decide) c129
        refine lv_iconst (v := 0) hx hb dX12_checkNeed_62 (by decide) ?_
        have r131 : Int32.toInt 0 = 0 := by decide
        exact J16 0 H locs ls (by decide) hP hD hS (lv_sub hl [0, 1, 2, 3, 4, 5] rfl)
      · skip
        have f132 : ((V 30 (Int32.toNatClampNeg z6))).toInt = 0 := b_eq rfl (by decide) c129
        refine lv_iconst (v := 1) hx hb dX12_checkNeed_58 (by decide) ?_
        refine lv_goto (tgt := 63) hx hb dX12_checkNeed_59 (by decide) ?_
        have r133 : Int32.toInt 1 = 1 := by decide
        exact J16 1 H locs ls (by decide) hP hD hS (lv_sub hl [0, 1, 2, 3, 4, 5] rfl)
  refine lv_if_ne (tgt := 40) hx hb dX12_checkNeed_24 (by decide) (fun c134 => ?_) (fun c134 => ?_)
  · skip
    have f135 : z9.toInt ≠ 0 := b_neq rfl (by decide) c134
    refine lv_iconst (v := 0) hx hb dX12_checkNeed_40 (by decide) ?_
    have r136 : Int32.toInt 0 = 0 := by decide
    exact J14 0 H locs ls (by decide) hP hD hS (lv_sub hl [0, 1, 2, 3, 4] rfl)
  · skip
    have f137 : z9.toInt = 0 := b_eq rfl (by decide) c134
    refine lv_aload_n hx hb dX12_checkNeed_27 rfl (lv_at hl 2 rfl) ?_
    refine va_get (D := D) (ci := 12) (v := .ref (ad 30)) (C := RX12) (T := TX12) (N := 100) hx hb hg inX12 hown hK hP 0 rfl rfl 30 (by decide) (hg _ w1736) (fun _ h9 => h9) rfl dX12_checkNeed_28 ?_
    refine lv_iload_n hx hb dX12_checkNeed_31 rfl (lv_at hl 1 rfl) ?_
    refine va_zald (D := D) (i := z6) hx hb hK hP 23 22 rfl rfl (i_in (a := z6.toInt) rfl (by first | omega | ((try (have i_y1 := Imp.go y1 (by omega))); omega))) dX12_checkNeed_32 ?_
    refine g_top (v := (V 30 (Int32.toNatClampNeg z6))) (ajV12 30 (Int32.toNatClampNeg z6) rfl) ?_
    have r138 : 0 ≤ ((V 30 (Int32.toNatClampNeg z6))).toInt ∧ ((V 30 (Int32.toNatClampNeg z6))).toInt ≤ 1 := hMV 30 (Int32.toNatClampNeg z6)
    refine lv_if_ne (tgt := 40) hx hb dX12_checkNeed_33 (by decide) (fun c139 => ?_) (fun c139 => ?_)
    · skip
      have f140 : ((V 30 (Int32.toNatClampNeg z6))).toInt ≠ 0 := b_neq rfl (by decide) c139
      refine lv_iconst (v := 0) hx hb dX12_checkNeed_40 (by decide) ?_
      have r141 : Int32.toInt 0 = 0 := by decide
      exact J14 0 H locs ls (by decide) hP hD hS (lv_sub hl [0, 1, 2, 3, 4] rfl)
    · skip
      have f142 : ((V 30 (Int32.toNatClampNeg z6))).toInt = 0 := b_eq rfl (by decide) c139
      refine lv_iconst (v := 1) hx hb dX12_checkNeed_36 (by decide) ?_
      refine lv_goto (tgt := 41) hx hb dX12_checkNeed_37 (by decide) ?_
      have r143 : Int32.toInt 1 = 1 := by decide
      exact J14 1 H locs ls (by decide) hP hD hS (lv_sub hl [0, 1, 2, 3, 4] rfl)
abbrev r_s_addCycle : Room := { frames := 1, cells := 0, slots := 0, locals := 23 }
abbrev q_s_addCycle (D : va_G) (ks : KS) (ad : Nat → Nat) (kk : Nat → ClassId) (V : Vf) (L : Lf) (p0 : Int32) (jj : Nat) (A : Nat → Prop) : Array Value → State → Outcome → State → Prop := va_Qv (fun (u : Vf × Lf) => rgd bM u.1 ∧ agr [(0, 81)] [82, 83, 84, 85] V u.1 ∧ u.2 = L ∧ ((u.1 0 81).toInt = (V 0 81).toInt + 1)) (fun u t => gq D A (mw ad kk ks.1 u.1 u.2) (mty kk) t) A
set_option maxHeartbeats 4000000 in
set_option maxRecDepth 100000 in
theorem s_addCycle (l : Launch) (D : va_G) (ks : KS) (sz : Nat) (ad : Nat → Nat) (kk : Nat → ClassId) (V : Vf) (L : Lf) (p0 : Int32) (jj : Nat) (hMV : rgd bM V) (rg_p0 : 0 ≤ p0.toInt ∧ p0.toInt ≤ 23) (y2 : (V 0 81).toInt ≤ 999999) (y3 : (V 88 jj).toInt = p0.toInt) (y4 : jj < (V 0 89).toInt)  : Met l yX12_addCycle (Cond.code yX12_addCycle cX12_addCycle 4 none :: GW) r_s_addCycle (va_Pc [.ref (ad 0), .int p0] (gp D ks (mw ad kk ks.1 V L) (mty kk) sz)) (q_s_addCycle D ks ad kk V L p0 jj (va_A (mw ad kk ks.1 V L) sz)) 0 0 (va_A (mw ad kk ks.1 V L) sz) := by
  refine g_met (q_s_addCycle D ks ad kk V L p0 jj) (by decide) (Nat.le_of_ble_eq_true rfl) ?_
  intro p e s m below meth c A ls H locs hx hb hr hml hown hg hlocks hin hnw hgk hP hK hD hS hA hl
  have hown : s.vm.findClass RX12 = some m.cls := hown
  have hl : lv_has ls 4 [(0, .ref (ad 0)), (1, .int p0)] := hl
  have hP : va_P D vwCl (mw ad kk ks.1 V L) H := hP
  have hD : va_D A (mw ad kk ks.1 V L) := hD
  have hK : va_K D vwCl (mty kk) s := hK
  have agV : agr [(0, 81)] [82, 83, 84, 85] V V := agr.rf
  have r1 : 0 ≤ ((V 0 81)).toInt ∧ ((V 0 81)).toInt ≤ 1000000 := hMV 0 81
  have r2 : 0 ≤ ((V 88 jj)).toInt ∧ ((V 88 jj)).toInt ≤ 23 := hMV 88 jj
  have r3 : 0 ≤ ((V 0 89)).toInt ∧ ((V 0 89)).toInt ≤ 24 := hMV 0 89
  refine lv_iconst (v := 0) hx hb dX12_addCycle_0 (by decide) ?_
  refine lv_istore_n (lv' := [(2, .int 0), (0, .ref (ad 0)), (1, .int p0)]) hx hb dX12_addCycle_1 rfl hl (by decide) rfl (fun ls hl => ?_)
  have lp5 : ∀ (fulp5 : Nat) (y4 : Int32) (H : Heap) (locs : List Loc) (ls : Array Slot), 0 ≤ y4.toInt ∧ y4.toInt ≤ 23 → y4.toInt ≤ jj → jj - y4.toInt < (fulp5 : Int) → va_P D vwCl (mw ad kk ks.1 V L) H → va_D A (mw ad kk ks.1 V L) → va_S A s.heap H locs → lv_has ls 4 [(2, .int y4), (0, .ref (ad 0)), (1, .int p0)] → W p l e r_s_addCycle s m ([.ref (ad 0), .int p0] : List Value).toArray below meth c H locs 0 0 (MQ below (q_s_addCycle D ks ad kk V L p0 jj A) ([.ref (ad 0), .int p0] : List Value).toArray s 0 0 A) (F0 m 2 ls []) := by
    intro fulp5
    induction fulp5 with
    | zero =>
      intro y4 H locs ls klp5_0 xlp5_0 hn  hP hD hS hl
      exfalso; omega
    | succ fulp5 ihlp5 =>
      intro y4 H locs ls klp5_0 xlp5_0 hn  hP hD hS hl
      refine lv_aload_n hx hb dX12_addCycle_2 rfl (lv_at hl 1 rfl) ?_
      refine va_get (D := D) (ci := 12) (v := .ref (ad 88)) (C := RX12) (T := TX12) (N := 100) hx hb hg inX12 hown hK hP 0 rfl rfl 88 (by decide) (hg _ w1794) (fun _ h9 => h9) rfl dX12_addCycle_3 ?_
      refine lv_iload_n hx hb dX12_addCycle_6 rfl (lv_at hl 0 rfl) ?_
      refine va_iald (D := D) (i := y4) hx hb hK hP 64 63 rfl rfl (i_in (a := y4.toInt) rfl (by omega)) dX12_addCycle_7 ?_
      have r6 : 0 ≤ ((V 88 (Int32.toNatClampNeg y4))).toInt ∧ ((V 88 (Int32.toNatClampNeg y4))).toInt ≤ 23 := hMV 88 (Int32.toNatClampNeg y4)
      have t7 := at_ne (V := V) (c := 88) (x := y4) (n := jj) y3 (by omega)
      refine lv_iload_n hx hb dX12_addCycle_8 rfl (lv_at hl 2 rfl) ?_
      refine lv_icmp_eq (tgt := 18) hx hb dX12_addCycle_9 (by decide) (fun c8 => ?_) (fun c8 => ?_)
      · skip
        have f9 : ((V 88 (Int32.toNatClampNeg y4))).toInt = p0.toInt := b_eq rfl rfl c8
        refine lv_iload_n hx hb dX12_addCycle_18 rfl (lv_at hl 0 rfl) ?_
        refine lv_istore_n (lv' := [(3, .int y4), (2, .int y4), (0, .ref (ad 0)), (1, .int p0)]) hx hb dX12_addCycle_19 rfl hl (by decide) rfl (fun ls hl => ?_)
        have lp12 : ∀ (fulp12 : Nat) (y10 : Int32) (V11 : Vf) (H : Heap) (locs : List Loc) (ls : Array Slot), 0 ≤ y10.toInt ∧ y10.toInt ≤ 24 → y4.toInt ≤ y10.toInt → y10.toInt ≤ (V11 0 89).toInt → (V11 0 89).toInt - y10.toInt < (fulp12 : Int) → agr [] [85] V V11 → rgd bM V11 → va_P D vwCl (mw ad kk ks.1 V11 L) H → va_D A (mw ad kk ks.1 V11 L) → va_S A s.heap H locs → lv_has ls 4 [(3, .int y10), (2, .int y4), (0, .ref (ad 0)), (1, .int p0)] → W p l e r_s_addCycle s m ([.ref (ad 0), .int p0] : List Value).toArray below meth c H locs 0 0 (MQ below (q_s_addCycle D ks ad kk V L p0 jj A) ([.ref (ad 0), .int p0] : List Value).toArray s 0 0 A) (F0 m 20 ls []) := by
          intro fulp12
          induction fulp12 with
          | zero =>
            intro y10 V11 H locs ls klp12_0 xlp12_0 xlp12_1 hn ajV11 hMV11 hP hD hS hl
            exfalso; omega
          | succ fulp12 ihlp12 =>
            intro y10 V11 H locs ls klp12_0 xlp12_0 xlp12_1 hn ajV11 hMV11 hP hD hS hl
            have agV11 : agr [(0, 81)] [82, 83, 84, 85] V V11 := agV.tr ajV11 (by decide) (by decide)
            have pq13 : (V11 0 89).toInt = ((V 0 89)).toInt := congrArg Int32.toInt (ajV11 0 89 rfl)
            refine lv_iload_n hx hb dX12_addCycle_20 rfl (lv_at hl 0 rfl) ?_
            refine lv_aload_n hx hb dX12_addCycle_21 rfl (lv_at hl 2 rfl) ?_
            refine va_get (D := D) (ci := 12) (v := .int (V11 0 89)) (C := RX12) (T := TX12) (N := 100) hx hb hg inX12 hown hK hP 0 rfl rfl 89 (by decide) (hg _ w1795) (fun _ h9 => h9) rfl dX12_addCycle_22 ?_
            refine g_top (v := (V 0 89)) (ajV11 0 89 rfl) ?_
            have J14 : ∀ (H : Heap) (locs : List Loc) (ls : Array Slot), va_P D vwCl (mw ad kk ks.1 V11 L) H → va_D A (mw ad kk ks.1 V11 L) → va_S A s.heap H locs → lv_has ls 4 [(3, .int y10), (2, .int y4), (0, .ref (ad 0)), (1, .int p0)] → W p l e r_s_addCycle s m ([.ref (ad 0), .int p0] : List Value).toArray below meth c H locs 0 0 (MQ below (q_s_addCycle D ks ad kk V L p0 jj A) ([.ref (ad 0), .int p0] : List Value).toArray s 0 0 A) (F0 m 65 ls []) := by
              intro H locs ls  hP hD hS hl
              refine lv_aload_n hx hb dX12_addCycle_65 rfl (lv_at hl 2 rfl) ?_
              refine lv_iconst (v := 3) hx hb dX12_addCycle_66 (by decide) ?_
              refine lv_iload_n hx hb dX12_addCycle_67 rfl (lv_at hl 3 rfl) ?_
              refine lv_aload_n hx hb dX12_addCycle_68 rfl (lv_at hl 2 rfl) ?_
              refine va_get (D := D) (ci := 12) (v := .int (V11 0 89)) (C := RX12) (T := TX12) (N := 100) hx hb hg inX12 hown hK hP 0 rfl rfl 89 (by decide) (hg _ w1795) (fun _ h9 => h9) rfl dX12_addCycle_69 ?_
              refine g_top (v := (V 0 89)) (ajV11 0 89 rfl) ?_
              refine lv_iload_n hx hb dX12_addCycle_72 rfl (lv_at hl 1 rfl) ?_
              refine lv_isub hx hb dX12_addCycle_73 ?_
              refine lv_topi (fun z15 ez15 => ?_)
              have hz15 : z15.toInt = ((V 0 89)).toInt - y4.toInt := i_sub ez15 rfl rfl (by omega)
              have r16 : Int32.toInt 3 = 3 := by decide
              have pq17 : (V11 0 81).toInt = ((V 0 81)).toInt := congrArg Int32.toInt (ajV11 0 81 rfl)
              refine gA_void (gA_runV (As := [.int 3, .int p0, .int z15]) (rest := []) (ci := 12) (q0 := 0) hx hb hml hown hg hP hD hK hS hA hnw hgk (s_addFault l D ks H.size ad kk V11 L 3 p0 z15 hMV11 (by first | omega | ((try (have i_t7 := Imp.go t7 (by omega))); omega)) (show (V11 0 81).toInt ≤ 999999 from by first | omega | ((try (have i_t7 := Imp.go t7 (by omega))); omega))) w2183 w2185 w121 w172 w2186 rfl rfl hdV_yX12_addFault ⟨Nat.le_of_ble_eq_true rfl, Nat.le_of_ble_eq_true rfl⟩ rfl hl.1 rfl (Nat.le_of_ble_eq_true rfl) dX12_addCycle_74 ⟨Nat.le_of_ble_eq_true rfl, Nat.le_of_ble_eq_true rfl⟩) hP hD hK hS hA (fun u19 H locs w20 hP hD hK hS => ?_)
              obtain ⟨V22, L23⟩ := u19
              obtain ⟨hMV22, ajV22, axL23, t21⟩ := w20
              have axL23 : L = L23 := Eq.symm axL23
              subst axL23
              have hP : va_P D vwCl (mw ad kk ks.1 V22 L) H := hP
              have hD : va_D A (mw ad kk ks.1 V22 L) := hD
              have hMV22 : rgd bM V22 := hMV22
              have ajV22 : agr [(0, 81)] [82, 83, 84] V11 V22 := ajV22
              have agV22 : agr [(0, 81)] [82, 83, 84, 85] V V22 := agV11.tr ajV22 (by decide) (by decide)
              have t21 : (V22 0 81).toInt = (V11 0 81).toInt + 1 := t21
              have r24 : 0 ≤ ((V22 0 81)).toInt ∧ ((V22 0 81)).toInt ≤ 1000000 := hMV22 0 81
              exact W.vret hx hb hr (fun t ht hW => ⟨⟨(V22, L), rfl, ⟨hMV22, agV22, rfl, (show (V22 0 81).toInt = (V 0 81).toInt + 1 from by first | omega | ((try (have i_t7 := Imp.go t7 (by omega))); omega))⟩, by rw [ht]; exact hP, va_K.moved hW.alike hK, hD⟩, hS.F ht⟩) hS.2.2 dX12_addCycle_77
            refine lv_icmp_ge (tgt := 65) hx hb dX12_addCycle_25 (by decide) (fun c25 => ?_) (fun c25 => ?_)
            · skip
              have f26 : ((V 0 89)).toInt ≤ y10.toInt := b_le rfl rfl c25
              exact J14  H locs ls  hP hD hS (lv_sub hl [0, 1, 2, 3] rfl)
            · skip
              have f27 : y10.toInt < ((V 0 89)).toInt := b_nle rfl rfl c25
              refine lv_aload_n hx hb dX12_addCycle_28 rfl (lv_at hl 2 rfl) ?_
              refine va_get (D := D) (ci := 12) (v := .int (V11 0 81)) (C := RX12) (T := TX12) (N := 100) hx hb hg inX12 hown hK hP 0 rfl rfl 81 (by decide) (hg _ w1787) (fun _ h9 => h9) rfl dX12_addCycle_29 ?_
              refine g_top (v := (V 0 81)) (ajV11 0 81 rfl) ?_
              refine lv_bipush (v := 100) hx hb dX12_addCycle_32 (by decide) ?_
              refine lv_icmp_ge (tgt := 65) hx hb dX12_addCycle_34 (by decide) (fun c28 => ?_) (fun c28 => ?_)
              · skip
                have f29 : 100 ≤ ((V 0 81)).toInt := b_le (by decide) rfl c28
                exact J14  H locs ls  hP hD hS (lv_sub hl [0, 1, 2, 3] rfl)
              · skip
                have f30 : ((V 0 81)).toInt < 100 := b_nle (by decide) rfl c28
                refine lv_aload_n hx hb dX12_addCycle_37 rfl (lv_at hl 2 rfl) ?_
                refine va_get (D := D) (ci := 12) (v := .ref (ad 85)) (C := RX12) (T := TX12) (N := 100) hx hb hg inX12 hown hK hP 0 rfl rfl 85 (by decide) (hg _ w1791) (fun _ h9 => h9) rfl dX12_addCycle_38 ?_
                refine lv_bipush (v := 24) hx hb dX12_addCycle_41 (by decide) ?_
                refine lv_aload_n hx hb dX12_addCycle_43 rfl (lv_at hl 2 rfl) ?_
                refine va_get (D := D) (ci := 12) (v := .int (V11 0 81)) (C := RX12) (T := TX12) (N := 100) hx hb hg inX12 hown hK hP 0 rfl rfl 81 (by decide) (hg _ w1787) (fun _ h9 => h9) rfl dX12_addCycle_44 ?_
                refine g_top (v := (V 0 81)) (ajV11 0 81 rfl) ?_
                refine lv_imul hx hb dX12_addCycle_47 ?_
                refine lv_topi (fun z31 ez31 => ?_)
                have hz31 : z31.toInt = 24 * ((V 0 81)).toInt := i_mul ez31 (by decide) rfl (by omega)
                refine lv_iload_n hx hb dX12_addCycle_48 rfl (lv_at hl 0 rfl) ?_
                refine lv_iadd hx hb dX12_addCycle_49 ?_
                refine lv_topi (fun z32 ez32 => ?_)
                have hz32 : z32.toInt = z31.toInt + y10.toInt := i_add ez32 rfl rfl (by omega)
                refine lv_iload_n hx hb dX12_addCycle_50 rfl (lv_at hl 1 rfl) ?_
                refine lv_isub hx hb dX12_addCycle_51 ?_
                refine lv_topi (fun z33 ez33 => ?_)
                have hz33 : z33.toInt = z32.toInt - y4.toInt := i_sub ez33 rfl rfl (by omega)
                refine lv_aload_n hx hb dX12_addCycle_52 rfl (lv_at hl 2 rfl) ?_
                refine va_get (D := D) (ci := 12) (v := .ref (ad 88)) (C := RX12) (T := TX12) (N := 100) hx hb hg inX12 hown hK hP 0 rfl rfl 88 (by decide) (hg _ w1794) (fun _ h9 => h9) rfl dX12_addCycle_53 ?_
                refine lv_iload_n hx hb dX12_addCycle_56 rfl (lv_at hl 0 rfl) ?_
                refine va_iald (D := D) (i := y10) hx hb hK hP 64 63 rfl rfl (i_in (a := y10.toInt) rfl (by first | omega | ((try (have i_t7 := Imp.go t7 (by omega))); omega))) dX12_addCycle_57 ?_
                refine g_top (v := (V 88 (Int32.toNatClampNeg y10))) (ajV11 88 (Int32.toNatClampNeg y10) rfl) ?_
                have r34 : 0 ≤ ((V 88 (Int32.toNatClampNeg y10))).toInt ∧ ((V 88 (Int32.toNatClampNeg y10))).toInt ≤ 23 := hMV 88 (Int32.toNatClampNeg y10)
                have t35 := at_ne (V := V) (c := 88) (x := y10) (n := jj) y3 (by first | omega | ((try (have i_t7 := Imp.go t7 (by omega))); omega))
                refine va_iast (D := D) (i := z33) (x := (V 88 (Int32.toNatClampNeg y10))) hx hb hK hP hD hS 61 60 rfl rfl (i_in (a := z33.toInt) rfl (by first | omega | ((try (have i_t35 := Imp.go t35 (by omega))); (try (have i_t7 := Imp.go t7 (by omega))); (try (have i_t7 := Imp.go t7 (by omega))); (try (have i_t35 := Imp.go t35 (by omega))); omega))) dX12_addCycle_58 (fun H locs hP hD hS => ?_)
                obtain ⟨V36, hV36⟩ : ∃ z, z = up2 V11 85 (Int32.toNatClampNeg z33) (V 88 (Int32.toNatClampNeg y10)) := ⟨_, rfl⟩
                have hP : va_P D vwCl (mw ad kk ks.1 V36 L) H := by rw [hV36]; exact hP
                have hD : va_D A (mw ad kk ks.1 V36 L) := by rw [hV36]; exact hD
                have hMV36 : rgd bM V36 := hMV11.put hV36 (i_full _)
                have agV36 : agr [(0, 81)] [82, 83, 84, 85] V V36 := agV11.up hV36 rfl
                obtain ⟨z37, ez37⟩ : ∃ y : Int32, y = y10 + 1 := ⟨_, rfl⟩
                have hz37 : z37.toInt = y10.toInt + 1 := i_add ez37 rfl (by decide) (by omega)
                refine lv_iinc (v := z37) (lv' := [(3, .int z37), (2, .int y4), (0, .ref (ad 0)), (1, .int p0)]) hx hb dX12_addCycle_59 hl (k := 0) rfl (by rw [ez37]; rfl) (by decide) rfl (fun ls hl => ?_)
                refine lv_goto (tgt := 20) hx hb dX12_addCycle_62 (by decide) ?_
                have pq38 : (V36 0 89).toInt = ((V 0 89)).toInt := congrArg Int32.toInt ((up2_o hV36 (by decide)).trans (ajV11 0 89 rfl))
                exact ihlp12 z37 V36 H locs ls (by first | omega | ((try (have i_t35 := Imp.go t35 (by omega))); (try (have i_t7 := Imp.go t7 (by omega))); (try (have i_t7 := Imp.go t7 (by omega))); (try (have i_t35 := Imp.go t35 (by omega))); omega)) (show y4.toInt ≤ z37.toInt from by first | omega | ((try (have i_t35 := Imp.go t35 (by omega))); (try (have i_t7 := Imp.go t7 (by omega))); (try (have i_t7 := Imp.go t7 (by omega))); (try (have i_t35 := Imp.go t35 (by omega))); omega)) (show z37.toInt ≤ (V36 0 89).toInt from by first | omega | ((try (have i_t35 := Imp.go t35 (by omega))); (try (have i_t7 := Imp.go t7 (by omega))); (try (have i_t7 := Imp.go t7 (by omega))); (try (have i_t35 := Imp.go t35 (by omega))); omega)) (by first | omega | ((try (have i_t35 := Imp.go t35 (by omega))); (try (have i_t7 := Imp.go t7 (by omega))); (try (have i_t7 := Imp.go t7 (by omega))); (try (have i_t35 := Imp.go t35 (by omega))); omega)) (agr.up (agr.tr agr.rf ajV11 (by decide) (by decide)) hV36 rfl) hMV36 hP hD hS (lv_sub hl [0, 1, 2, 3] rfl)
        exact lp12 (((V 0 89).toInt - y4.toInt + 1 : Int).toNat) y4 V H locs ls (by first | omega | ((try (have i_t7 := Imp.go t7 (by omega))); omega)) (show y4.toInt ≤ y4.toInt from by first | omega | ((try (have i_t7 := Imp.go t7 (by omega))); omega)) (show y4.toInt ≤ (V 0 89).toInt from by first | omega | ((try (have i_t7 := Imp.go t7 (by omega))); omega)) (by first | omega | ((try (have i_t7 := Imp.go t7 (by omega))); omega)) agr.rf hMV hP hD hS (lv_sub hl [0, 1, 2, 3] rfl)
      · skip
        have f39 : ((V 88 (Int32.toNatClampNeg y4))).toInt ≠ p0.toInt := b_neq rfl rfl c8
        obtain ⟨z40, ez40⟩ : ∃ y : Int32, y = y4 + 1 := ⟨_, rfl⟩
        have hz40 : z40.toInt = y4.toInt + 1 := i_add ez40 rfl (by decide) (by omega)
        refine lv_iinc (v := z40) (lv' := [(2, .int z40), (0, .ref (ad 0)), (1, .int p0)]) hx hb dX12_addCycle_12 hl (k := 0) rfl (by rw [ez40]; rfl) (by decide) rfl (fun ls hl => ?_)
        refine lv_goto (tgt := 2) hx hb dX12_addCycle_15 (by decide) ?_
        exact ihlp5 z40 H locs ls (by first | omega | ((try (have i_t7 := Imp.go t7 (by omega))); omega)) (show z40.toInt ≤ jj from by first | omega | ((try (have i_t7 := Imp.go t7 (by omega))); omega)) (by first | omega | ((try (have i_t7 := Imp.go t7 (by omega))); omega)) hP hD hS (lv_sub hl [0, 1, 2] rfl)
  have r41 : Int32.toInt 0 = 0 := by decide
  exact lp5 ((jj - (Int32.toInt 0) + 1 : Int).toNat) 0 H locs ls (by decide) (show (Int32.toInt 0) ≤ jj from by omega) (by omega) hP hD hS (lv_sub hl [0, 1, 2] rfl)
