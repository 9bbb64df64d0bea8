/-! wraps and methods of an object, at a later version -/
theorem CE.lt {nd : Int} {ar : Bool} {V : Vf} {lo hi a : Nat} (h : CE nd ar V lo hi a) : a < hi := by
  obtain ⟨_, ⟨f, q⟩, _⟩ := h
  cases f with
  | zero => exact q.elim
  | succ f => exact q.2.1
/-- a wrap's E, by its phase -/
theorem TB.wrapE {V : Vf} {o m ph : Int32} {w : Nat} (t : TB V) (hw : (w : Int) < (V 39 (nwh V)).toInt) (b : isWb V o m ph w = true) {ar : Bool} (har : decide (ph.toInt = 1) = ar) : 0 ≤ (V 44 (12 * nwh V + w)).toInt ∧ CE 0 ar V (10000 * nwh V) (10000 * nwh V + 10000) (V 44 (12 * nwh V + w)).toInt.toNat := by
  have q := (show TBL V (nwh V) _ from t).2 w hw
  have b2 := of_decide_eq_true b
  refine ⟨q.1, ?_⟩
  have c := q.2.1
  rw [b2.2.1, har] at c
  exact c
/-- a component's E -/
theorem TB.compE {V : Vf} {c : Nat} (t : TB V) (h : th V c) : cOK V (10000 * nwh V) (10000 * nwh V + 10000) (24 * nwh V + c) := (show TBL V (nwh V) _ from t).1 c h.1
theorem CE.at {nd : Int} {ar : Bool} {V : Vf} {lo hi : Nat} {x : Int32} (h : CE nd ar V lo hi x.toInt.toNat) : CE nd ar V lo hi (Int32.toNatClampNeg x) := h

theorem w2271 : Cond.code yX12_works cX12_works 6 (some .int) ∈ GW := gw_mem 2271 (by decide +kernel) rfl
theorem w2268 : Cond.methodLink RX12 503 yX12_works ∈ GW := gw_mem 2268 (by decide +kernel) rfl
theorem w2270 : Cond.instanceMethod yX12_works ∈ GW := gw_mem 2270 (by decide +kernel) rfl
theorem w136 : Cond.selects RX12 yX12_works yX12_works ∈ GW := gw_mem 136 (by decide +kernel) rfl
theorem hdV_yX12_works : yX12_works.cls = RX12 ∧ yX12_works.cls ≠ "java/lang/invoke/MethodHandle" ∧ yX12_works.cls ≠ "java/lang/invoke/VarHandle" ∧ (parseMethodDescriptor yX12_works.desc).map (fun d => d.parameters.length) = some 5 := by decide +kernel
theorem dX12_closes_0 : decode cX12_closes 0 = .ok (.bipush 24, 2) := by decide +kernel
theorem dX12_closes_2 : decode cX12_closes 2 = .ok (.aload_n 0, 1) := by decide +kernel
theorem dX12_closes_3 : decode cX12_closes 3 = .ok (.getfield 286, 3) := by decide +kernel
theorem dX12_closes_6 : decode cX12_closes 6 = .ok (.imul, 1) := by decide +kernel
theorem dX12_closes_7 : decode cX12_closes 7 = .ok (.aload_n 0, 1) := by decide +kernel
theorem dX12_closes_8 : decode cX12_closes 8 = .ok (.getfield 164, 3) := by decide +kernel
theorem dX12_closes_11 : decode cX12_closes 11 = .ok (.iload_n 1, 1) := by decide +kernel
theorem dX12_closes_12 : decode cX12_closes 12 = .ok (.iaload, 1) := by decide +kernel
theorem dX12_closes_13 : decode cX12_closes 13 = .ok (.iadd, 1) := by decide +kernel
theorem dX12_closes_14 : decode cX12_closes 14 = .ok (.istore_n 2, 1) := by decide +kernel
theorem dX12_closes_15 : decode cX12_closes 15 = .ok (.iconst 0, 1) := by decide +kernel
theorem dX12_closes_16 : decode cX12_closes 16 = .ok (.istore_n 3, 1) := by decide +kernel
theorem dX12_closes_17 : decode cX12_closes 17 = .ok (.aload_n 0, 1) := by decide +kernel
theorem dX12_closes_18 : decode cX12_closes 18 = .ok (.getfield 104, 3) := by decide +kernel
theorem dX12_closes_21 : decode cX12_closes 21 = .ok (.iload_n 2, 1) := by decide +kernel
theorem dX12_closes_22 : decode cX12_closes 22 = .ok (.iaload, 1) := by decide +kernel
theorem dX12_closes_23 : decode cX12_closes 23 = .ok (.ifCond .lt 23, 3) := by decide +kernel
theorem dX12_closes_46 : decode cX12_closes 46 = .ok (.aload_n 0, 1) := by decide +kernel
theorem dX12_closes_47 : decode cX12_closes 47 = .ok (.getfield 417, 3) := by decide +kernel
theorem dX12_closes_50 : decode cX12_closes 50 = .ok (.sipush 300, 3) := by decide +kernel
theorem dX12_closes_53 : decode cX12_closes 53 = .ok (.if_icmp .ge 56, 3) := by decide +kernel
theorem dX12_closes_109 : decode cX12_closes 109 = .ok (.aload_n 0, 1) := by decide +kernel
theorem dX12_closes_110 : decode cX12_closes 110 = .ok (.dup, 1) := by decide +kernel
theorem dX12_closes_111 : decode cX12_closes 111 = .ok (.getfield 417, 3) := by decide +kernel
theorem dX12_closes_114 : decode cX12_closes 114 = .ok (.iconst 1, 1) := by decide +kernel
theorem dX12_closes_115 : decode cX12_closes 115 = .ok (.iadd, 1) := by decide +kernel
theorem dX12_closes_116 : decode cX12_closes 116 = .ok (.putfield 417, 3) := by decide +kernel
theorem dX12_closes_119 : decode cX12_closes 119 = .ok (.aload_n 0, 1) := by decide +kernel
theorem dX12_closes_120 : decode cX12_closes 120 = .ok (.getfield 170, 3) := by decide +kernel
theorem dX12_closes_123 : decode cX12_closes 123 = .ok (.iload_n 1, 1) := by decide +kernel
theorem dX12_closes_124 : decode cX12_closes 124 = .ok (.iconst 2, 1) := by decide +kernel
theorem dX12_closes_125 : decode cX12_closes 125 = .ok (.iastore, 1) := by decide +kernel
theorem dX12_closes_126 : decode cX12_closes 126 = .ok (.iload_n 3, 1) := by decide +kernel
theorem dX12_closes_127 : decode cX12_closes 127 = .ok (.iconst 2, 1) := by decide +kernel
theorem dX12_closes_128 : decode cX12_closes 128 = .ok (.if_icmp .ne 7, 3) := by decide +kernel
theorem dX12_closes_135 : decode cX12_closes 135 = .ok (.iconst 0, 1) := by decide +kernel
theorem dX12_closes_136 : decode cX12_closes 136 = .ok (.ireturn, 1) := by decide +kernel
theorem dX12_closes_56 : decode cX12_closes 56 = .ok (.aload_n 0, 1) := by decide +kernel
theorem dX12_closes_57 : decode cX12_closes 57 = .ok (.getfield 183, 3) := by decide +kernel
theorem dX12_closes_60 : decode cX12_closes 60 = .ok (.aload_n 0, 1) := by decide +kernel
theorem dX12_closes_61 : decode cX12_closes 61 = .ok (.getfield 417, 3) := by decide +kernel
theorem dX12_closes_64 : decode cX12_closes 64 = .ok (.iload_n 1, 1) := by decide +kernel
theorem dX12_closes_65 : decode cX12_closes 65 = .ok (.iastore, 1) := by decide +kernel
theorem dX12_closes_66 : decode cX12_closes 66 = .ok (.aload_n 0, 1) := by decide +kernel
theorem dX12_closes_67 : decode cX12_closes 67 = .ok (.getfield 186, 3) := by decide +kernel
theorem dX12_closes_70 : decode cX12_closes 70 = .ok (.aload_n 0, 1) := by decide +kernel
theorem dX12_closes_71 : decode cX12_closes 71 = .ok (.getfield 417, 3) := by decide +kernel
theorem dX12_closes_74 : decode cX12_closes 74 = .ok (.iload_n 3, 1) := by decide +kernel
theorem dX12_closes_75 : decode cX12_closes 75 = .ok (.ifCond .ne 7, 3) := by decide +kernel
theorem dX12_closes_78 : decode cX12_closes 78 = .ok (.iconst 0, 1) := by decide +kernel
theorem dX12_closes_79 : decode cX12_closes 79 = .ok (.goto 29, 3) := by decide +kernel
theorem dX12_closes_108 : decode cX12_closes 108 = .ok (.iastore, 1) := by decide +kernel
theorem dX12_closes_26 : decode cX12_closes 26 = .ok (.aload_n 0, 1) := by decide +kernel
theorem dX12_closes_27 : decode cX12_closes 27 = .ok (.aload_n 0, 1) := by decide +kernel
theorem dX12_closes_28 : decode cX12_closes 28 = .ok (.getfield 104, 3) := by decide +kernel
theorem dX12_closes_31 : decode cX12_closes 31 = .ok (.iload_n 2, 1) := by decide +kernel
theorem dX12_closes_32 : decode cX12_closes 32 = .ok (.iaload, 1) := by decide +kernel
theorem dX12_closes_33 : decode cX12_closes 33 = .ok (.iload_n 1, 1) := by decide +kernel
theorem dX12_closes_34 : decode cX12_closes 34 = .ok (.aload_n 0, 1) := by decide +kernel
theorem dX12_closes_35 : decode cX12_closes 35 = .ok (.getfield 167, 3) := by decide +kernel
theorem dX12_closes_38 : decode cX12_closes 38 = .ok (.iload_n 1, 1) := by decide +kernel
theorem dX12_closes_39 : decode cX12_closes 39 = .ok (.iaload, 1) := by decide +kernel
theorem dX12_closes_40 : decode cX12_closes 40 = .ok (.iconst 0, 1) := by decide +kernel
theorem dX12_closes_41 : decode cX12_closes 41 = .ok (.iconst (-1), 1) := by decide +kernel
theorem dX12_closes_42 : decode cX12_closes 42 = .ok (.invokevirtual 503, 3) := by decide +kernel
theorem dX12_closes_45 : decode cX12_closes 45 = .ok (.istore_n 3, 1) := by decide +kernel
theorem dX12_closes_131 : decode cX12_closes 131 = .ok (.iconst 1, 1) := by decide +kernel
theorem dX12_closes_132 : decode cX12_closes 132 = .ok (.goto 4, 3) := by decide +kernel
theorem dX12_closes_82 : decode cX12_closes 82 = .ok (.iload_n 3, 1) := by decide +kernel
theorem dX12_closes_83 : decode cX12_closes 83 = .ok (.iconst 2, 1) := by decide +kernel
theorem dX12_closes_84 : decode cX12_closes 84 = .ok (.if_icmp .ne 8, 3) := by decide +kernel
theorem dX12_closes_92 : decode cX12_closes 92 = .ok (.aload_n 0, 1) := by decide +kernel
theorem dX12_closes_93 : decode cX12_closes 93 = .ok (.getfield 471, 3) := by decide +kernel
theorem dX12_closes_96 : decode cX12_closes 96 = .ok (.ifCond .le 8, 3) := by decide +kernel
theorem dX12_closes_104 : decode cX12_closes 104 = .ok (.aload_n 0, 1) := by decide +kernel
theorem dX12_closes_105 : decode cX12_closes 105 = .ok (.getfield 474, 3) := by decide +kernel
theorem dX12_closes_99 : decode cX12_closes 99 = .ok (.bipush 20, 2) := by decide +kernel
theorem dX12_closes_101 : decode cX12_closes 101 = .ok (.goto 7, 3) := by decide +kernel
theorem dX12_closes_87 : decode cX12_closes 87 = .ok (.bipush 18, 2) := by decide +kernel
theorem dX12_closes_89 : decode cX12_closes 89 = .ok (.goto 19, 3) := by decide +kernel
abbrev q_s_closes (D : va_G) (ks : KS) (ad : Nat → Nat) (kk : Nat → ClassId) (V : Vf) (L : Lf) (p0 : Int32) (A : Nat → Prop) : Array Value → State → Outcome → State → Prop := va_Qi (fun (r : Int32) (u : Vf × Lf) => rgd bM u.1 ∧ agr [(0, 60), (0, 65), (0, 68), (0, 69), (0, 73), (0, 76), (0, 90), (0, 91), (0, 92), (0, 93), (0, 95), (0, 96), (0, 98)] [59, 61, 62, 63, 64, 66, 67, 74, 75, 77, 78, 79, 80, 94, 97] V u.1 ∧ u.2 = L ∧ (0 ≤ r.toInt ∧ r.toInt ≤ 1) ∧ ((u.1 0 93).toInt = (V 0 93).toInt) ∧ ((u.1 0 98).toInt = (V 0 98).toInt) ∧ ((V 0 60).toInt ≤ (u.1 0 60).toInt) ∧ ((V 0 65).toInt ≤ (u.1 0 65).toInt) ∧ ((u.1 0 65).toInt - (V 0 65).toInt ≤ (u.1 0 60).toInt - (V 0 60).toInt) ∧ ((u.1 0 73).toInt + (u.1 0 95).toInt - (u.1 0 65).toInt ≤ (V 0 73).toInt + (V 0 95).toInt - (V 0 65).toInt + 1) ∧ ((V 0 73).toInt ≤ (u.1 0 73).toInt) ∧ ((V 0 69).toInt ≤ (u.1 0 69).toInt) ∧ ((u.1 0 95).toInt = (V 0 95).toInt) ∧ ((u.1 0 76).toInt - (u.1 0 69).toInt - (u.1 0 73).toInt ≤ (V 0 76).toInt - (V 0 69).toInt - (V 0 73).toInt) ∧ ((u.1 63 (Int32.toNatClampNeg p0)).toInt = 2) ∧ (RT u.1) ∧ (FRM V u.1 (-1))) (fun u t => gq D A (mw ad kk ks.1 u.1 u.2) (mty kk) t) A
def K_s_closes (l : Launch) (D : va_G) (ks : KS) (d1 d2 : Nat) : Prop := ∀ (sz : Nat) (ad : Nat → Nat) (kk : Nat → ClassId) (V : Vf) (L : Lf) (p0 : Int32) (hMV : rgd bM V) (rg_p0 : 0 ≤ p0.toInt ∧ p0.toInt ≤ 299) (rt : RT V) (n1 : (V 0 65).toInt ≤ (V 0 60).toInt) (n2 : (V 0 95).toInt ≤ (V 0 65).toInt) (n3 : (V 0 73).toInt + (V 0 95).toInt - (V 0 65).toInt ≤ 999000) (n4 : (V 0 76).toInt - (V 0 69).toInt - (V 0 73).toInt ≤ 1000000000) (n5 : 300 - (V 0 60).toInt ≤ (d1 : Int)) (n6 : 10 - (V 0 93).toInt ≤ (d2 : Int)) (oq1 : p0.toInt < (V 0 60).toInt) (n7 : (V 0 98).toInt + 400 * (d2 : Int) + 30 ≤ 19000) (st1 : 1 ≤ (V 63 (Int32.toNatClampNeg p0)).toInt) , Met l yX12_closes (Cond.code yX12_closes cX12_closes 4 (some .boolean) :: GW) (rK2 (4 * d1 + 40 * d2 + 13) (100 * d1 + 1000 * d2 + 500)) (va_Pc [.ref (ad 0), .int p0] (gp D ks (mw ad kk ks.1 V L) (mty kk) sz)) (q_s_closes D ks ad kk V L p0 (va_A (mw ad kk ks.1 V L) sz)) 0 0 (va_A (mw ad kk ks.1 V L) sz)