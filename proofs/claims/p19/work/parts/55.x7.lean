section
/-! a jump's number is set -/
def ptX (V W : Vf) (b : Nat) (z x : Int32) : Prop := (z.toInt < 0 ∨ 8200 ≤ z.toInt) ∧ W = V ∨ (0 ≤ z.toInt ∧ z.toInt < 8200 ∧ W = up2 V 48 (8200 * b + Int32.toNatClampNeg z) x)
theorem ptX.cd {V W : Vf} {b a : Nat} {z x : Int32} (t : ptX V W b z x) (cd : CD V b) (j : jp V b a) (hz : z.toInt = (a : Int) + 1) (hx : x.toInt = (V 42 b).toInt) (h0 : 0 ≤ (V 42 b).toInt ∧ (V 42 b).toInt ≤ 8200) : CD W b := by
  rcases t with t | t
  · rw [t.2]
    exact cd
  · have k : Int32.toNatClampNeg z = a + 1 := by have := i_clamp (x := z) rfl t.1; omega
    have e := t.2.2
    rw [k] at e
    have jj := j (by omega)
    exact ⟨CB.pt cd.1 e jj.2.1 jj.2.2 hx h0.1 h0.2, CO.pt cd.2 e jj.2.1⟩
theorem ptX.px {V U W : Vf} {b : Nat} {z x : Int32} (t : ptX U W b z x) (p : p0x V U b) (hz : (V 42 b).toInt ≤ z.toInt) : p0x V W b := by
  rcases t with t | t
  · rw [t.2]
    exact p
  · exact p.pt t.2.2 (by have := i_clamp (x := z) rfl t.1; omega)
theorem ptX.jp {V W : Vf} {b a a2 : Nat} {z x : Int32} (t : ptX V W b z x) (j : jp V b a) (j2 : jp V b a2) (hz : z.toInt = (a : Int) + 1) (h12 : a ≤ a2) (hgt : a + 1 < 8200 → a < a2) : jp W b a2 := by
  rcases t with t | t
  · rw [t.2]
    exact j2
  · have k : Int32.toNatClampNeg z = a + 1 := by have := i_clamp (x := z) rfl t.1; omega
    have e := t.2.2
    rw [k] at e
    have jj := j (by omega)
    intro hp
    have q := j2 hp
    have hne : a < a2 := hgt (by omega)
    have e42 : W 42 b = V 42 b := up2_o e (by decide)
    have hn : ¬ a2 = a + 1 := by
      intro hq
      have hb : (bdp V b a2).1 = true := by
        have q2 := q.2.1
        rw [bdp_s] at q2
        cases hz2 : (bdp V b a2).1 with
        | false => rw [hz2] at q2; cases q2
        | true => rfl
      have := bd_ex V b a2 hb
      rw [hq, jj.2.1] at this
      cases this
    rw [e42, bd_pt e jj.2.1, up2_k e (by omega)]
    exact q

theorem w958 : Cond.code yX1_readSum cX1_readSum 4 (some .boolean) ∈ GW := gw_k tk9_4 83 (rfl) rfl
theorem w955 : Cond.methodLink RX1 210 yX1_readSum ∈ GW := gw_k tk9_4 80 (by decide +kernel) rfl
theorem w957 : Cond.instanceMethod yX1_readSum ∈ GW := gw_k tk9_4 82 (by decide +kernel) rfl
theorem w22 : Cond.selects RX1 yX1_readSum yX1_readSum ∈ GW := gw_mem 22 (by decide +kernel) rfl
theorem hdV_yX1_readSum : yX1_readSum.cls = RX1 ∧ yX1_readSum.cls ≠ "java/lang/invoke/MethodHandle" ∧ yX1_readSum.cls ≠ "java/lang/invoke/VarHandle" ∧ (parseMethodDescriptor yX1_readSum.desc).map (fun d => d.parameters.length) = some 1 := by decide +kernel
theorem w962 : Cond.code yX1_readProduct cX1_readProduct 3 (some .boolean) ∈ GW := gw_k tk9_4 87 (rfl) rfl
theorem w959 : Cond.methodLink RX1 213 yX1_readProduct ∈ GW := gw_k tk9_4 84 (by decide +kernel) rfl
theorem w961 : Cond.instanceMethod yX1_readProduct ∈ GW := gw_k tk9_4 86 (by decide +kernel) rfl
theorem w23 : Cond.selects RX1 yX1_readProduct yX1_readProduct ∈ GW := gw_mem 23 (by decide +kernel) rfl
theorem hdV_yX1_readProduct : yX1_readProduct.cls = RX1 ∧ yX1_readProduct.cls ≠ "java/lang/invoke/MethodHandle" ∧ yX1_readProduct.cls ≠ "java/lang/invoke/VarHandle" ∧ (parseMethodDescriptor yX1_readProduct.desc).map (fun d => d.parameters.length) = some 1 := by decide +kernel
theorem w966 : Cond.code yX1_readPart cX1_readPart 5 (some .boolean) ∈ GW := gw_k tk9_4 91 (rfl) rfl
theorem w963 : Cond.methodLink RX1 216 yX1_readPart ∈ GW := gw_k tk9_4 88 (by decide +kernel) rfl
theorem w965 : Cond.instanceMethod yX1_readPart ∈ GW := gw_k tk9_4 90 (by decide +kernel) rfl
theorem w24 : Cond.selects RX1 yX1_readPart yX1_readPart ∈ GW := gw_mem 24 (by decide +kernel) rfl
theorem hdV_yX1_readPart : yX1_readPart.cls = RX1 ∧ yX1_readPart.cls ≠ "java/lang/invoke/MethodHandle" ∧ yX1_readPart.cls ≠ "java/lang/invoke/VarHandle" ∧ (parseMethodDescriptor yX1_readPart.desc).map (fun d => d.parameters.length) = some 1 := by decide +kernel
theorem w896 : Cond.code yX1_take cX1_take 2 (some .boolean) ∈ GW := gw_k tk9_4 21 (rfl) rfl
theorem w893 : Cond.methodLink RX1 88 yX1_take ∈ GW := gw_k tk9_4 18 (by decide +kernel) rfl
theorem w895 : Cond.instanceMethod yX1_take ∈ GW := gw_k tk9_4 20 (by decide +kernel) rfl
theorem w10 : Cond.selects RX1 yX1_take yX1_take ∈ GW := gw_mem 10 (by decide +kernel) rfl
theorem hdV_yX1_take : yX1_take.cls = RX1 ∧ yX1_take.cls ≠ "java/lang/invoke/MethodHandle" ∧ yX1_take.cls ≠ "java/lang/invoke/VarHandle" ∧ (parseMethodDescriptor yX1_take.desc).map (fun d => d.parameters.length) = some 1 := by decide +kernel
theorem w954 : Cond.code yX1_readExpression cX1_readExpression 3 (some .boolean) ∈ GW := gw_k tk9_4 79 (rfl) rfl
theorem w951 : Cond.methodLink RX1 203 yX1_readExpression ∈ GW := gw_k tk9_4 76 (by decide +kernel) rfl
theorem w953 : Cond.instanceMethod yX1_readExpression ∈ GW := gw_k tk9_4 78 (by decide +kernel) rfl
theorem w21 : Cond.selects RX1 yX1_readExpression yX1_readExpression ∈ GW := gw_mem 21 (by decide +kernel) rfl
theorem hdV_yX1_readExpression : yX1_readExpression.cls = RX1 ∧ yX1_readExpression.cls ≠ "java/lang/invoke/MethodHandle" ∧ yX1_readExpression.cls ≠ "java/lang/invoke/VarHandle" ∧ (parseMethodDescriptor yX1_readExpression.desc).map (fun d => d.parameters.length) = some 1 := by decide +kernel
theorem w970 : Cond.code yX1_beginsPart cX1_beginsPart 1 (some .boolean) ∈ GW := gw_k tk9_4 95 (rfl) rfl
theorem w967 : Cond.methodLink RX1 219 yX1_beginsPart ∈ GW := gw_k tk9_4 92 (by decide +kernel) rfl
theorem w969 : Cond.instanceMethod yX1_beginsPart ∈ GW := gw_k tk9_4 94 (by decide +kernel) rfl
theorem w25 : Cond.selects RX1 yX1_beginsPart yX1_beginsPart ∈ GW := gw_mem 25 (by decide +kernel) rfl
theorem hdV_yX1_beginsPart : yX1_beginsPart.cls = RX1 ∧ yX1_beginsPart.cls ≠ "java/lang/invoke/MethodHandle" ∧ yX1_beginsPart.cls ≠ "java/lang/invoke/VarHandle" ∧ (parseMethodDescriptor yX1_beginsPart.desc).map (fun d => d.parameters.length) = some 0 := by decide +kernel
theorem w978 : Cond.code yX1_put cX1_put 3 (some .boolean) ∈ GW := gw_k tk9_4 103 (rfl) rfl
theorem w975 : Cond.methodLink RX1 225 yX1_put ∈ GW := gw_k tk9_4 100 (by decide +kernel) rfl
theorem w977 : Cond.instanceMethod yX1_put ∈ GW := gw_k tk9_4 102 (by decide +kernel) rfl
theorem w26 : Cond.selects RX1 yX1_put yX1_put ∈ GW := gw_mem 26 (by decide +kernel) rfl
theorem hdV_yX1_put : yX1_put.cls = RX1 ∧ yX1_put.cls ≠ "java/lang/invoke/MethodHandle" ∧ yX1_put.cls ≠ "java/lang/invoke/VarHandle" ∧ (parseMethodDescriptor yX1_put.desc).map (fun d => d.parameters.length) = some 2 := by decide +kernel
theorem w982 : Cond.code yX1_putAlone cX1_putAlone 2 (some .boolean) ∈ GW := gw_k tk9_4 107 (rfl) rfl
theorem w979 : Cond.methodLink RX1 228 yX1_putAlone ∈ GW := gw_k tk9_4 104 (by decide +kernel) rfl
theorem w981 : Cond.instanceMethod yX1_putAlone ∈ GW := gw_k tk9_4 106 (by decide +kernel) rfl
theorem w27 : Cond.selects RX1 yX1_putAlone yX1_putAlone ∈ GW := gw_mem 27 (by decide +kernel) rfl
theorem hdV_yX1_putAlone : yX1_putAlone.cls = RX1 ∧ yX1_putAlone.cls ≠ "java/lang/invoke/MethodHandle" ∧ yX1_putAlone.cls ≠ "java/lang/invoke/VarHandle" ∧ (parseMethodDescriptor yX1_putAlone.desc).map (fun d => d.parameters.length) = some 1 := by decide +kernel
theorem w934 : Cond.code yX1_takeSetting cX1_takeSetting 1 (some .boolean) ∈ GW := gw_k tk9_4 59 (rfl) rfl
theorem w931 : Cond.methodLink RX1 146 yX1_takeSetting ∈ GW := gw_k tk9_4 56 (by decide +kernel) rfl
theorem w933 : Cond.instanceMethod yX1_takeSetting ∈ GW := gw_k tk9_4 58 (by decide +kernel) rfl
theorem w17 : Cond.selects RX1 yX1_takeSetting yX1_takeSetting ∈ GW := gw_mem 17 (by decide +kernel) rfl
theorem hdV_yX1_takeSetting : yX1_takeSetting.cls = RX1 ∧ yX1_takeSetting.cls ≠ "java/lang/invoke/MethodHandle" ∧ yX1_takeSetting.cls ≠ "java/lang/invoke/VarHandle" ∧ (parseMethodDescriptor yX1_takeSetting.desc).map (fun d => d.parameters.length) = some 0 := by decide +kernel
theorem w909 : Cond.code yX1_takeNumber cX1_takeNumber 3 (some .boolean) ∈ GW := gw_k tk9_4 34 (rfl) rfl
theorem w906 : Cond.methodLink RX1 103 yX1_takeNumber ∈ GW := gw_k tk9_4 31 (by decide +kernel) rfl
theorem w908 : Cond.instanceMethod yX1_takeNumber ∈ GW := gw_k tk9_4 33 (by decide +kernel) rfl
theorem w12 : Cond.selects RX1 yX1_takeNumber yX1_takeNumber ∈ GW := gw_mem 12 (by decide +kernel) rfl
theorem hdV_yX1_takeNumber : yX1_takeNumber.cls = RX1 ∧ yX1_takeNumber.cls ≠ "java/lang/invoke/MethodHandle" ∧ yX1_takeNumber.cls ≠ "java/lang/invoke/VarHandle" ∧ (parseMethodDescriptor yX1_takeNumber.desc).map (fun d => d.parameters.length) = some 2 := by decide +kernel
theorem w986 : Cond.code yX1_readPick cX1_readPick 4 (some .boolean) ∈ GW := gw_k tk9_4 111 (rfl) rfl
theorem w983 : Cond.methodLink RX1 231 yX1_readPick ∈ GW := gw_k tk9_4 108 (by decide +kernel) rfl
theorem w985 : Cond.instanceMethod yX1_readPick ∈ GW := gw_k tk9_4 110 (by decide +kernel) rfl
theorem w28 : Cond.selects RX1 yX1_readPick yX1_readPick ∈ GW := gw_mem 28 (by decide +kernel) rfl
theorem hdV_yX1_readPick : yX1_readPick.cls = RX1 ∧ yX1_readPick.cls ≠ "java/lang/invoke/MethodHandle" ∧ yX1_readPick.cls ≠ "java/lang/invoke/VarHandle" ∧ (parseMethodDescriptor yX1_readPick.desc).map (fun d => d.parameters.length) = some 1 := by decide +kernel
theorem w994 : Cond.code yX1_readOf cX1_readOf 4 (some .boolean) ∈ GW := gw_k tk9_4 119 (rfl) rfl
theorem w991 : Cond.methodLink RX1 234 yX1_readOf ∈ GW := gw_k tk9_4 116 (by decide +kernel) rfl
theorem w993 : Cond.instanceMethod yX1_readOf ∈ GW := gw_k tk9_4 118 (by decide +kernel) rfl
theorem w29 : Cond.selects RX1 yX1_readOf yX1_readOf ∈ GW := gw_mem 29 (by decide +kernel) rfl
theorem hdV_yX1_readOf : yX1_readOf.cls = RX1 ∧ yX1_readOf.cls ≠ "java/lang/invoke/MethodHandle" ∧ yX1_readOf.cls ≠ "java/lang/invoke/VarHandle" ∧ (parseMethodDescriptor yX1_readOf.desc).map (fun d => d.parameters.length) = some 1 := by decide +kernel
theorem w998 : Cond.code yX1_readWithin cX1_readWithin 2 (some .boolean) ∈ GW := gw_k tk9_4 123 (rfl) rfl
theorem w995 : Cond.methodLink RX1 237 yX1_readWithin ∈ GW := gw_k tk9_4 120 (by decide +kernel) rfl
theorem w997 : Cond.instanceMethod yX1_readWithin ∈ GW := gw_k tk9_4 122 (by decide +kernel) rfl
theorem w30 : Cond.selects RX1 yX1_readWithin yX1_readWithin ∈ GW := gw_mem 30 (by decide +kernel) rfl
theorem hdV_yX1_readWithin : yX1_readWithin.cls = RX1 ∧ yX1_readWithin.cls ≠ "java/lang/invoke/MethodHandle" ∧ yX1_readWithin.cls ≠ "java/lang/invoke/VarHandle" ∧ (parseMethodDescriptor yX1_readWithin.desc).map (fun d => d.parameters.length) = some 1 := by decide +kernel
theorem w306 : Cond.fieldLink RX1 24 "WiringHouse$BookReader" "owner" "LWiringHouse$Component;" ∈ GW := gw_k tk9_1 151 (by decide +kernel) rfl
theorem n513 : lw_tbl[513]? = some (Cond.fieldLinkNest RX1 190 "WiringHouse$Component" "needs" "I" "WiringHouse") := la9 (n := 155) (i := 358) lz9 (la9 (n := 240) (i := 118) ln9_1 (lb9 (i := 118) (by decide +kernel)))
theorem w942 : Cond.code yX1_takeMethod cX1_takeMethod 3 (some .boolean) ∈ GW := gw_k tk9_4 67 (rfl) rfl
theorem w939 : Cond.methodLink RX1 161 yX1_takeMethod ∈ GW := gw_k tk9_4 64 (by decide +kernel) rfl
theorem w941 : Cond.instanceMethod yX1_takeMethod ∈ GW := gw_k tk9_4 66 (by decide +kernel) rfl
theorem w19 : Cond.selects RX1 yX1_takeMethod yX1_takeMethod ∈ GW := gw_mem 19 (by decide +kernel) rfl
theorem hdV_yX1_takeMethod : yX1_takeMethod.cls = RX1 ∧ yX1_takeMethod.cls ≠ "java/lang/invoke/MethodHandle" ∧ yX1_takeMethod.cls ≠ "java/lang/invoke/VarHandle" ∧ (parseMethodDescriptor yX1_takeMethod.desc).map (fun d => d.parameters.length) = some 1 := by decide +kernel
theorem n630 : lw_tbl[630]? = some (Cond.fieldLinkNest RX1 168 "WiringHouse$Book" "codeLength" "I" "WiringHouse") := la9 (n := 155) (i := 475) lz9 (la9 (n := 240) (i := 235) ln9_1 (lb9 (i := 235) (by decide +kernel)))
theorem w990 : Cond.code yX0_patch cX0_patch 3 none ∈ GW := gw_k tk9_4 115 (rfl) rfl
theorem w987 : Cond.methodLink RX1 240 yX0_patch ∈ GW := gw_k tk9_4 112 (by decide +kernel) rfl
theorem w988 : Cond.instanceMethod yX0_patch ∈ GW := gw_k tk9_4 113 (by decide +kernel) rfl
theorem w989 : Cond.selects RX0 yX0_patch yX0_patch ∈ GW := gw_k tk9_4 114 (by decide +kernel) rfl
theorem hdV_yX0_patch : yX0_patch.cls = RX0 ∧ yX0_patch.cls ≠ "java/lang/invoke/MethodHandle" ∧ yX0_patch.cls ≠ "java/lang/invoke/VarHandle" ∧ (parseMethodDescriptor yX0_patch.desc).map (fun d => d.parameters.length) = some 2 := by decide +kernel
theorem dk9_dX1_readExpression_0_0 : dOk cX1_readExpression [(0, .aload_n 0, 1), (1, .iload_n 1, 1), (2, .invokevirtual 210, 3), (5, .ifCond .ne 5, 3), (10, .aload_n 0, 1), (11, .getfield 9, 3), (14, .getfield 37, 3), (17, .istore_n 2, 1), (18, .iload_n 2, 1), (19, .bipush 60, 2), (21, .if_icmp .eq 11, 3), (32, .aload_n 0, 1), (33, .getfield 9, 3), (36, .invokevirtual 72, 3), (39, .aload_n 0, 1), (40, .iload_n 1, 1), (41, .invokevirtual 210, 3), (44, .ifCond .ne 5, 3), (49, .aload_n 0, 1), (50, .getfield 15, 3), (53, .iload_n 2, 1), (54, .bipush 60, 2), (56, .if_icmp .ne 8, 3), (59, .bipush 8, 2)] = true ∧ dOk cX1_readExpression [(61, .goto 5, 3), (66, .invokevirtual 206, 3), (69, .iconst 1, 1), (70, .ireturn, 1), (47, .iconst 0, 1), (48, .ireturn, 1), (24, .iload_n 2, 1), (25, .bipush 61, 2), (27, .if_icmp .eq 5, 3), (64, .bipush 9, 2), (30, .iconst 1, 1), (31, .ireturn, 1), (8, .iconst 0, 1), (9, .ireturn, 1)] = true := by decide +kernel
theorem dX1_readExpression_0 : decode cX1_readExpression 0 = .ok (.aload_n 0, 1) := dr9 dk9_dX1_readExpression_0_0.1 0 (0, .aload_n 0, 1) rfl
theorem dX1_readExpression_1 : decode cX1_readExpression 1 = .ok (.iload_n 1, 1) := dr9 dk9_dX1_readExpression_0_0.1 1 (1, .iload_n 1, 1) rfl
theorem dX1_readExpression_2 : decode cX1_readExpression 2 = .ok (.invokevirtual 210, 3) := dr9 dk9_dX1_readExpression_0_0.1 2 (2, .invokevirtual 210, 3) rfl
theorem dX1_readExpression_5 : decode cX1_readExpression 5 = .ok (.ifCond .ne 5, 3) := dr9 dk9_dX1_readExpression_0_0.1 3 (5, .ifCond .ne 5, 3) rfl
theorem dX1_readExpression_10 : decode cX1_readExpression 10 = .ok (.aload_n 0, 1) := dr9 dk9_dX1_readExpression_0_0.1 4 (10, .aload_n 0, 1) rfl
theorem dX1_readExpression_11 : decode cX1_readExpression 11 = .ok (.getfield 9, 3) := dr9 dk9_dX1_readExpression_0_0.1 5 (11, .getfield 9, 3) rfl
theorem dX1_readExpression_14 : decode cX1_readExpression 14 = .ok (.getfield 37, 3) := dr9 dk9_dX1_readExpression_0_0.1 6 (14, .getfield 37, 3) rfl
theorem dX1_readExpression_17 : decode cX1_readExpression 17 = .ok (.istore_n 2, 1) := dr9 dk9_dX1_readExpression_0_0.1 7 (17, .istore_n 2, 1) rfl
theorem dX1_readExpression_18 : decode cX1_readExpression 18 = .ok (.iload_n 2, 1) := dr9 dk9_dX1_readExpression_0_0.1 8 (18, .iload_n 2, 1) rfl
theorem dX1_readExpression_19 : decode cX1_readExpression 19 = .ok (.bipush 60, 2) := dr9 dk9_dX1_readExpression_0_0.1 9 (19, .bipush 60, 2) rfl
theorem dX1_readExpression_21 : decode cX1_readExpression 21 = .ok (.if_icmp .eq 11, 3) := dr9 dk9_dX1_readExpression_0_0.1 10 (21, .if_icmp .eq 11, 3) rfl
theorem dX1_readExpression_32 : decode cX1_readExpression 32 = .ok (.aload_n 0, 1) := dr9 dk9_dX1_readExpression_0_0.1 11 (32, .aload_n 0, 1) rfl
theorem dX1_readExpression_33 : decode cX1_readExpression 33 = .ok (.getfield 9, 3) := dr9 dk9_dX1_readExpression_0_0.1 12 (33, .getfield 9, 3) rfl
theorem dX1_readExpression_36 : decode cX1_readExpression 36 = .ok (.invokevirtual 72, 3) := dr9 dk9_dX1_readExpression_0_0.1 13 (36, .invokevirtual 72, 3) rfl
theorem dX1_readExpression_39 : decode cX1_readExpression 39 = .ok (.aload_n 0, 1) := dr9 dk9_dX1_readExpression_0_0.1 14 (39, .aload_n 0, 1) rfl
theorem dX1_readExpression_40 : decode cX1_readExpression 40 = .ok (.iload_n 1, 1) := dr9 dk9_dX1_readExpression_0_0.1 15 (40, .iload_n 1, 1) rfl
theorem dX1_readExpression_41 : decode cX1_readExpression 41 = .ok (.invokevirtual 210, 3) := dr9 dk9_dX1_readExpression_0_0.1 16 (41, .invokevirtual 210, 3) rfl
theorem dX1_readExpression_44 : decode cX1_readExpression 44 = .ok (.ifCond .ne 5, 3) := dr9 dk9_dX1_readExpression_0_0.1 17 (44, .ifCond .ne 5, 3) rfl
theorem dX1_readExpression_49 : decode cX1_readExpression 49 = .ok (.aload_n 0, 1) := dr9 dk9_dX1_readExpression_0_0.1 18 (49, .aload_n 0, 1) rfl
theorem dX1_readExpression_50 : decode cX1_readExpression 50 = .ok (.getfield 15, 3) := dr9 dk9_dX1_readExpression_0_0.1 19 (50, .getfield 15, 3) rfl
theorem dX1_readExpression_53 : decode cX1_readExpression 53 = .ok (.iload_n 2, 1) := dr9 dk9_dX1_readExpression_0_0.1 20 (53, .iload_n 2, 1) rfl
theorem dX1_readExpression_54 : decode cX1_readExpression 54 = .ok (.bipush 60, 2) := dr9 dk9_dX1_readExpression_0_0.1 21 (54, .bipush 60, 2) rfl
theorem dX1_readExpression_56 : decode cX1_readExpression 56 = .ok (.if_icmp .ne 8, 3) := dr9 dk9_dX1_readExpression_0_0.1 22 (56, .if_icmp .ne 8, 3) rfl
theorem dX1_readExpression_59 : decode cX1_readExpression 59 = .ok (.bipush 8, 2) := dr9 dk9_dX1_readExpression_0_0.1 23 (59, .bipush 8, 2) rfl
theorem dX1_readExpression_61 : decode cX1_readExpression 61 = .ok (.goto 5, 3) := dr9 dk9_dX1_readExpression_0_0.2 0 (61, .goto 5, 3) rfl
theorem dX1_readExpression_66 : decode cX1_readExpression 66 = .ok (.invokevirtual 206, 3) := dr9 dk9_dX1_readExpression_0_0.2 1 (66, .invokevirtual 206, 3) rfl
theorem dX1_readExpression_69 : decode cX1_readExpression 69 = .ok (.iconst 1, 1) := dr9 dk9_dX1_readExpression_0_0.2 2 (69, .iconst 1, 1) rfl
theorem dX1_readExpression_70 : decode cX1_readExpression 70 = .ok (.ireturn, 1) := dr9 dk9_dX1_readExpression_0_0.2 3 (70, .ireturn, 1) rfl
theorem dX1_readExpression_47 : decode cX1_readExpression 47 = .ok (.iconst 0, 1) := dr9 dk9_dX1_readExpression_0_0.2 4 (47, .iconst 0, 1) rfl
theorem dX1_readExpression_48 : decode cX1_readExpression 48 = .ok (.ireturn, 1) := dr9 dk9_dX1_readExpression_0_0.2 5 (48, .ireturn, 1) rfl
theorem dX1_readExpression_24 : decode cX1_readExpression 24 = .ok (.iload_n 2, 1) := dr9 dk9_dX1_readExpression_0_0.2 6 (24, .iload_n 2, 1) rfl
theorem dX1_readExpression_25 : decode cX1_readExpression 25 = .ok (.bipush 61, 2) := dr9 dk9_dX1_readExpression_0_0.2 7 (25, .bipush 61, 2) rfl
theorem dX1_readExpression_27 : decode cX1_readExpression 27 = .ok (.if_icmp .eq 5, 3) := dr9 dk9_dX1_readExpression_0_0.2 8 (27, .if_icmp .eq 5, 3) rfl
theorem dX1_readExpression_64 : decode cX1_readExpression 64 = .ok (.bipush 9, 2) := dr9 dk9_dX1_readExpression_0_0.2 9 (64, .bipush 9, 2) rfl
theorem dX1_readExpression_30 : decode cX1_readExpression 30 = .ok (.iconst 1, 1) := dr9 dk9_dX1_readExpression_0_0.2 10 (30, .iconst 1, 1) rfl
theorem dX1_readExpression_31 : decode cX1_readExpression 31 = .ok (.ireturn, 1) := dr9 dk9_dX1_readExpression_0_0.2 11 (31, .ireturn, 1) rfl
theorem dX1_readExpression_8 : decode cX1_readExpression 8 = .ok (.iconst 0, 1) := dr9 dk9_dX1_readExpression_0_0.2 12 (8, .iconst 0, 1) rfl
theorem dX1_readExpression_9 : decode cX1_readExpression 9 = .ok (.ireturn, 1) := dr9 dk9_dX1_readExpression_0_0.2 13 (9, .ireturn, 1) rfl
theorem dk9_dX1_readSum_0_0 : dOk cX1_readSum [(0, .aload_n 0, 1), (1, .iload_n 1, 1), (2, .invokevirtual 213, 3), (5, .ifCond .ne 5, 3), (10, .iconst 0, 1), (11, .istore_n 2, 1), (12, .iload_n 2, 1), (13, .sipush 4000, 3), (16, .if_icmp .ge 77, 3), (93, .iconst 1, 1), (94, .ireturn, 1), (19, .aload_n 0, 1), (20, .getfield 9, 3), (23, .getfield 37, 3), (26, .bipush 43, 2), (28, .if_icmp .eq 15, 3), (43, .aload_n 0, 1), (44, .getfield 9, 3), (47, .getfield 37, 3), (50, .bipush 43, 2), (52, .if_icmp .ne 7, 3), (55, .iconst 5, 1), (56, .goto 5, 3), (61, .istore_n 3, 1)] = true ∧ dOk cX1_readSum [(62, .aload_n 0, 1), (63, .getfield 9, 3), (66, .invokevirtual 72, 3), (69, .aload_n 0, 1), (70, .iload_n 1, 1), (71, .invokevirtual 213, 3), (74, .ifCond .ne 5, 3), (79, .aload_n 0, 1), (80, .getfield 15, 3), (83, .iload_n 3, 1), (84, .invokevirtual 206, 3), (87, .iinc 2 1, 3), (90, .goto (-78), 3), (77, .iconst 0, 1), (78, .ireturn, 1), (31, .aload_n 0, 1), (32, .getfield 9, 3), (35, .getfield 37, 3), (38, .bipush 45, 2), (40, .if_icmp .ne 53, 3), (59, .bipush 6, 2), (8, .iconst 0, 1), (9, .ireturn, 1)] = true := by decide +kernel
theorem dX1_readSum_0 : decode cX1_readSum 0 = .ok (.aload_n 0, 1) := dr9 dk9_dX1_readSum_0_0.1 0 (0, .aload_n 0, 1) rfl
theorem dX1_readSum_1 : decode cX1_readSum 1 = .ok (.iload_n 1, 1) := dr9 dk9_dX1_readSum_0_0.1 1 (1, .iload_n 1, 1) rfl
theorem dX1_readSum_2 : decode cX1_readSum 2 = .ok (.invokevirtual 213, 3) := dr9 dk9_dX1_readSum_0_0.1 2 (2, .invokevirtual 213, 3) rfl
theorem dX1_readSum_5 : decode cX1_readSum 5 = .ok (.ifCond .ne 5, 3) := dr9 dk9_dX1_readSum_0_0.1 3 (5, .ifCond .ne 5, 3) rfl
theorem dX1_readSum_10 : decode cX1_readSum 10 = .ok (.iconst 0, 1) := dr9 dk9_dX1_readSum_0_0.1 4 (10, .iconst 0, 1) rfl
theorem dX1_readSum_11 : decode cX1_readSum 11 = .ok (.istore_n 2, 1) := dr9 dk9_dX1_readSum_0_0.1 5 (11, .istore_n 2, 1) rfl
theorem dX1_readSum_12 : decode cX1_readSum 12 = .ok (.iload_n 2, 1) := dr9 dk9_dX1_readSum_0_0.1 6 (12, .iload_n 2, 1) rfl
theorem dX1_readSum_13 : decode cX1_readSum 13 = .ok (.sipush 4000, 3) := dr9 dk9_dX1_readSum_0_0.1 7 (13, .sipush 4000, 3) rfl
theorem dX1_readSum_16 : decode cX1_readSum 16 = .ok (.if_icmp .ge 77, 3) := dr9 dk9_dX1_readSum_0_0.1 8 (16, .if_icmp .ge 77, 3) rfl
theorem dX1_readSum_93 : decode cX1_readSum 93 = .ok (.iconst 1, 1) := dr9 dk9_dX1_readSum_0_0.1 9 (93, .iconst 1, 1) rfl
theorem dX1_readSum_94 : decode cX1_readSum 94 = .ok (.ireturn, 1) := dr9 dk9_dX1_readSum_0_0.1 10 (94, .ireturn, 1) rfl
theorem dX1_readSum_19 : decode cX1_readSum 19 = .ok (.aload_n 0, 1) := dr9 dk9_dX1_readSum_0_0.1 11 (19, .aload_n 0, 1) rfl
theorem dX1_readSum_20 : decode cX1_readSum 20 = .ok (.getfield 9, 3) := dr9 dk9_dX1_readSum_0_0.1 12 (20, .getfield 9, 3) rfl
theorem dX1_readSum_23 : decode cX1_readSum 23 = .ok (.getfield 37, 3) := dr9 dk9_dX1_readSum_0_0.1 13 (23, .getfield 37, 3) rfl
theorem dX1_readSum_26 : decode cX1_readSum 26 = .ok (.bipush 43, 2) := dr9 dk9_dX1_readSum_0_0.1 14 (26, .bipush 43, 2) rfl
theorem dX1_readSum_28 : decode cX1_readSum 28 = .ok (.if_icmp .eq 15, 3) := dr9 dk9_dX1_readSum_0_0.1 15 (28, .if_icmp .eq 15, 3) rfl
theorem dX1_readSum_43 : decode cX1_readSum 43 = .ok (.aload_n 0, 1) := dr9 dk9_dX1_readSum_0_0.1 16 (43, .aload_n 0, 1) rfl
theorem dX1_readSum_44 : decode cX1_readSum 44 = .ok (.getfield 9, 3) := dr9 dk9_dX1_readSum_0_0.1 17 (44, .getfield 9, 3) rfl
theorem dX1_readSum_47 : decode cX1_readSum 47 = .ok (.getfield 37, 3) := dr9 dk9_dX1_readSum_0_0.1 18 (47, .getfield 37, 3) rfl
theorem dX1_readSum_50 : decode cX1_readSum 50 = .ok (.bipush 43, 2) := dr9 dk9_dX1_readSum_0_0.1 19 (50, .bipush 43, 2) rfl
theorem dX1_readSum_52 : decode cX1_readSum 52 = .ok (.if_icmp .ne 7, 3) := dr9 dk9_dX1_readSum_0_0.1 20 (52, .if_icmp .ne 7, 3) rfl
theorem dX1_readSum_55 : decode cX1_readSum 55 = .ok (.iconst 5, 1) := dr9 dk9_dX1_readSum_0_0.1 21 (55, .iconst 5, 1) rfl
theorem dX1_readSum_56 : decode cX1_readSum 56 = .ok (.goto 5, 3) := dr9 dk9_dX1_readSum_0_0.1 22 (56, .goto 5, 3) rfl
theorem dX1_readSum_61 : decode cX1_readSum 61 = .ok (.istore_n 3, 1) := dr9 dk9_dX1_readSum_0_0.1 23 (61, .istore_n 3, 1) rfl
theorem dX1_readSum_62 : decode cX1_readSum 62 = .ok (.aload_n 0, 1) := dr9 dk9_dX1_readSum_0_0.2 0 (62, .aload_n 0, 1) rfl
theorem dX1_readSum_63 : decode cX1_readSum 63 = .ok (.getfield 9, 3) := dr9 dk9_dX1_readSum_0_0.2 1 (63, .getfield 9, 3) rfl
theorem dX1_readSum_66 : decode cX1_readSum 66 = .ok (.invokevirtual 72, 3) := dr9 dk9_dX1_readSum_0_0.2 2 (66, .invokevirtual 72, 3) rfl
theorem dX1_readSum_69 : decode cX1_readSum 69 = .ok (.aload_n 0, 1) := dr9 dk9_dX1_readSum_0_0.2 3 (69, .aload_n 0, 1) rfl
theorem dX1_readSum_70 : decode cX1_readSum 70 = .ok (.iload_n 1, 1) := dr9 dk9_dX1_readSum_0_0.2 4 (70, .iload_n 1, 1) rfl
theorem dX1_readSum_71 : decode cX1_readSum 71 = .ok (.invokevirtual 213, 3) := dr9 dk9_dX1_readSum_0_0.2 5 (71, .invokevirtual 213, 3) rfl
theorem dX1_readSum_74 : decode cX1_readSum 74 = .ok (.ifCond .ne 5, 3) := dr9 dk9_dX1_readSum_0_0.2 6 (74, .ifCond .ne 5, 3) rfl
theorem dX1_readSum_79 : decode cX1_readSum 79 = .ok (.aload_n 0, 1) := dr9 dk9_dX1_readSum_0_0.2 7 (79, .aload_n 0, 1) rfl
theorem dX1_readSum_80 : decode cX1_readSum 80 = .ok (.getfield 15, 3) := dr9 dk9_dX1_readSum_0_0.2 8 (80, .getfield 15, 3) rfl
theorem dX1_readSum_83 : decode cX1_readSum 83 = .ok (.iload_n 3, 1) := dr9 dk9_dX1_readSum_0_0.2 9 (83, .iload_n 3, 1) rfl
theorem dX1_readSum_84 : decode cX1_readSum 84 = .ok (.invokevirtual 206, 3) := dr9 dk9_dX1_readSum_0_0.2 10 (84, .invokevirtual 206, 3) rfl
theorem dX1_readSum_87 : decode cX1_readSum 87 = .ok (.iinc 2 1, 3) := dr9 dk9_dX1_readSum_0_0.2 11 (87, .iinc 2 1, 3) rfl
theorem dX1_readSum_90 : decode cX1_readSum 90 = .ok (.goto (-78), 3) := dr9 dk9_dX1_readSum_0_0.2 12 (90, .goto (-78), 3) rfl
theorem dX1_readSum_77 : decode cX1_readSum 77 = .ok (.iconst 0, 1) := dr9 dk9_dX1_readSum_0_0.2 13 (77, .iconst 0, 1) rfl
theorem dX1_readSum_78 : decode cX1_readSum 78 = .ok (.ireturn, 1) := dr9 dk9_dX1_readSum_0_0.2 14 (78, .ireturn, 1) rfl
theorem dX1_readSum_31 : decode cX1_readSum 31 = .ok (.aload_n 0, 1) := dr9 dk9_dX1_readSum_0_0.2 15 (31, .aload_n 0, 1) rfl
theorem dX1_readSum_32 : decode cX1_readSum 32 = .ok (.getfield 9, 3) := dr9 dk9_dX1_readSum_0_0.2 16 (32, .getfield 9, 3) rfl
theorem dX1_readSum_35 : decode cX1_readSum 35 = .ok (.getfield 37, 3) := dr9 dk9_dX1_readSum_0_0.2 17 (35, .getfield 37, 3) rfl
theorem dX1_readSum_38 : decode cX1_readSum 38 = .ok (.bipush 45, 2) := dr9 dk9_dX1_readSum_0_0.2 18 (38, .bipush 45, 2) rfl
theorem dX1_readSum_40 : decode cX1_readSum 40 = .ok (.if_icmp .ne 53, 3) := dr9 dk9_dX1_readSum_0_0.2 19 (40, .if_icmp .ne 53, 3) rfl
theorem dX1_readSum_59 : decode cX1_readSum 59 = .ok (.bipush 6, 2) := dr9 dk9_dX1_readSum_0_0.2 20 (59, .bipush 6, 2) rfl
theorem dX1_readSum_8 : decode cX1_readSum 8 = .ok (.iconst 0, 1) := dr9 dk9_dX1_readSum_0_0.2 21 (8, .iconst 0, 1) rfl
theorem dX1_readSum_9 : decode cX1_readSum 9 = .ok (.ireturn, 1) := dr9 dk9_dX1_readSum_0_0.2 22 (9, .ireturn, 1) rfl
theorem dk9_dX1_readProduct_0_0 : dOk cX1_readProduct [(0, .aload_n 0, 1), (1, .iload_n 1, 1), (2, .invokevirtual 216, 3), (5, .ifCond .ne 5, 3), (10, .iconst 0, 1), (11, .istore_n 2, 1), (12, .iload_n 2, 1), (13, .sipush 4000, 3), (16, .if_icmp .ge 47, 3), (63, .iconst 1, 1), (64, .ireturn, 1), (19, .aload_n 0, 1), (20, .getfield 9, 3), (23, .getfield 37, 3), (26, .bipush 42, 2), (28, .if_icmp .ne 35, 3), (31, .aload_n 0, 1), (32, .getfield 9, 3), (35, .invokevirtual 72, 3), (38, .aload_n 0, 1), (39, .iload_n 1, 1), (40, .invokevirtual 216, 3), (43, .ifCond .ne 5, 3), (48, .aload_n 0, 1)] = true ∧ dOk cX1_readProduct [(49, .getfield 15, 3), (52, .bipush 7, 2), (54, .invokevirtual 206, 3), (57, .iinc 2 1, 3), (60, .goto (-48), 3), (46, .iconst 0, 1), (47, .ireturn, 1), (8, .iconst 0, 1), (9, .ireturn, 1)] = true := by decide +kernel
theorem dX1_readProduct_0 : decode cX1_readProduct 0 = .ok (.aload_n 0, 1) := dr9 dk9_dX1_readProduct_0_0.1 0 (0, .aload_n 0, 1) rfl
theorem dX1_readProduct_1 : decode cX1_readProduct 1 = .ok (.iload_n 1, 1) := dr9 dk9_dX1_readProduct_0_0.1 1 (1, .iload_n 1, 1) rfl
theorem dX1_readProduct_2 : decode cX1_readProduct 2 = .ok (.invokevirtual 216, 3) := dr9 dk9_dX1_readProduct_0_0.1 2 (2, .invokevirtual 216, 3) rfl
theorem dX1_readProduct_5 : decode cX1_readProduct 5 = .ok (.ifCond .ne 5, 3) := dr9 dk9_dX1_readProduct_0_0.1 3 (5, .ifCond .ne 5, 3) rfl
theorem dX1_readProduct_10 : decode cX1_readProduct 10 = .ok (.iconst 0, 1) := dr9 dk9_dX1_readProduct_0_0.1 4 (10, .iconst 0, 1) rfl
theorem dX1_readProduct_11 : decode cX1_readProduct 11 = .ok (.istore_n 2, 1) := dr9 dk9_dX1_readProduct_0_0.1 5 (11, .istore_n 2, 1) rfl
theorem dX1_readProduct_12 : decode cX1_readProduct 12 = .ok (.iload_n 2, 1) := dr9 dk9_dX1_readProduct_0_0.1 6 (12, .iload_n 2, 1) rfl
theorem dX1_readProduct_13 : decode cX1_readProduct 13 = .ok (.sipush 4000, 3) := dr9 dk9_dX1_readProduct_0_0.1 7 (13, .sipush 4000, 3) rfl
theorem dX1_readProduct_16 : decode cX1_readProduct 16 = .ok (.if_icmp .ge 47, 3) := dr9 dk9_dX1_readProduct_0_0.1 8 (16, .if_icmp .ge 47, 3) rfl
theorem dX1_readProduct_63 : decode cX1_readProduct 63 = .ok (.iconst 1, 1) := dr9 dk9_dX1_readProduct_0_0.1 9 (63, .iconst 1, 1) rfl
theorem dX1_readProduct_64 : decode cX1_readProduct 64 = .ok (.ireturn, 1) := dr9 dk9_dX1_readProduct_0_0.1 10 (64, .ireturn, 1) rfl
theorem dX1_readProduct_19 : decode cX1_readProduct 19 = .ok (.aload_n 0, 1) := dr9 dk9_dX1_readProduct_0_0.1 11 (19, .aload_n 0, 1) rfl
theorem dX1_readProduct_20 : decode cX1_readProduct 20 = .ok (.getfield 9, 3) := dr9 dk9_dX1_readProduct_0_0.1 12 (20, .getfield 9, 3) rfl
theorem dX1_readProduct_23 : decode cX1_readProduct 23 = .ok (.getfield 37, 3) := dr9 dk9_dX1_readProduct_0_0.1 13 (23, .getfield 37, 3) rfl
theorem dX1_readProduct_26 : decode cX1_readProduct 26 = .ok (.bipush 42, 2) := dr9 dk9_dX1_readProduct_0_0.1 14 (26, .bipush 42, 2) rfl
theorem dX1_readProduct_28 : decode cX1_readProduct 28 = .ok (.if_icmp .ne 35, 3) := dr9 dk9_dX1_readProduct_0_0.1 15 (28, .if_icmp .ne 35, 3) rfl
theorem dX1_readProduct_31 : decode cX1_readProduct 31 = .ok (.aload_n 0, 1) := dr9 dk9_dX1_readProduct_0_0.1 16 (31, .aload_n 0, 1) rfl
theorem dX1_readProduct_32 : decode cX1_readProduct 32 = .ok (.getfield 9, 3) := dr9 dk9_dX1_readProduct_0_0.1 17 (32, .getfield 9, 3) rfl
theorem dX1_readProduct_35 : decode cX1_readProduct 35 = .ok (.invokevirtual 72, 3) := dr9 dk9_dX1_readProduct_0_0.1 18 (35, .invokevirtual 72, 3) rfl
theorem dX1_readProduct_38 : decode cX1_readProduct 38 = .ok (.aload_n 0, 1) := dr9 dk9_dX1_readProduct_0_0.1 19 (38, .aload_n 0, 1) rfl
theorem dX1_readProduct_39 : decode cX1_readProduct 39 = .ok (.iload_n 1, 1) := dr9 dk9_dX1_readProduct_0_0.1 20 (39, .iload_n 1, 1) rfl
theorem dX1_readProduct_40 : decode cX1_readProduct 40 = .ok (.invokevirtual 216, 3) := dr9 dk9_dX1_readProduct_0_0.1 21 (40, .invokevirtual 216, 3) rfl
theorem dX1_readProduct_43 : decode cX1_readProduct 43 = .ok (.ifCond .ne 5, 3) := dr9 dk9_dX1_readProduct_0_0.1 22 (43, .ifCond .ne 5, 3) rfl
theorem dX1_readProduct_48 : decode cX1_readProduct 48 = .ok (.aload_n 0, 1) := dr9 dk9_dX1_readProduct_0_0.1 23 (48, .aload_n 0, 1) rfl
theorem dX1_readProduct_49 : decode cX1_readProduct 49 = .ok (.getfield 15, 3) := dr9 dk9_dX1_readProduct_0_0.2 0 (49, .getfield 15, 3) rfl
theorem dX1_readProduct_52 : decode cX1_readProduct 52 = .ok (.bipush 7, 2) := dr9 dk9_dX1_readProduct_0_0.2 1 (52, .bipush 7, 2) rfl
theorem dX1_readProduct_54 : decode cX1_readProduct 54 = .ok (.invokevirtual 206, 3) := dr9 dk9_dX1_readProduct_0_0.2 2 (54, .invokevirtual 206, 3) rfl
theorem dX1_readProduct_57 : decode cX1_readProduct 57 = .ok (.iinc 2 1, 3) := dr9 dk9_dX1_readProduct_0_0.2 3 (57, .iinc 2 1, 3) rfl
theorem dX1_readProduct_60 : decode cX1_readProduct 60 = .ok (.goto (-48), 3) := dr9 dk9_dX1_readProduct_0_0.2 4 (60, .goto (-48), 3) rfl
theorem dX1_readProduct_46 : decode cX1_readProduct 46 = .ok (.iconst 0, 1) := dr9 dk9_dX1_readProduct_0_0.2 5 (46, .iconst 0, 1) rfl
theorem dX1_readProduct_47 : decode cX1_readProduct 47 = .ok (.ireturn, 1) := dr9 dk9_dX1_readProduct_0_0.2 6 (47, .ireturn, 1) rfl
theorem dX1_readProduct_8 : decode cX1_readProduct 8 = .ok (.iconst 0, 1) := dr9 dk9_dX1_readProduct_0_0.2 7 (8, .iconst 0, 1) rfl
theorem dX1_readProduct_9 : decode cX1_readProduct 9 = .ok (.ireturn, 1) := dr9 dk9_dX1_readProduct_0_0.2 8 (9, .ireturn, 1) rfl
theorem dk9_dX1_readWithin_0_0 : dOk cX1_readWithin [(0, .aload_n 0, 1), (1, .bipush 40, 2), (3, .invokevirtual 88, 3), (6, .ifCond .eq 26, 3), (32, .iconst 0, 1), (33, .ireturn, 1), (9, .aload_n 0, 1), (10, .iload_n 1, 1), (11, .iconst 1, 1), (12, .iadd, 1), (13, .invokevirtual 203, 3), (16, .ifCond .eq 16, 3), (19, .aload_n 0, 1), (20, .bipush 41, 2), (22, .invokevirtual 88, 3), (25, .ifCond .eq 7, 3), (28, .iconst 1, 1), (29, .goto 4, 3)] = true := by decide +kernel
theorem dX1_readWithin_0 : decode cX1_readWithin 0 = .ok (.aload_n 0, 1) := dr9 dk9_dX1_readWithin_0_0 0 (0, .aload_n 0, 1) rfl
theorem dX1_readWithin_1 : decode cX1_readWithin 1 = .ok (.bipush 40, 2) := dr9 dk9_dX1_readWithin_0_0 1 (1, .bipush 40, 2) rfl
theorem dX1_readWithin_3 : decode cX1_readWithin 3 = .ok (.invokevirtual 88, 3) := dr9 dk9_dX1_readWithin_0_0 2 (3, .invokevirtual 88, 3) rfl
theorem dX1_readWithin_6 : decode cX1_readWithin 6 = .ok (.ifCond .eq 26, 3) := dr9 dk9_dX1_readWithin_0_0 3 (6, .ifCond .eq 26, 3) rfl
theorem dX1_readWithin_32 : decode cX1_readWithin 32 = .ok (.iconst 0, 1) := dr9 dk9_dX1_readWithin_0_0 4 (32, .iconst 0, 1) rfl
theorem dX1_readWithin_33 : decode cX1_readWithin 33 = .ok (.ireturn, 1) := dr9 dk9_dX1_readWithin_0_0 5 (33, .ireturn, 1) rfl
theorem dX1_readWithin_9 : decode cX1_readWithin 9 = .ok (.aload_n 0, 1) := dr9 dk9_dX1_readWithin_0_0 6 (9, .aload_n 0, 1) rfl
theorem dX1_readWithin_10 : decode cX1_readWithin 10 = .ok (.iload_n 1, 1) := dr9 dk9_dX1_readWithin_0_0 7 (10, .iload_n 1, 1) rfl
theorem dX1_readWithin_11 : decode cX1_readWithin 11 = .ok (.iconst 1, 1) := dr9 dk9_dX1_readWithin_0_0 8 (11, .iconst 1, 1) rfl
theorem dX1_readWithin_12 : decode cX1_readWithin 12 = .ok (.iadd, 1) := dr9 dk9_dX1_readWithin_0_0 9 (12, .iadd, 1) rfl
theorem dX1_readWithin_13 : decode cX1_readWithin 13 = .ok (.invokevirtual 203, 3) := dr9 dk9_dX1_readWithin_0_0 10 (13, .invokevirtual 203, 3) rfl
theorem dX1_readWithin_16 : decode cX1_readWithin 16 = .ok (.ifCond .eq 16, 3) := dr9 dk9_dX1_readWithin_0_0 11 (16, .ifCond .eq 16, 3) rfl
theorem dX1_readWithin_19 : decode cX1_readWithin 19 = .ok (.aload_n 0, 1) := dr9 dk9_dX1_readWithin_0_0 12 (19, .aload_n 0, 1) rfl
theorem dX1_readWithin_20 : decode cX1_readWithin 20 = .ok (.bipush 41, 2) := dr9 dk9_dX1_readWithin_0_0 13 (20, .bipush 41, 2) rfl
theorem dX1_readWithin_22 : decode cX1_readWithin 22 = .ok (.invokevirtual 88, 3) := dr9 dk9_dX1_readWithin_0_0 14 (22, .invokevirtual 88, 3) rfl
theorem dX1_readWithin_25 : decode cX1_readWithin 25 = .ok (.ifCond .eq 7, 3) := dr9 dk9_dX1_readWithin_0_0 15 (25, .ifCond .eq 7, 3) rfl
theorem dX1_readWithin_28 : decode cX1_readWithin 28 = .ok (.iconst 1, 1) := dr9 dk9_dX1_readWithin_0_0 16 (28, .iconst 1, 1) rfl
theorem dX1_readWithin_29 : decode cX1_readWithin 29 = .ok (.goto 4, 3) := dr9 dk9_dX1_readWithin_0_0 17 (29, .goto 4, 3) rfl
theorem dk9_dX1_readPart_0_0 : dOk cX1_readPart [(0, .aload_n 0, 1), (1, .invokevirtual 219, 3), (4, .ifCond .ne 9, 3), (13, .iload_n 1, 1), (14, .bipush 8, 2), (16, .if_icmp .lt 9, 3), (25, .aload_n 0, 1), (26, .getfield 9, 3), (29, .getfield 37, 3), (32, .istore_n 2, 1), (33, .aload_n 0, 1), (34, .getfield 9, 3), (37, .getfield 222, 3), (40, .lstore_n 3, 1), (41, .aload_n 0, 1), (42, .getfield 15, 3), (45, .iconst 1, 1), (46, .invokevirtual 206, 3), (49, .aload_n 0, 1), (50, .getfield 9, 3), (53, .invokevirtual 72, 3), (56, .iload_n 2, 1), (57, .lookupswitch 206 #[(2, 75), (40, 90), (45, 115), (130, 168), (143, 84), (144, 139), (145, 194), (146, 200)], 75), (132, .aload_n 0, 1)] = true ∧ dOk cX1_readPart [(133, .bipush 10, 2), (135, .lload_n 3, 1), (136, .l2i, 1), (137, .invokevirtual 225, 3), (140, .ireturn, 1), (147, .aload_n 0, 1), (148, .iload_n 1, 1), (149, .iconst 1, 1), (150, .iadd, 1), (151, .invokevirtual 203, 3), (154, .ifCond .eq 16, 3), (170, .iconst 0, 1), (171, .ireturn, 1), (157, .aload_n 0, 1), (158, .bipush 41, 2), (160, .invokevirtual 88, 3), (163, .ifCond .eq 7, 3), (166, .iconst 1, 1), (167, .goto 4, 3), (172, .aload_n 0, 1), (173, .iload_n 1, 1), (174, .iconst 1, 1), (175, .iadd, 1), (176, .invokevirtual 216, 3)] = true ∧ dOk cX1_readPart [(179, .ifCond .eq 15, 3), (194, .iconst 0, 1), (195, .ireturn, 1), (182, .aload_n 0, 1), (183, .iconst 3, 1), (184, .invokevirtual 228, 3), (187, .ifCond .eq 7, 3), (190, .iconst 1, 1), (191, .goto 4, 3), (225, .aload_n 0, 1), (226, .invokevirtual 146, 3), (229, .ifCond .eq 20, 3), (249, .iconst 0, 1), (250, .ireturn, 1), (232, .aload_n 0, 1), (233, .bipush 11, 2), (235, .aload_n 0, 1), (236, .getfield 137, 3), (239, .invokevirtual 225, 3), (242, .ifCond .eq 7, 3), (245, .iconst 1, 1), (246, .goto 4, 3), (141, .aload_n 0, 1), (142, .iconst 2, 1)] = true ∧ dOk cX1_readPart [(143, .invokevirtual 228, 3), (146, .ireturn, 1), (196, .aload_n 0, 1), (197, .iconst 1, 1), (198, .bipush 9, 2), (200, .invokevirtual 103, 3), (203, .ifCond .eq 20, 3), (223, .iconst 0, 1), (224, .ireturn, 1), (206, .aload_n 0, 1), (207, .bipush 12, 2), (209, .aload_n 0, 1), (210, .getfield 110, 3), (213, .invokevirtual 225, 3), (216, .ifCond .eq 7, 3), (219, .iconst 1, 1), (220, .goto 4, 3), (251, .aload_n 0, 1), (252, .iload_n 1, 1), (253, .invokevirtual 231, 3), (256, .ireturn, 1), (257, .aload_n 0, 1), (258, .iload_n 1, 1), (259, .invokevirtual 234, 3)] = true ∧ dOk cX1_readPart [(262, .ireturn, 1), (263, .aload_n 0, 1), (264, .iload_n 1, 1), (265, .invokevirtual 237, 3), (268, .ifCond .eq 15, 3), (283, .iconst 0, 1), (284, .ireturn, 1), (271, .aload_n 0, 1), (272, .iconst 4, 1), (273, .invokevirtual 228, 3), (276, .ifCond .eq 7, 3), (279, .iconst 1, 1), (280, .goto 4, 3), (19, .aload_n 0, 1), (20, .iconst 5, 1), (21, .invokevirtual 47, 3), (24, .ireturn, 1), (7, .aload_n 0, 1), (8, .iconst 1, 1), (9, .invokevirtual 47, 3), (12, .ireturn, 1)] = true := by decide +kernel
theorem dX1_readPart_0 : decode cX1_readPart 0 = .ok (.aload_n 0, 1) := dr9 dk9_dX1_readPart_0_0.1 0 (0, .aload_n 0, 1) rfl
theorem dX1_readPart_1 : decode cX1_readPart 1 = .ok (.invokevirtual 219, 3) := dr9 dk9_dX1_readPart_0_0.1 1 (1, .invokevirtual 219, 3) rfl
theorem dX1_readPart_4 : decode cX1_readPart 4 = .ok (.ifCond .ne 9, 3) := dr9 dk9_dX1_readPart_0_0.1 2 (4, .ifCond .ne 9, 3) rfl
theorem dX1_readPart_13 : decode cX1_readPart 13 = .ok (.iload_n 1, 1) := dr9 dk9_dX1_readPart_0_0.1 3 (13, .iload_n 1, 1) rfl
theorem dX1_readPart_14 : decode cX1_readPart 14 = .ok (.bipush 8, 2) := dr9 dk9_dX1_readPart_0_0.1 4 (14, .bipush 8, 2) rfl
theorem dX1_readPart_16 : decode cX1_readPart 16 = .ok (.if_icmp .lt 9, 3) := dr9 dk9_dX1_readPart_0_0.1 5 (16, .if_icmp .lt 9, 3) rfl
theorem dX1_readPart_25 : decode cX1_readPart 25 = .ok (.aload_n 0, 1) := dr9 dk9_dX1_readPart_0_0.1 6 (25, .aload_n 0, 1) rfl
theorem dX1_readPart_26 : decode cX1_readPart 26 = .ok (.getfield 9, 3) := dr9 dk9_dX1_readPart_0_0.1 7 (26, .getfield 9, 3) rfl
theorem dX1_readPart_29 : decode cX1_readPart 29 = .ok (.getfield 37, 3) := dr9 dk9_dX1_readPart_0_0.1 8 (29, .getfield 37, 3) rfl
theorem dX1_readPart_32 : decode cX1_readPart 32 = .ok (.istore_n 2, 1) := dr9 dk9_dX1_readPart_0_0.1 9 (32, .istore_n 2, 1) rfl
theorem dX1_readPart_33 : decode cX1_readPart 33 = .ok (.aload_n 0, 1) := dr9 dk9_dX1_readPart_0_0.1 10 (33, .aload_n 0, 1) rfl
theorem dX1_readPart_34 : decode cX1_readPart 34 = .ok (.getfield 9, 3) := dr9 dk9_dX1_readPart_0_0.1 11 (34, .getfield 9, 3) rfl
theorem dX1_readPart_37 : decode cX1_readPart 37 = .ok (.getfield 222, 3) := dr9 dk9_dX1_readPart_0_0.1 12 (37, .getfield 222, 3) rfl
theorem dX1_readPart_40 : decode cX1_readPart 40 = .ok (.lstore_n 3, 1) := dr9 dk9_dX1_readPart_0_0.1 13 (40, .lstore_n 3, 1) rfl
theorem dX1_readPart_41 : decode cX1_readPart 41 = .ok (.aload_n 0, 1) := dr9 dk9_dX1_readPart_0_0.1 14 (41, .aload_n 0, 1) rfl
theorem dX1_readPart_42 : decode cX1_readPart 42 = .ok (.getfield 15, 3) := dr9 dk9_dX1_readPart_0_0.1 15 (42, .getfield 15, 3) rfl
theorem dX1_readPart_45 : decode cX1_readPart 45 = .ok (.iconst 1, 1) := dr9 dk9_dX1_readPart_0_0.1 16 (45, .iconst 1, 1) rfl
theorem dX1_readPart_46 : decode cX1_readPart 46 = .ok (.invokevirtual 206, 3) := dr9 dk9_dX1_readPart_0_0.1 17 (46, .invokevirtual 206, 3) rfl
theorem dX1_readPart_49 : decode cX1_readPart 49 = .ok (.aload_n 0, 1) := dr9 dk9_dX1_readPart_0_0.1 18 (49, .aload_n 0, 1) rfl
theorem dX1_readPart_50 : decode cX1_readPart 50 = .ok (.getfield 9, 3) := dr9 dk9_dX1_readPart_0_0.1 19 (50, .getfield 9, 3) rfl
theorem dX1_readPart_53 : decode cX1_readPart 53 = .ok (.invokevirtual 72, 3) := dr9 dk9_dX1_readPart_0_0.1 20 (53, .invokevirtual 72, 3) rfl
theorem dX1_readPart_56 : decode cX1_readPart 56 = .ok (.iload_n 2, 1) := dr9 dk9_dX1_readPart_0_0.1 21 (56, .iload_n 2, 1) rfl
theorem dX1_readPart_57 : decode cX1_readPart 57 = .ok (.lookupswitch 206 #[(2, 75), (40, 90), (45, 115), (130, 168), (143, 84), (144, 139), (145, 194), (146, 200)], 75) := dr9 dk9_dX1_readPart_0_0.1 22 (57, .lookupswitch 206 #[(2, 75), (40, 90), (45, 115), (130, 168), (143, 84), (144, 139), (145, 194), (146, 200)], 75) rfl
theorem dX1_readPart_132 : decode cX1_readPart 132 = .ok (.aload_n 0, 1) := dr9 dk9_dX1_readPart_0_0.1 23 (132, .aload_n 0, 1) rfl
theorem dX1_readPart_133 : decode cX1_readPart 133 = .ok (.bipush 10, 2) := dr9 dk9_dX1_readPart_0_0.2.1 0 (133, .bipush 10, 2) rfl
theorem dX1_readPart_135 : decode cX1_readPart 135 = .ok (.lload_n 3, 1) := dr9 dk9_dX1_readPart_0_0.2.1 1 (135, .lload_n 3, 1) rfl
theorem dX1_readPart_136 : decode cX1_readPart 136 = .ok (.l2i, 1) := dr9 dk9_dX1_readPart_0_0.2.1 2 (136, .l2i, 1) rfl
theorem dX1_readPart_137 : decode cX1_readPart 137 = .ok (.invokevirtual 225, 3) := dr9 dk9_dX1_readPart_0_0.2.1 3 (137, .invokevirtual 225, 3) rfl
theorem dX1_readPart_140 : decode cX1_readPart 140 = .ok (.ireturn, 1) := dr9 dk9_dX1_readPart_0_0.2.1 4 (140, .ireturn, 1) rfl
theorem dX1_readPart_147 : decode cX1_readPart 147 = .ok (.aload_n 0, 1) := dr9 dk9_dX1_readPart_0_0.2.1 5 (147, .aload_n 0, 1) rfl
theorem dX1_readPart_148 : decode cX1_readPart 148 = .ok (.iload_n 1, 1) := dr9 dk9_dX1_readPart_0_0.2.1 6 (148, .iload_n 1, 1) rfl
theorem dX1_readPart_149 : decode cX1_readPart 149 = .ok (.iconst 1, 1) := dr9 dk9_dX1_readPart_0_0.2.1 7 (149, .iconst 1, 1) rfl
theorem dX1_readPart_150 : decode cX1_readPart 150 = .ok (.iadd, 1) := dr9 dk9_dX1_readPart_0_0.2.1 8 (150, .iadd, 1) rfl
theorem dX1_readPart_151 : decode cX1_readPart 151 = .ok (.invokevirtual 203, 3) := dr9 dk9_dX1_readPart_0_0.2.1 9 (151, .invokevirtual 203, 3) rfl
theorem dX1_readPart_154 : decode cX1_readPart 154 = .ok (.ifCond .eq 16, 3) := dr9 dk9_dX1_readPart_0_0.2.1 10 (154, .ifCond .eq 16, 3) rfl
theorem dX1_readPart_170 : decode cX1_readPart 170 = .ok (.iconst 0, 1) := dr9 dk9_dX1_readPart_0_0.2.1 11 (170, .iconst 0, 1) rfl
theorem dX1_readPart_171 : decode cX1_readPart 171 = .ok (.ireturn, 1) := dr9 dk9_dX1_readPart_0_0.2.1 12 (171, .ireturn, 1) rfl
theorem dX1_readPart_157 : decode cX1_readPart 157 = .ok (.aload_n 0, 1) := dr9 dk9_dX1_readPart_0_0.2.1 13 (157, .aload_n 0, 1) rfl
theorem dX1_readPart_158 : decode cX1_readPart 158 = .ok (.bipush 41, 2) := dr9 dk9_dX1_readPart_0_0.2.1 14 (158, .bipush 41, 2) rfl
theorem dX1_readPart_160 : decode cX1_readPart 160 = .ok (.invokevirtual 88, 3) := dr9 dk9_dX1_readPart_0_0.2.1 15 (160, .invokevirtual 88, 3) rfl
theorem dX1_readPart_163 : decode cX1_readPart 163 = .ok (.ifCond .eq 7, 3) := dr9 dk9_dX1_readPart_0_0.2.1 16 (163, .ifCond .eq 7, 3) rfl
theorem dX1_readPart_166 : decode cX1_readPart 166 = .ok (.iconst 1, 1) := dr9 dk9_dX1_readPart_0_0.2.1 17 (166, .iconst 1, 1) rfl
theorem dX1_readPart_167 : decode cX1_readPart 167 = .ok (.goto 4, 3) := dr9 dk9_dX1_readPart_0_0.2.1 18 (167, .goto 4, 3) rfl
theorem dX1_readPart_172 : decode cX1_readPart 172 = .ok (.aload_n 0, 1) := dr9 dk9_dX1_readPart_0_0.2.1 19 (172, .aload_n 0, 1) rfl
theorem dX1_readPart_173 : decode cX1_readPart 173 = .ok (.iload_n 1, 1) := dr9 dk9_dX1_readPart_0_0.2.1 20 (173, .iload_n 1, 1) rfl
theorem dX1_readPart_174 : decode cX1_readPart 174 = .ok (.iconst 1, 1) := dr9 dk9_dX1_readPart_0_0.2.1 21 (174, .iconst 1, 1) rfl
theorem dX1_readPart_175 : decode cX1_readPart 175 = .ok (.iadd, 1) := dr9 dk9_dX1_readPart_0_0.2.1 22 (175, .iadd, 1) rfl
theorem dX1_readPart_176 : decode cX1_readPart 176 = .ok (.invokevirtual 216, 3) := dr9 dk9_dX1_readPart_0_0.2.1 23 (176, .invokevirtual 216, 3) rfl
theorem dX1_readPart_179 : decode cX1_readPart 179 = .ok (.ifCond .eq 15, 3) := dr9 dk9_dX1_readPart_0_0.2.2.1 0 (179, .ifCond .eq 15, 3) rfl
theorem dX1_readPart_194 : decode cX1_readPart 194 = .ok (.iconst 0, 1) := dr9 dk9_dX1_readPart_0_0.2.2.1 1 (194, .iconst 0, 1) rfl
theorem dX1_readPart_195 : decode cX1_readPart 195 = .ok (.ireturn, 1) := dr9 dk9_dX1_readPart_0_0.2.2.1 2 (195, .ireturn, 1) rfl
theorem dX1_readPart_182 : decode cX1_readPart 182 = .ok (.aload_n 0, 1) := dr9 dk9_dX1_readPart_0_0.2.2.1 3 (182, .aload_n 0, 1) rfl
theorem dX1_readPart_183 : decode cX1_readPart 183 = .ok (.iconst 3, 1) := dr9 dk9_dX1_readPart_0_0.2.2.1 4 (183, .iconst 3, 1) rfl
theorem dX1_readPart_184 : decode cX1_readPart 184 = .ok (.invokevirtual 228, 3) := dr9 dk9_dX1_readPart_0_0.2.2.1 5 (184, .invokevirtual 228, 3) rfl
theorem dX1_readPart_187 : decode cX1_readPart 187 = .ok (.ifCond .eq 7, 3) := dr9 dk9_dX1_readPart_0_0.2.2.1 6 (187, .ifCond .eq 7, 3) rfl
theorem dX1_readPart_190 : decode cX1_readPart 190 = .ok (.iconst 1, 1) := dr9 dk9_dX1_readPart_0_0.2.2.1 7 (190, .iconst 1, 1) rfl
theorem dX1_readPart_191 : decode cX1_readPart 191 = .ok (.goto 4, 3) := dr9 dk9_dX1_readPart_0_0.2.2.1 8 (191, .goto 4, 3) rfl
theorem dX1_readPart_225 : decode cX1_readPart 225 = .ok (.aload_n 0, 1) := dr9 dk9_dX1_readPart_0_0.2.2.1 9 (225, .aload_n 0, 1) rfl
theorem dX1_readPart_226 : decode cX1_readPart 226 = .ok (.invokevirtual 146, 3) := dr9 dk9_dX1_readPart_0_0.2.2.1 10 (226, .invokevirtual 146, 3) rfl
theorem dX1_readPart_229 : decode cX1_readPart 229 = .ok (.ifCond .eq 20, 3) := dr9 dk9_dX1_readPart_0_0.2.2.1 11 (229, .ifCond .eq 20, 3) rfl
theorem dX1_readPart_249 : decode cX1_readPart 249 = .ok (.iconst 0, 1) := dr9 dk9_dX1_readPart_0_0.2.2.1 12 (249, .iconst 0, 1) rfl
theorem dX1_readPart_250 : decode cX1_readPart 250 = .ok (.ireturn, 1) := dr9 dk9_dX1_readPart_0_0.2.2.1 13 (250, .ireturn, 1) rfl
theorem dX1_readPart_232 : decode cX1_readPart 232 = .ok (.aload_n 0, 1) := dr9 dk9_dX1_readPart_0_0.2.2.1 14 (232, .aload_n 0, 1) rfl
theorem dX1_readPart_233 : decode cX1_readPart 233 = .ok (.bipush 11, 2) := dr9 dk9_dX1_readPart_0_0.2.2.1 15 (233, .bipush 11, 2) rfl
theorem dX1_readPart_235 : decode cX1_readPart 235 = .ok (.aload_n 0, 1) := dr9 dk9_dX1_readPart_0_0.2.2.1 16 (235, .aload_n 0, 1) rfl
theorem dX1_readPart_236 : decode cX1_readPart 236 = .ok (.getfield 137, 3) := dr9 dk9_dX1_readPart_0_0.2.2.1 17 (236, .getfield 137, 3) rfl
theorem dX1_readPart_239 : decode cX1_readPart 239 = .ok (.invokevirtual 225, 3) := dr9 dk9_dX1_readPart_0_0.2.2.1 18 (239, .invokevirtual 225, 3) rfl
theorem dX1_readPart_242 : decode cX1_readPart 242 = .ok (.ifCond .eq 7, 3) := dr9 dk9_dX1_readPart_0_0.2.2.1 19 (242, .ifCond .eq 7, 3) rfl
theorem dX1_readPart_245 : decode cX1_readPart 245 = .ok (.iconst 1, 1) := dr9 dk9_dX1_readPart_0_0.2.2.1 20 (245, .iconst 1, 1) rfl
theorem dX1_readPart_246 : decode cX1_readPart 246 = .ok (.goto 4, 3) := dr9 dk9_dX1_readPart_0_0.2.2.1 21 (246, .goto 4, 3) rfl
theorem dX1_readPart_141 : decode cX1_readPart 141 = .ok (.aload_n 0, 1) := dr9 dk9_dX1_readPart_0_0.2.2.1 22 (141, .aload_n 0, 1) rfl
theorem dX1_readPart_142 : decode cX1_readPart 142 = .ok (.iconst 2, 1) := dr9 dk9_dX1_readPart_0_0.2.2.1 23 (142, .iconst 2, 1) rfl
theorem dX1_readPart_143 : decode cX1_readPart 143 = .ok (.invokevirtual 228, 3) := dr9 dk9_dX1_readPart_0_0.2.2.2.1 0 (143, .invokevirtual 228, 3) rfl
theorem dX1_readPart_146 : decode cX1_readPart 146 = .ok (.ireturn, 1) := dr9 dk9_dX1_readPart_0_0.2.2.2.1 1 (146, .ireturn, 1) rfl
theorem dX1_readPart_196 : decode cX1_readPart 196 = .ok (.aload_n 0, 1) := dr9 dk9_dX1_readPart_0_0.2.2.2.1 2 (196, .aload_n 0, 1) rfl
theorem dX1_readPart_197 : decode cX1_readPart 197 = .ok (.iconst 1, 1) := dr9 dk9_dX1_readPart_0_0.2.2.2.1 3 (197, .iconst 1, 1) rfl
theorem dX1_readPart_198 : decode cX1_readPart 198 = .ok (.bipush 9, 2) := dr9 dk9_dX1_readPart_0_0.2.2.2.1 4 (198, .bipush 9, 2) rfl
theorem dX1_readPart_200 : decode cX1_readPart 200 = .ok (.invokevirtual 103, 3) := dr9 dk9_dX1_readPart_0_0.2.2.2.1 5 (200, .invokevirtual 103, 3) rfl
theorem dX1_readPart_203 : decode cX1_readPart 203 = .ok (.ifCond .eq 20, 3) := dr9 dk9_dX1_readPart_0_0.2.2.2.1 6 (203, .ifCond .eq 20, 3) rfl
theorem dX1_readPart_223 : decode cX1_readPart 223 = .ok (.iconst 0, 1) := dr9 dk9_dX1_readPart_0_0.2.2.2.1 7 (223, .iconst 0, 1) rfl
theorem dX1_readPart_224 : decode cX1_readPart 224 = .ok (.ireturn, 1) := dr9 dk9_dX1_readPart_0_0.2.2.2.1 8 (224, .ireturn, 1) rfl
theorem dX1_readPart_206 : decode cX1_readPart 206 = .ok (.aload_n 0, 1) := dr9 dk9_dX1_readPart_0_0.2.2.2.1 9 (206, .aload_n 0, 1) rfl
theorem dX1_readPart_207 : decode cX1_readPart 207 = .ok (.bipush 12, 2) := dr9 dk9_dX1_readPart_0_0.2.2.2.1 10 (207, .bipush 12, 2) rfl
theorem dX1_readPart_209 : decode cX1_readPart 209 = .ok (.aload_n 0, 1) := dr9 dk9_dX1_readPart_0_0.2.2.2.1 11 (209, .aload_n 0, 1) rfl
theorem dX1_readPart_210 : decode cX1_readPart 210 = .ok (.getfield 110, 3) := dr9 dk9_dX1_readPart_0_0.2.2.2.1 12 (210, .getfield 110, 3) rfl
theorem dX1_readPart_213 : decode cX1_readPart 213 = .ok (.invokevirtual 225, 3) := dr9 dk9_dX1_readPart_0_0.2.2.2.1 13 (213, .invokevirtual 225, 3) rfl
theorem dX1_readPart_216 : decode cX1_readPart 216 = .ok (.ifCond .eq 7, 3) := dr9 dk9_dX1_readPart_0_0.2.2.2.1 14 (216, .ifCond .eq 7, 3) rfl
theorem dX1_readPart_219 : decode cX1_readPart 219 = .ok (.iconst 1, 1) := dr9 dk9_dX1_readPart_0_0.2.2.2.1 15 (219, .iconst 1, 1) rfl
theorem dX1_readPart_220 : decode cX1_readPart 220 = .ok (.goto 4, 3) := dr9 dk9_dX1_readPart_0_0.2.2.2.1 16 (220, .goto 4, 3) rfl
theorem dX1_readPart_251 : decode cX1_readPart 251 = .ok (.aload_n 0, 1) := dr9 dk9_dX1_readPart_0_0.2.2.2.1 17 (251, .aload_n 0, 1) rfl
theorem dX1_readPart_252 : decode cX1_readPart 252 = .ok (.iload_n 1, 1) := dr9 dk9_dX1_readPart_0_0.2.2.2.1 18 (252, .iload_n 1, 1) rfl
theorem dX1_readPart_253 : decode cX1_readPart 253 = .ok (.invokevirtual 231, 3) := dr9 dk9_dX1_readPart_0_0.2.2.2.1 19 (253, .invokevirtual 231, 3) rfl
theorem dX1_readPart_256 : decode cX1_readPart 256 = .ok (.ireturn, 1) := dr9 dk9_dX1_readPart_0_0.2.2.2.1 20 (256, .ireturn, 1) rfl
theorem dX1_readPart_257 : decode cX1_readPart 257 = .ok (.aload_n 0, 1) := dr9 dk9_dX1_readPart_0_0.2.2.2.1 21 (257, .aload_n 0, 1) rfl
theorem dX1_readPart_258 : decode cX1_readPart 258 = .ok (.iload_n 1, 1) := dr9 dk9_dX1_readPart_0_0.2.2.2.1 22 (258, .iload_n 1, 1) rfl
theorem dX1_readPart_259 : decode cX1_readPart 259 = .ok (.invokevirtual 234, 3) := dr9 dk9_dX1_readPart_0_0.2.2.2.1 23 (259, .invokevirtual 234, 3) rfl
theorem dX1_readPart_262 : decode cX1_readPart 262 = .ok (.ireturn, 1) := dr9 dk9_dX1_readPart_0_0.2.2.2.2 0 (262, .ireturn, 1) rfl
theorem dX1_readPart_263 : decode cX1_readPart 263 = .ok (.aload_n 0, 1) := dr9 dk9_dX1_readPart_0_0.2.2.2.2 1 (263, .aload_n 0, 1) rfl
theorem dX1_readPart_264 : decode cX1_readPart 264 = .ok (.iload_n 1, 1) := dr9 dk9_dX1_readPart_0_0.2.2.2.2 2 (264, .iload_n 1, 1) rfl
theorem dX1_readPart_265 : decode cX1_readPart 265 = .ok (.invokevirtual 237, 3) := dr9 dk9_dX1_readPart_0_0.2.2.2.2 3 (265, .invokevirtual 237, 3) rfl
theorem dX1_readPart_268 : decode cX1_readPart 268 = .ok (.ifCond .eq 15, 3) := dr9 dk9_dX1_readPart_0_0.2.2.2.2 4 (268, .ifCond .eq 15, 3) rfl
theorem dX1_readPart_283 : decode cX1_readPart 283 = .ok (.iconst 0, 1) := dr9 dk9_dX1_readPart_0_0.2.2.2.2 5 (283, .iconst 0, 1) rfl
theorem dX1_readPart_284 : decode cX1_readPart 284 = .ok (.ireturn, 1) := dr9 dk9_dX1_readPart_0_0.2.2.2.2 6 (284, .ireturn, 1) rfl
theorem dX1_readPart_271 : decode cX1_readPart 271 = .ok (.aload_n 0, 1) := dr9 dk9_dX1_readPart_0_0.2.2.2.2 7 (271, .aload_n 0, 1) rfl
theorem dX1_readPart_272 : decode cX1_readPart 272 = .ok (.iconst 4, 1) := dr9 dk9_dX1_readPart_0_0.2.2.2.2 8 (272, .iconst 4, 1) rfl
theorem dX1_readPart_273 : decode cX1_readPart 273 = .ok (.invokevirtual 228, 3) := dr9 dk9_dX1_readPart_0_0.2.2.2.2 9 (273, .invokevirtual 228, 3) rfl
theorem dX1_readPart_276 : decode cX1_readPart 276 = .ok (.ifCond .eq 7, 3) := dr9 dk9_dX1_readPart_0_0.2.2.2.2 10 (276, .ifCond .eq 7, 3) rfl
theorem dX1_readPart_279 : decode cX1_readPart 279 = .ok (.iconst 1, 1) := dr9 dk9_dX1_readPart_0_0.2.2.2.2 11 (279, .iconst 1, 1) rfl
theorem dX1_readPart_280 : decode cX1_readPart 280 = .ok (.goto 4, 3) := dr9 dk9_dX1_readPart_0_0.2.2.2.2 12 (280, .goto 4, 3) rfl
theorem dX1_readPart_19 : decode cX1_readPart 19 = .ok (.aload_n 0, 1) := dr9 dk9_dX1_readPart_0_0.2.2.2.2 13 (19, .aload_n 0, 1) rfl
theorem dX1_readPart_20 : decode cX1_readPart 20 = .ok (.iconst 5, 1) := dr9 dk9_dX1_readPart_0_0.2.2.2.2 14 (20, .iconst 5, 1) rfl
theorem dX1_readPart_21 : decode cX1_readPart 21 = .ok (.invokevirtual 47, 3) := dr9 dk9_dX1_readPart_0_0.2.2.2.2 15 (21, .invokevirtual 47, 3) rfl
theorem dX1_readPart_24 : decode cX1_readPart 24 = .ok (.ireturn, 1) := dr9 dk9_dX1_readPart_0_0.2.2.2.2 16 (24, .ireturn, 1) rfl
theorem dX1_readPart_7 : decode cX1_readPart 7 = .ok (.aload_n 0, 1) := dr9 dk9_dX1_readPart_0_0.2.2.2.2 17 (7, .aload_n 0, 1) rfl
theorem dX1_readPart_8 : decode cX1_readPart 8 = .ok (.iconst 1, 1) := dr9 dk9_dX1_readPart_0_0.2.2.2.2 18 (8, .iconst 1, 1) rfl
theorem dX1_readPart_9 : decode cX1_readPart 9 = .ok (.invokevirtual 47, 3) := dr9 dk9_dX1_readPart_0_0.2.2.2.2 19 (9, .invokevirtual 47, 3) rfl
theorem dX1_readPart_12 : decode cX1_readPart 12 = .ok (.ireturn, 1) := dr9 dk9_dX1_readPart_0_0.2.2.2.2 20 (12, .ireturn, 1) rfl
theorem dk9_dX1_readOf_0_0 : dOk cX1_readOf [(0, .aload_n 0, 1), (1, .iconst 0, 1), (2, .aload_n 0, 1), (3, .getfield 24, 3), (6, .ifnonnull 7, 3), (9, .iconst (-1), 1), (10, .goto 12, 3), (22, .invokevirtual 103, 3), (25, .ifCond .ne 5, 3), (30, .aload_n 0, 1), (28, .iconst 0, 1), (29, .ireturn, 1), (13, .aload_n 0, 1), (14, .getfield 24, 3), (17, .getfield 190, 3), (20, .iconst 1, 1), (21, .isub, 1), (31, .getfield 110, 3), (34, .istore_n 2, 1), (35, .aload_n 0, 1), (36, .bipush 46, 2), (38, .invokevirtual 88, 3), (41, .ifCond .eq 11, 3), (52, .iconst 0, 1)] = true ∧ dOk cX1_readOf [(53, .ireturn, 1), (44, .aload_n 0, 1), (45, .aconst_null, 1), (46, .invokevirtual 161, 3), (49, .ifCond .ne 5, 3), (54, .aload_n 0, 1), (55, .getfield 137, 3), (58, .istore_n 3, 1), (59, .aload_n 0, 1), (60, .iload_n 1, 1), (61, .invokevirtual 237, 3), (64, .ifCond .ne 5, 3), (69, .aload_n 0, 1), (70, .bipush 15, 2), (72, .iload_n 2, 1), (73, .bipush 20, 2), (75, .imul, 1), (76, .iload_n 3, 1), (77, .iadd, 1), (78, .invokevirtual 225, 3), (81, .ireturn, 1), (67, .iconst 0, 1), (68, .ireturn, 1)] = true := by decide +kernel
theorem dX1_readOf_0 : decode cX1_readOf 0 = .ok (.aload_n 0, 1) := dr9 dk9_dX1_readOf_0_0.1 0 (0, .aload_n 0, 1) rfl
theorem dX1_readOf_1 : decode cX1_readOf 1 = .ok (.iconst 0, 1) := dr9 dk9_dX1_readOf_0_0.1 1 (1, .iconst 0, 1) rfl
theorem dX1_readOf_2 : decode cX1_readOf 2 = .ok (.aload_n 0, 1) := dr9 dk9_dX1_readOf_0_0.1 2 (2, .aload_n 0, 1) rfl
theorem dX1_readOf_3 : decode cX1_readOf 3 = .ok (.getfield 24, 3) := dr9 dk9_dX1_readOf_0_0.1 3 (3, .getfield 24, 3) rfl
theorem dX1_readOf_6 : decode cX1_readOf 6 = .ok (.ifnonnull 7, 3) := dr9 dk9_dX1_readOf_0_0.1 4 (6, .ifnonnull 7, 3) rfl
theorem dX1_readOf_9 : decode cX1_readOf 9 = .ok (.iconst (-1), 1) := dr9 dk9_dX1_readOf_0_0.1 5 (9, .iconst (-1), 1) rfl
theorem dX1_readOf_10 : decode cX1_readOf 10 = .ok (.goto 12, 3) := dr9 dk9_dX1_readOf_0_0.1 6 (10, .goto 12, 3) rfl
theorem dX1_readOf_22 : decode cX1_readOf 22 = .ok (.invokevirtual 103, 3) := dr9 dk9_dX1_readOf_0_0.1 7 (22, .invokevirtual 103, 3) rfl
theorem dX1_readOf_25 : decode cX1_readOf 25 = .ok (.ifCond .ne 5, 3) := dr9 dk9_dX1_readOf_0_0.1 8 (25, .ifCond .ne 5, 3) rfl
theorem dX1_readOf_30 : decode cX1_readOf 30 = .ok (.aload_n 0, 1) := dr9 dk9_dX1_readOf_0_0.1 9 (30, .aload_n 0, 1) rfl
theorem dX1_readOf_28 : decode cX1_readOf 28 = .ok (.iconst 0, 1) := dr9 dk9_dX1_readOf_0_0.1 10 (28, .iconst 0, 1) rfl
theorem dX1_readOf_29 : decode cX1_readOf 29 = .ok (.ireturn, 1) := dr9 dk9_dX1_readOf_0_0.1 11 (29, .ireturn, 1) rfl
theorem dX1_readOf_13 : decode cX1_readOf 13 = .ok (.aload_n 0, 1) := dr9 dk9_dX1_readOf_0_0.1 12 (13, .aload_n 0, 1) rfl
theorem dX1_readOf_14 : decode cX1_readOf 14 = .ok (.getfield 24, 3) := dr9 dk9_dX1_readOf_0_0.1 13 (14, .getfield 24, 3) rfl
theorem dX1_readOf_17 : decode cX1_readOf 17 = .ok (.getfield 190, 3) := dr9 dk9_dX1_readOf_0_0.1 14 (17, .getfield 190, 3) rfl
theorem dX1_readOf_20 : decode cX1_readOf 20 = .ok (.iconst 1, 1) := dr9 dk9_dX1_readOf_0_0.1 15 (20, .iconst 1, 1) rfl
theorem dX1_readOf_21 : decode cX1_readOf 21 = .ok (.isub, 1) := dr9 dk9_dX1_readOf_0_0.1 16 (21, .isub, 1) rfl
theorem dX1_readOf_31 : decode cX1_readOf 31 = .ok (.getfield 110, 3) := dr9 dk9_dX1_readOf_0_0.1 17 (31, .getfield 110, 3) rfl
theorem dX1_readOf_34 : decode cX1_readOf 34 = .ok (.istore_n 2, 1) := dr9 dk9_dX1_readOf_0_0.1 18 (34, .istore_n 2, 1) rfl
theorem dX1_readOf_35 : decode cX1_readOf 35 = .ok (.aload_n 0, 1) := dr9 dk9_dX1_readOf_0_0.1 19 (35, .aload_n 0, 1) rfl
theorem dX1_readOf_36 : decode cX1_readOf 36 = .ok (.bipush 46, 2) := dr9 dk9_dX1_readOf_0_0.1 20 (36, .bipush 46, 2) rfl
theorem dX1_readOf_38 : decode cX1_readOf 38 = .ok (.invokevirtual 88, 3) := dr9 dk9_dX1_readOf_0_0.1 21 (38, .invokevirtual 88, 3) rfl
theorem dX1_readOf_41 : decode cX1_readOf 41 = .ok (.ifCond .eq 11, 3) := dr9 dk9_dX1_readOf_0_0.1 22 (41, .ifCond .eq 11, 3) rfl
theorem dX1_readOf_52 : decode cX1_readOf 52 = .ok (.iconst 0, 1) := dr9 dk9_dX1_readOf_0_0.1 23 (52, .iconst 0, 1) rfl
theorem dX1_readOf_53 : decode cX1_readOf 53 = .ok (.ireturn, 1) := dr9 dk9_dX1_readOf_0_0.2 0 (53, .ireturn, 1) rfl
theorem dX1_readOf_44 : decode cX1_readOf 44 = .ok (.aload_n 0, 1) := dr9 dk9_dX1_readOf_0_0.2 1 (44, .aload_n 0, 1) rfl
theorem dX1_readOf_45 : decode cX1_readOf 45 = .ok (.aconst_null, 1) := dr9 dk9_dX1_readOf_0_0.2 2 (45, .aconst_null, 1) rfl
theorem dX1_readOf_46 : decode cX1_readOf 46 = .ok (.invokevirtual 161, 3) := dr9 dk9_dX1_readOf_0_0.2 3 (46, .invokevirtual 161, 3) rfl
theorem dX1_readOf_49 : decode cX1_readOf 49 = .ok (.ifCond .ne 5, 3) := dr9 dk9_dX1_readOf_0_0.2 4 (49, .ifCond .ne 5, 3) rfl
theorem dX1_readOf_54 : decode cX1_readOf 54 = .ok (.aload_n 0, 1) := dr9 dk9_dX1_readOf_0_0.2 5 (54, .aload_n 0, 1) rfl
theorem dX1_readOf_55 : decode cX1_readOf 55 = .ok (.getfield 137, 3) := dr9 dk9_dX1_readOf_0_0.2 6 (55, .getfield 137, 3) rfl
theorem dX1_readOf_58 : decode cX1_readOf 58 = .ok (.istore_n 3, 1) := dr9 dk9_dX1_readOf_0_0.2 7 (58, .istore_n 3, 1) rfl
theorem dX1_readOf_59 : decode cX1_readOf 59 = .ok (.aload_n 0, 1) := dr9 dk9_dX1_readOf_0_0.2 8 (59, .aload_n 0, 1) rfl
theorem dX1_readOf_60 : decode cX1_readOf 60 = .ok (.iload_n 1, 1) := dr9 dk9_dX1_readOf_0_0.2 9 (60, .iload_n 1, 1) rfl
theorem dX1_readOf_61 : decode cX1_readOf 61 = .ok (.invokevirtual 237, 3) := dr9 dk9_dX1_readOf_0_0.2 10 (61, .invokevirtual 237, 3) rfl
theorem dX1_readOf_64 : decode cX1_readOf 64 = .ok (.ifCond .ne 5, 3) := dr9 dk9_dX1_readOf_0_0.2 11 (64, .ifCond .ne 5, 3) rfl
theorem dX1_readOf_69 : decode cX1_readOf 69 = .ok (.aload_n 0, 1) := dr9 dk9_dX1_readOf_0_0.2 12 (69, .aload_n 0, 1) rfl
theorem dX1_readOf_70 : decode cX1_readOf 70 = .ok (.bipush 15, 2) := dr9 dk9_dX1_readOf_0_0.2 13 (70, .bipush 15, 2) rfl
theorem dX1_readOf_72 : decode cX1_readOf 72 = .ok (.iload_n 2, 1) := dr9 dk9_dX1_readOf_0_0.2 14 (72, .iload_n 2, 1) rfl
theorem dX1_readOf_73 : decode cX1_readOf 73 = .ok (.bipush 20, 2) := dr9 dk9_dX1_readOf_0_0.2 15 (73, .bipush 20, 2) rfl
theorem dX1_readOf_75 : decode cX1_readOf 75 = .ok (.imul, 1) := dr9 dk9_dX1_readOf_0_0.2 16 (75, .imul, 1) rfl
theorem dX1_readOf_76 : decode cX1_readOf 76 = .ok (.iload_n 3, 1) := dr9 dk9_dX1_readOf_0_0.2 17 (76, .iload_n 3, 1) rfl
theorem dX1_readOf_77 : decode cX1_readOf 77 = .ok (.iadd, 1) := dr9 dk9_dX1_readOf_0_0.2 18 (77, .iadd, 1) rfl
theorem dX1_readOf_78 : decode cX1_readOf 78 = .ok (.invokevirtual 225, 3) := dr9 dk9_dX1_readOf_0_0.2 19 (78, .invokevirtual 225, 3) rfl
theorem dX1_readOf_81 : decode cX1_readOf 81 = .ok (.ireturn, 1) := dr9 dk9_dX1_readOf_0_0.2 20 (81, .ireturn, 1) rfl
theorem dX1_readOf_67 : decode cX1_readOf 67 = .ok (.iconst 0, 1) := dr9 dk9_dX1_readOf_0_0.2 21 (67, .iconst 0, 1) rfl
theorem dX1_readOf_68 : decode cX1_readOf 68 = .ok (.ireturn, 1) := dr9 dk9_dX1_readOf_0_0.2 22 (68, .ireturn, 1) rfl
theorem dk9_dX1_readPick_0_0 : dOk cX1_readPick [(0, .aload_n 0, 1), (1, .bipush 40, 2), (3, .invokevirtual 88, 3), (6, .ifCond .eq 22, 3), (28, .iconst 0, 1), (29, .ireturn, 1), (9, .aload_n 0, 1), (10, .iload_n 1, 1), (11, .iconst 1, 1), (12, .iadd, 1), (13, .invokevirtual 203, 3), (16, .ifCond .eq 12, 3), (19, .aload_n 0, 1), (20, .bipush 44, 2), (22, .invokevirtual 88, 3), (25, .ifCond .ne 5, 3), (30, .aload_n 0, 1), (31, .getfield 15, 3), (34, .getfield 168, 3), (37, .iconst 1, 1), (38, .iadd, 1), (39, .istore_n 2, 1), (40, .aload_n 0, 1), (41, .bipush 13, 2)] = true ∧ dOk cX1_readPick [(43, .iconst 0, 1), (44, .invokevirtual 225, 3), (47, .pop, 1), (48, .aload_n 0, 1), (49, .iload_n 1, 1), (50, .iconst 1, 1), (51, .iadd, 1), (52, .invokevirtual 203, 3), (55, .ifCond .eq 12, 3), (67, .iconst 0, 1), (68, .ireturn, 1), (58, .aload_n 0, 1), (59, .bipush 44, 2), (61, .invokevirtual 88, 3), (64, .ifCond .ne 5, 3), (69, .aload_n 0, 1), (70, .getfield 15, 3), (73, .getfield 168, 3), (76, .iconst 1, 1), (77, .iadd, 1), (78, .istore_n 3, 1), (79, .aload_n 0, 1), (80, .bipush 14, 2), (82, .iconst 0, 1)] = true ∧ dOk cX1_readPick [(83, .invokevirtual 225, 3), (86, .pop, 1), (87, .aload_n 0, 1), (88, .getfield 15, 3), (91, .iload_n 2, 1), (92, .aload_n 0, 1), (93, .getfield 15, 3), (96, .getfield 168, 3), (99, .invokevirtual 240, 3), (102, .aload_n 0, 1), (103, .iload_n 1, 1), (104, .iconst 1, 1), (105, .iadd, 1), (106, .invokevirtual 203, 3), (109, .ifCond .eq 12, 3), (121, .iconst 0, 1), (122, .ireturn, 1), (112, .aload_n 0, 1), (113, .bipush 41, 2), (115, .invokevirtual 88, 3), (118, .ifCond .ne 5, 3), (123, .aload_n 0, 1), (124, .getfield 15, 3), (127, .iload_n 3, 1)] = true ∧ dOk cX1_readPick [(128, .aload_n 0, 1), (129, .getfield 15, 3), (132, .getfield 168, 3), (135, .invokevirtual 240, 3), (138, .iconst 1, 1), (139, .ireturn, 1)] = true := by decide +kernel
theorem dX1_readPick_0 : decode cX1_readPick 0 = .ok (.aload_n 0, 1) := dr9 dk9_dX1_readPick_0_0.1 0 (0, .aload_n 0, 1) rfl
theorem dX1_readPick_1 : decode cX1_readPick 1 = .ok (.bipush 40, 2) := dr9 dk9_dX1_readPick_0_0.1 1 (1, .bipush 40, 2) rfl
theorem dX1_readPick_3 : decode cX1_readPick 3 = .ok (.invokevirtual 88, 3) := dr9 dk9_dX1_readPick_0_0.1 2 (3, .invokevirtual 88, 3) rfl
theorem dX1_readPick_6 : decode cX1_readPick 6 = .ok (.ifCond .eq 22, 3) := dr9 dk9_dX1_readPick_0_0.1 3 (6, .ifCond .eq 22, 3) rfl
theorem dX1_readPick_28 : decode cX1_readPick 28 = .ok (.iconst 0, 1) := dr9 dk9_dX1_readPick_0_0.1 4 (28, .iconst 0, 1) rfl
theorem dX1_readPick_29 : decode cX1_readPick 29 = .ok (.ireturn, 1) := dr9 dk9_dX1_readPick_0_0.1 5 (29, .ireturn, 1) rfl
theorem dX1_readPick_9 : decode cX1_readPick 9 = .ok (.aload_n 0, 1) := dr9 dk9_dX1_readPick_0_0.1 6 (9, .aload_n 0, 1) rfl
theorem dX1_readPick_10 : decode cX1_readPick 10 = .ok (.iload_n 1, 1) := dr9 dk9_dX1_readPick_0_0.1 7 (10, .iload_n 1, 1) rfl
theorem dX1_readPick_11 : decode cX1_readPick 11 = .ok (.iconst 1, 1) := dr9 dk9_dX1_readPick_0_0.1 8 (11, .iconst 1, 1) rfl
theorem dX1_readPick_12 : decode cX1_readPick 12 = .ok (.iadd, 1) := dr9 dk9_dX1_readPick_0_0.1 9 (12, .iadd, 1) rfl
theorem dX1_readPick_13 : decode cX1_readPick 13 = .ok (.invokevirtual 203, 3) := dr9 dk9_dX1_readPick_0_0.1 10 (13, .invokevirtual 203, 3) rfl
theorem dX1_readPick_16 : decode cX1_readPick 16 = .ok (.ifCond .eq 12, 3) := dr9 dk9_dX1_readPick_0_0.1 11 (16, .ifCond .eq 12, 3) rfl
theorem dX1_readPick_19 : decode cX1_readPick 19 = .ok (.aload_n 0, 1) := dr9 dk9_dX1_readPick_0_0.1 12 (19, .aload_n 0, 1) rfl
theorem dX1_readPick_20 : decode cX1_readPick 20 = .ok (.bipush 44, 2) := dr9 dk9_dX1_readPick_0_0.1 13 (20, .bipush 44, 2) rfl
theorem dX1_readPick_22 : decode cX1_readPick 22 = .ok (.invokevirtual 88, 3) := dr9 dk9_dX1_readPick_0_0.1 14 (22, .invokevirtual 88, 3) rfl
theorem dX1_readPick_25 : decode cX1_readPick 25 = .ok (.ifCond .ne 5, 3) := dr9 dk9_dX1_readPick_0_0.1 15 (25, .ifCond .ne 5, 3) rfl
theorem dX1_readPick_30 : decode cX1_readPick 30 = .ok (.aload_n 0, 1) := dr9 dk9_dX1_readPick_0_0.1 16 (30, .aload_n 0, 1) rfl
theorem dX1_readPick_31 : decode cX1_readPick 31 = .ok (.getfield 15, 3) := dr9 dk9_dX1_readPick_0_0.1 17 (31, .getfield 15, 3) rfl
theorem dX1_readPick_34 : decode cX1_readPick 34 = .ok (.getfield 168, 3) := dr9 dk9_dX1_readPick_0_0.1 18 (34, .getfield 168, 3) rfl
theorem dX1_readPick_37 : decode cX1_readPick 37 = .ok (.iconst 1, 1) := dr9 dk9_dX1_readPick_0_0.1 19 (37, .iconst 1, 1) rfl
theorem dX1_readPick_38 : decode cX1_readPick 38 = .ok (.iadd, 1) := dr9 dk9_dX1_readPick_0_0.1 20 (38, .iadd, 1) rfl
theorem dX1_readPick_39 : decode cX1_readPick 39 = .ok (.istore_n 2, 1) := dr9 dk9_dX1_readPick_0_0.1 21 (39, .istore_n 2, 1) rfl
theorem dX1_readPick_40 : decode cX1_readPick 40 = .ok (.aload_n 0, 1) := dr9 dk9_dX1_readPick_0_0.1 22 (40, .aload_n 0, 1) rfl
theorem dX1_readPick_41 : decode cX1_readPick 41 = .ok (.bipush 13, 2) := dr9 dk9_dX1_readPick_0_0.1 23 (41, .bipush 13, 2) rfl
theorem dX1_readPick_43 : decode cX1_readPick 43 = .ok (.iconst 0, 1) := dr9 dk9_dX1_readPick_0_0.2.1 0 (43, .iconst 0, 1) rfl
theorem dX1_readPick_44 : decode cX1_readPick 44 = .ok (.invokevirtual 225, 3) := dr9 dk9_dX1_readPick_0_0.2.1 1 (44, .invokevirtual 225, 3) rfl
theorem dX1_readPick_47 : decode cX1_readPick 47 = .ok (.pop, 1) := dr9 dk9_dX1_readPick_0_0.2.1 2 (47, .pop, 1) rfl
theorem dX1_readPick_48 : decode cX1_readPick 48 = .ok (.aload_n 0, 1) := dr9 dk9_dX1_readPick_0_0.2.1 3 (48, .aload_n 0, 1) rfl
theorem dX1_readPick_49 : decode cX1_readPick 49 = .ok (.iload_n 1, 1) := dr9 dk9_dX1_readPick_0_0.2.1 4 (49, .iload_n 1, 1) rfl
theorem dX1_readPick_50 : decode cX1_readPick 50 = .ok (.iconst 1, 1) := dr9 dk9_dX1_readPick_0_0.2.1 5 (50, .iconst 1, 1) rfl
theorem dX1_readPick_51 : decode cX1_readPick 51 = .ok (.iadd, 1) := dr9 dk9_dX1_readPick_0_0.2.1 6 (51, .iadd, 1) rfl
theorem dX1_readPick_52 : decode cX1_readPick 52 = .ok (.invokevirtual 203, 3) := dr9 dk9_dX1_readPick_0_0.2.1 7 (52, .invokevirtual 203, 3) rfl
theorem dX1_readPick_55 : decode cX1_readPick 55 = .ok (.ifCond .eq 12, 3) := dr9 dk9_dX1_readPick_0_0.2.1 8 (55, .ifCond .eq 12, 3) rfl
theorem dX1_readPick_67 : decode cX1_readPick 67 = .ok (.iconst 0, 1) := dr9 dk9_dX1_readPick_0_0.2.1 9 (67, .iconst 0, 1) rfl
theorem dX1_readPick_68 : decode cX1_readPick 68 = .ok (.ireturn, 1) := dr9 dk9_dX1_readPick_0_0.2.1 10 (68, .ireturn, 1) rfl
theorem dX1_readPick_58 : decode cX1_readPick 58 = .ok (.aload_n 0, 1) := dr9 dk9_dX1_readPick_0_0.2.1 11 (58, .aload_n 0, 1) rfl
theorem dX1_readPick_59 : decode cX1_readPick 59 = .ok (.bipush 44, 2) := dr9 dk9_dX1_readPick_0_0.2.1 12 (59, .bipush 44, 2) rfl
theorem dX1_readPick_61 : decode cX1_readPick 61 = .ok (.invokevirtual 88, 3) := dr9 dk9_dX1_readPick_0_0.2.1 13 (61, .invokevirtual 88, 3) rfl
theorem dX1_readPick_64 : decode cX1_readPick 64 = .ok (.ifCond .ne 5, 3) := dr9 dk9_dX1_readPick_0_0.2.1 14 (64, .ifCond .ne 5, 3) rfl
theorem dX1_readPick_69 : decode cX1_readPick 69 = .ok (.aload_n 0, 1) := dr9 dk9_dX1_readPick_0_0.2.1 15 (69, .aload_n 0, 1) rfl
theorem dX1_readPick_70 : decode cX1_readPick 70 = .ok (.getfield 15, 3) := dr9 dk9_dX1_readPick_0_0.2.1 16 (70, .getfield 15, 3) rfl
theorem dX1_readPick_73 : decode cX1_readPick 73 = .ok (.getfield 168, 3) := dr9 dk9_dX1_readPick_0_0.2.1 17 (73, .getfield 168, 3) rfl
theorem dX1_readPick_76 : decode cX1_readPick 76 = .ok (.iconst 1, 1) := dr9 dk9_dX1_readPick_0_0.2.1 18 (76, .iconst 1, 1) rfl
theorem dX1_readPick_77 : decode cX1_readPick 77 = .ok (.iadd, 1) := dr9 dk9_dX1_readPick_0_0.2.1 19 (77, .iadd, 1) rfl
theorem dX1_readPick_78 : decode cX1_readPick 78 = .ok (.istore_n 3, 1) := dr9 dk9_dX1_readPick_0_0.2.1 20 (78, .istore_n 3, 1) rfl
theorem dX1_readPick_79 : decode cX1_readPick 79 = .ok (.aload_n 0, 1) := dr9 dk9_dX1_readPick_0_0.2.1 21 (79, .aload_n 0, 1) rfl
theorem dX1_readPick_80 : decode cX1_readPick 80 = .ok (.bipush 14, 2) := dr9 dk9_dX1_readPick_0_0.2.1 22 (80, .bipush 14, 2) rfl
theorem dX1_readPick_82 : decode cX1_readPick 82 = .ok (.iconst 0, 1) := dr9 dk9_dX1_readPick_0_0.2.1 23 (82, .iconst 0, 1) rfl
theorem dX1_readPick_83 : decode cX1_readPick 83 = .ok (.invokevirtual 225, 3) := dr9 dk9_dX1_readPick_0_0.2.2.1 0 (83, .invokevirtual 225, 3) rfl
theorem dX1_readPick_86 : decode cX1_readPick 86 = .ok (.pop, 1) := dr9 dk9_dX1_readPick_0_0.2.2.1 1 (86, .pop, 1) rfl
theorem dX1_readPick_87 : decode cX1_readPick 87 = .ok (.aload_n 0, 1) := dr9 dk9_dX1_readPick_0_0.2.2.1 2 (87, .aload_n 0, 1) rfl
theorem dX1_readPick_88 : decode cX1_readPick 88 = .ok (.getfield 15, 3) := dr9 dk9_dX1_readPick_0_0.2.2.1 3 (88, .getfield 15, 3) rfl
theorem dX1_readPick_91 : decode cX1_readPick 91 = .ok (.iload_n 2, 1) := dr9 dk9_dX1_readPick_0_0.2.2.1 4 (91, .iload_n 2, 1) rfl
theorem dX1_readPick_92 : decode cX1_readPick 92 = .ok (.aload_n 0, 1) := dr9 dk9_dX1_readPick_0_0.2.2.1 5 (92, .aload_n 0, 1) rfl
theorem dX1_readPick_93 : decode cX1_readPick 93 = .ok (.getfield 15, 3) := dr9 dk9_dX1_readPick_0_0.2.2.1 6 (93, .getfield 15, 3) rfl
theorem dX1_readPick_96 : decode cX1_readPick 96 = .ok (.getfield 168, 3) := dr9 dk9_dX1_readPick_0_0.2.2.1 7 (96, .getfield 168, 3) rfl
theorem dX1_readPick_99 : decode cX1_readPick 99 = .ok (.invokevirtual 240, 3) := dr9 dk9_dX1_readPick_0_0.2.2.1 8 (99, .invokevirtual 240, 3) rfl
theorem dX1_readPick_102 : decode cX1_readPick 102 = .ok (.aload_n 0, 1) := dr9 dk9_dX1_readPick_0_0.2.2.1 9 (102, .aload_n 0, 1) rfl
theorem dX1_readPick_103 : decode cX1_readPick 103 = .ok (.iload_n 1, 1) := dr9 dk9_dX1_readPick_0_0.2.2.1 10 (103, .iload_n 1, 1) rfl
theorem dX1_readPick_104 : decode cX1_readPick 104 = .ok (.iconst 1, 1) := dr9 dk9_dX1_readPick_0_0.2.2.1 11 (104, .iconst 1, 1) rfl
theorem dX1_readPick_105 : decode cX1_readPick 105 = .ok (.iadd, 1) := dr9 dk9_dX1_readPick_0_0.2.2.1 12 (105, .iadd, 1) rfl
theorem dX1_readPick_106 : decode cX1_readPick 106 = .ok (.invokevirtual 203, 3) := dr9 dk9_dX1_readPick_0_0.2.2.1 13 (106, .invokevirtual 203, 3) rfl
theorem dX1_readPick_109 : decode cX1_readPick 109 = .ok (.ifCond .eq 12, 3) := dr9 dk9_dX1_readPick_0_0.2.2.1 14 (109, .ifCond .eq 12, 3) rfl
theorem dX1_readPick_121 : decode cX1_readPick 121 = .ok (.iconst 0, 1) := dr9 dk9_dX1_readPick_0_0.2.2.1 15 (121, .iconst 0, 1) rfl
theorem dX1_readPick_122 : decode cX1_readPick 122 = .ok (.ireturn, 1) := dr9 dk9_dX1_readPick_0_0.2.2.1 16 (122, .ireturn, 1) rfl
theorem dX1_readPick_112 : decode cX1_readPick 112 = .ok (.aload_n 0, 1) := dr9 dk9_dX1_readPick_0_0.2.2.1 17 (112, .aload_n 0, 1) rfl
theorem dX1_readPick_113 : decode cX1_readPick 113 = .ok (.bipush 41, 2) := dr9 dk9_dX1_readPick_0_0.2.2.1 18 (113, .bipush 41, 2) rfl
theorem dX1_readPick_115 : decode cX1_readPick 115 = .ok (.invokevirtual 88, 3) := dr9 dk9_dX1_readPick_0_0.2.2.1 19 (115, .invokevirtual 88, 3) rfl
theorem dX1_readPick_118 : decode cX1_readPick 118 = .ok (.ifCond .ne 5, 3) := dr9 dk9_dX1_readPick_0_0.2.2.1 20 (118, .ifCond .ne 5, 3) rfl
theorem dX1_readPick_123 : decode cX1_readPick 123 = .ok (.aload_n 0, 1) := dr9 dk9_dX1_readPick_0_0.2.2.1 21 (123, .aload_n 0, 1) rfl
theorem dX1_readPick_124 : decode cX1_readPick 124 = .ok (.getfield 15, 3) := dr9 dk9_dX1_readPick_0_0.2.2.1 22 (124, .getfield 15, 3) rfl
theorem dX1_readPick_127 : decode cX1_readPick 127 = .ok (.iload_n 3, 1) := dr9 dk9_dX1_readPick_0_0.2.2.1 23 (127, .iload_n 3, 1) rfl
theorem dX1_readPick_128 : decode cX1_readPick 128 = .ok (.aload_n 0, 1) := dr9 dk9_dX1_readPick_0_0.2.2.2 0 (128, .aload_n 0, 1) rfl
theorem dX1_readPick_129 : decode cX1_readPick 129 = .ok (.getfield 15, 3) := dr9 dk9_dX1_readPick_0_0.2.2.2 1 (129, .getfield 15, 3) rfl
theorem dX1_readPick_132 : decode cX1_readPick 132 = .ok (.getfield 168, 3) := dr9 dk9_dX1_readPick_0_0.2.2.2 2 (132, .getfield 168, 3) rfl
theorem dX1_readPick_135 : decode cX1_readPick 135 = .ok (.invokevirtual 240, 3) := dr9 dk9_dX1_readPick_0_0.2.2.2 3 (135, .invokevirtual 240, 3) rfl
theorem dX1_readPick_138 : decode cX1_readPick 138 = .ok (.iconst 1, 1) := dr9 dk9_dX1_readPick_0_0.2.2.2 4 (138, .iconst 1, 1) rfl
theorem dX1_readPick_139 : decode cX1_readPick 139 = .ok (.ireturn, 1) := dr9 dk9_dX1_readPick_0_0.2.2.2 5 (139, .ireturn, 1) rfl
abbrev q_x_readExpression (D : va_G) (ks : KS) (ad : Nat → Nat) (kk : Nat → ClassId) (V : Vf) (L : Lf) (Z : XZ) (p0 : Int32) (b : Nat) (A : Nat → Prop) : Array Value → State → Outcome → State → Prop := va_Qi (fun (r : Int32) (u : Vf × Lf) => rgd bX u.1 ∧ agr [(1, 3), (1, 6), (1, 8), (6, 8), (6, 9), (6, 10)] [42, 43, 44, 48] V u.1 ∧ agL [6, 44] L u.2 ∧ frX (xR b) V u.1 ∧ (0 ≤ r.toInt ∧ r.toInt ≤ 1) ∧ (CD u.1 b) ∧ (px V u.1 b) ∧ (Imp (r.toInt = 0) (1 ≤ (u.1 1 3).toInt))) (fun u t => gq D A (xw ad kk u.1 u.2 Z) (xty kk Z) t) A
def K_x_readExpression (l : Launch) (D : va_G) (ks : KS) (dd : Nat) : Prop := ∀ (sz : Nat) (ad : Nat → Nat) (kk : Nat → ClassId) (V : Vf) (L : Lf) (Z : XZ) (p0 : Int32) (b : Nat) (hMV : rgd bX V) (rg_p0 : 0 ≤ p0.toInt ∧ p0.toInt ≤ 8) (hb2 : b < 2) (rbk : (V 1 1).toInt = (b : Int)) (cd : CD V b) (y1 : 8 - p0.toInt ≤ (dd : Int)) , Met l yX1_readExpression (Cond.code yX1_readExpression cX1_readExpression 3 (some .boolean) :: GW) (rK 9 240 dd) (va_Pc [.ref (ad 1), .int p0] (gp D ks (xw ad kk V L Z) (xty kk Z) sz)) (q_x_readExpression D ks ad kk V L Z p0 b (va_A (xw ad kk V L Z) sz)) 0 0 (va_A (xw ad kk V L Z) sz)
abbrev q_x_readSum (D : va_G) (ks : KS) (ad : Nat → Nat) (kk : Nat → ClassId) (V : Vf) (L : Lf) (Z : XZ) (p0 : Int32) (b : Nat) (A : Nat → Prop) : Array Value → State → Outcome → State → Prop := va_Qi (fun (r : Int32) (u : Vf × Lf) => rgd bX u.1 ∧ agr [(1, 3), (1, 6), (1, 8), (6, 8), (6, 9), (6, 10)] [42, 43, 44, 48] V u.1 ∧ agL [6, 44] L u.2 ∧ frX (xR b) V u.1 ∧ (0 ≤ r.toInt ∧ r.toInt ≤ 1) ∧ (CD u.1 b) ∧ (px V u.1 b) ∧ (Imp (r.toInt = 0) (1 ≤ (u.1 1 3).toInt))) (fun u t => gq D A (xw ad kk u.1 u.2 Z) (xty kk Z) t) A
def K_x_readSum (l : Launch) (D : va_G) (ks : KS) (dd : Nat) : Prop := ∀ (sz : Nat) (ad : Nat → Nat) (kk : Nat → ClassId) (V : Vf) (L : Lf) (Z : XZ) (p0 : Int32) (b : Nat) (hMV : rgd bX V) (rg_p0 : 0 ≤ p0.toInt ∧ p0.toInt ≤ 8) (hb2 : b < 2) (rbk : (V 1 1).toInt = (b : Int)) (cd : CD V b) (y1 : 8 - p0.toInt ≤ (dd : Int)) , Met l yX1_readSum (Cond.code yX1_readSum cX1_readSum 4 (some .boolean) :: GW) (rK 8 210 dd) (va_Pc [.ref (ad 1), .int p0] (gp D ks (xw ad kk V L Z) (xty kk Z) sz)) (q_x_readSum D ks ad kk V L Z p0 b (va_A (xw ad kk V L Z) sz)) 0 0 (va_A (xw ad kk V L Z) sz)
abbrev q_x_readProduct (D : va_G) (ks : KS) (ad : Nat → Nat) (kk : Nat → ClassId) (V : Vf) (L : Lf) (Z : XZ) (p0 : Int32) (b : Nat) (A : Nat → Prop) : Array Value → State → Outcome → State → Prop := va_Qi (fun (r : Int32) (u : Vf × Lf) => rgd bX u.1 ∧ agr [(1, 3), (1, 6), (1, 8), (6, 8), (6, 9), (6, 10)] [42, 43, 44, 48] V u.1 ∧ agL [6, 44] L u.2 ∧ frX (xR b) V u.1 ∧ (0 ≤ r.toInt ∧ r.toInt ≤ 1) ∧ (CD u.1 b) ∧ (px V u.1 b) ∧ (Imp (r.toInt = 0) (1 ≤ (u.1 1 3).toInt))) (fun u t => gq D A (xw ad kk u.1 u.2 Z) (xty kk Z) t) A
def K_x_readProduct (l : Launch) (D : va_G) (ks : KS) (dd : Nat) : Prop := ∀ (sz : Nat) (ad : Nat → Nat) (kk : Nat → ClassId) (V : Vf) (L : Lf) (Z : XZ) (p0 : Int32) (b : Nat) (hMV : rgd bX V) (rg_p0 : 0 ≤ p0.toInt ∧ p0.toInt ≤ 8) (hb2 : b < 2) (rbk : (V 1 1).toInt = (b : Int)) (cd : CD V b) (y1 : 8 - p0.toInt ≤ (dd : Int)) , Met l yX1_readProduct (Cond.code yX1_readProduct cX1_readProduct 3 (some .boolean) :: GW) (rK 7 180 dd) (va_Pc [.ref (ad 1), .int p0] (gp D ks (xw ad kk V L Z) (xty kk Z) sz)) (q_x_readProduct D ks ad kk V L Z p0 b (va_A (xw ad kk V L Z) sz)) 0 0 (va_A (xw ad kk V L Z) sz)
abbrev q_x_readPart (D : va_G) (ks : KS) (ad : Nat → Nat) (kk : Nat → ClassId) (V : Vf) (L : Lf) (Z : XZ) (p0 : Int32) (b : Nat) (A : Nat → Prop) : Array Value → State → Outcome → State → Prop := va_Qi (fun (r : Int32) (u : Vf × Lf) => rgd bX u.1 ∧ agr [(1, 3), (1, 6), (1, 8), (6, 8), (6, 9), (6, 10)] [42, 43, 44, 48] V u.1 ∧ agL [6, 44] L u.2 ∧ frX (xR b) V u.1 ∧ (0 ≤ r.toInt ∧ r.toInt ≤ 1) ∧ (CD u.1 b) ∧ (px V u.1 b) ∧ (Imp (r.toInt = 0) (1 ≤ (u.1 1 3).toInt))) (fun u t => gq D A (xw ad kk u.1 u.2 Z) (xty kk Z) t) A
def K_x_readPart (l : Launch) (D : va_G) (ks : KS) (dd : Nat) : Prop := ∀ (sz : Nat) (ad : Nat → Nat) (kk : Nat → ClassId) (V : Vf) (L : Lf) (Z : XZ) (p0 : Int32) (b : Nat) (hMV : rgd bX V) (rg_p0 : 0 ≤ p0.toInt ∧ p0.toInt ≤ 8) (hb2 : b < 2) (rbk : (V 1 1).toInt = (b : Int)) (cd : CD V b) (y1 : 8 - p0.toInt ≤ (dd : Int)) , Met l yX1_readPart (Cond.code yX1_readPart cX1_readPart 5 (some .boolean) :: GW) (rK 6 150 dd) (va_Pc [.ref (ad 1), .int p0] (gp D ks (xw ad kk V L Z) (xty kk Z) sz)) (q_x_readPart D ks ad kk V L Z p0 b (va_A (xw ad kk V L Z) sz)) 0 0 (va_A (xw ad kk V L Z) sz)
abbrev q_x_readWithin (D : va_G) (ks : KS) (ad : Nat → Nat) (kk : Nat → ClassId) (V : Vf) (L : Lf) (Z : XZ) (p0 : Int32) (b : Nat) (A : Nat → Prop) : Array Value → State → Outcome → State → Prop := va_Qi (fun (r : Int32) (u : Vf × Lf) => rgd bX u.1 ∧ agr [(1, 3), (1, 6), (1, 8), (6, 8), (6, 9), (6, 10)] [42, 43, 44, 48] V u.1 ∧ agL [6, 44] L u.2 ∧ frX (xR b) V u.1 ∧ (0 ≤ r.toInt ∧ r.toInt ≤ 1) ∧ (CD u.1 b) ∧ (px V u.1 b) ∧ (Imp (r.toInt = 0) (1 ≤ (u.1 1 3).toInt))) (fun u t => gq D A (xw ad kk u.1 u.2 Z) (xty kk Z) t) A
def K_x_readWithin (l : Launch) (D : va_G) (ks : KS) (dd : Nat) : Prop := ∀ (sz : Nat) (ad : Nat → Nat) (kk : Nat → ClassId) (V : Vf) (L : Lf) (Z : XZ) (p0 : Int32) (b : Nat) (hMV : rgd bX V) (rg_p0 : 0 ≤ p0.toInt ∧ p0.toInt ≤ 7) (hb2 : b < 2) (rbk : (V 1 1).toInt = (b : Int)) (cd : CD V b) (y1 : 7 - p0.toInt ≤ (dd : Int)) , Met l yX1_readWithin (Cond.code yX1_readWithin cX1_readWithin 2 (some .boolean) :: GW) (rK 10 265 dd) (va_Pc [.ref (ad 1), .int p0] (gp D ks (xw ad kk V L Z) (xty kk Z) sz)) (q_x_readWithin D ks ad kk V L Z p0 b (va_A (xw ad kk V L Z) sz)) 0 0 (va_A (xw ad kk V L Z) sz)
abbrev q_x_readPick (D : va_G) (ks : KS) (ad : Nat → Nat) (kk : Nat → ClassId) (V : Vf) (L : Lf) (Z : XZ) (p0 : Int32) (b : Nat) (A : Nat → Prop) : Array Value → State → Outcome → State → Prop := va_Qi (fun (r : Int32) (u : Vf × Lf) => rgd bX u.1 ∧ agr [(1, 3), (1, 6), (1, 8), (6, 8), (6, 9), (6, 10)] [42, 43, 44, 48] V u.1 ∧ agL [6, 44] L u.2 ∧ frX (xR b) V u.1 ∧ (0 ≤ r.toInt ∧ r.toInt ≤ 1) ∧ (CD u.1 b) ∧ (px V u.1 b) ∧ (Imp (r.toInt = 0) (1 ≤ (u.1 1 3).toInt))) (fun u t => gq D A (xw ad kk u.1 u.2 Z) (xty kk Z) t) A
def K_x_readPick (l : Launch) (D : va_G) (ks : KS) (dd : Nat) : Prop := ∀ (sz : Nat) (ad : Nat → Nat) (kk : Nat → ClassId) (V : Vf) (L : Lf) (Z : XZ) (p0 : Int32) (b : Nat) (hMV : rgd bX V) (rg_p0 : 0 ≤ p0.toInt ∧ p0.toInt ≤ 7) (hb2 : b < 2) (rbk : (V 1 1).toInt = (b : Int)) (cd : CD V b) (y1 : 7 - p0.toInt ≤ (dd : Int)) , Met l yX1_readPick (Cond.code yX1_readPick cX1_readPick 4 (some .boolean) :: GW) (rK 10 265 dd) (va_Pc [.ref (ad 1), .int p0] (gp D ks (xw ad kk V L Z) (xty kk Z) sz)) (q_x_readPick D ks ad kk V L Z p0 b (va_A (xw ad kk V L Z) sz)) 0 0 (va_A (xw ad kk V L Z) sz)
abbrev q_x_readOf (D : va_G) (ks : KS) (ad : Nat → Nat) (kk : Nat → ClassId) (V : Vf) (L : Lf) (Z : XZ) (p0 : Int32) (b : Nat) (A : Nat → Prop) : Array Value → State → Outcome → State → Prop := va_Qi (fun (r : Int32) (u : Vf × Lf) => rgd bX u.1 ∧ agr [(1, 3), (1, 6), (1, 8), (6, 8), (6, 9), (6, 10)] [42, 43, 44, 48] V u.1 ∧ agL [6, 44] L u.2 ∧ frX (xR b) V u.1 ∧ (0 ≤ r.toInt ∧ r.toInt ≤ 1) ∧ (CD u.1 b) ∧ (px V u.1 b) ∧ (Imp (r.toInt = 0) (1 ≤ (u.1 1 3).toInt))) (fun u t => gq D A (xw ad kk u.1 u.2 Z) (xty kk Z) t) A
def K_x_readOf (l : Launch) (D : va_G) (ks : KS) (dd : Nat) : Prop := ∀ (sz : Nat) (ad : Nat → Nat) (kk : Nat → ClassId) (V : Vf) (L : Lf) (Z : XZ) (p0 : Int32) (b : Nat) (hMV : rgd bX V) (rg_p0 : 0 ≤ p0.toInt ∧ p0.toInt ≤ 7) (hb2 : b < 2) (rbk : (V 1 1).toInt = (b : Int)) (cd : CD V b) (y1 : 7 - p0.toInt ≤ (dd : Int)) , Met l yX1_readOf (Cond.code yX1_readOf cX1_readOf 4 (some .boolean) :: GW) (rK 11 290 dd) (va_Pc [.ref (ad 1), .int p0] (gp D ks (xw ad kk V L Z) (xty kk Z) sz)) (q_x_readOf D ks ad kk V L Z p0 b (va_A (xw ad kk V L Z) sz)) 0 0 (va_A (xw ad kk V L Z) sz)
set_option maxHeartbeats 4000000 in
set_option maxRecDepth 100000 in
theorem x_readExpression {l : Launch} {D : va_G} {ks : KS} {dd : Nat} (hk_x_readSum : K_x_readSum l D ks dd) : K_x_readExpression l D ks dd := by
  intro sz ad kk V L Z p0 b hMV rg_p0 hb2 rbk cd y1
  refine g_met (q_x_readExpression D ks ad kk V L Z p0 b) (by decide) (Nat.le_of_ble_eq_true rfl) ?_
  intro p e s m below meth c A ls H locs hx hb hr hml hown hg hlocks hin hnw hgk hP hK hD hS hA hl
  have hown : s.vm.findClass RX1 = some m.cls := hown
  have hl : lv_has ls 3 [(0, .ref (ad 1)), (1, .int p0)] := hl
  have hP : va_P D vwCl (xw ad kk V L Z) H := hP
  have hD : va_D A (xw ad kk V L Z) := hD
  have hK : va_K D vwCl (xty kk Z) s := hK
  have agV : agr [(1, 3), (1, 6), (1, 8), (6, 8), (6, 9), (6, 10)] [42, 43, 44, 48] V V := agr.rf
  have alL : agL [6, 44] L L := agL.rf
  have fwV : frX (xR b) V V := frX.rf
  have r1 : (-1) ≤ ((V 1 1)).toInt ∧ ((V 1 1)).toInt ≤ 1 := hMV 1 1
  refine lv_aload_n hx hb dX1_readExpression_0 rfl (lv_at hl 0 rfl) ?_
  refine lv_iload_n hx hb dX1_readExpression_1 rfl (lv_at hl 1 rfl) ?_
  refine gA_int (gA_runV (As := [.int p0]) (rest := []) (ci := 1) (q0 := 1) hx hb hml hown hg hP hD hK hS hA hnw hgk (hk_x_readSum H.size ad kk V L Z p0 (b) hMV (by first | exact om_10aaac3409ba rg_p0.1 rg_p0.2 | first | omega | ((try (have i_cd := Imp.go cd (by omega))); omega)) (show b < 2 from by first | exact om_f940a4667dd6 hb2 | first | omega | ((try (have i_cd := Imp.go cd (by omega))); omega)) (show (V 1 1).toInt = (b : Int) from by first | exact om_08e0c9701055 rbk | first | omega | ((try (have i_cd := Imp.go cd (by omega))); omega)) cd (show 8 - p0.toInt ≤ (dd : Int) from by first | exact om_1656cef72499 y1 | first | omega | ((try (have i_cd := Imp.go cd (by omega))); omega))) w955 w957 w22 w162 w958 rfl xgReader hdV_yX1_readSum ⟨(by show 10 * dd + 8 + 1 ≤ 10 * dd + 9; (first | exact om_c7c83dde3bc9 | omega)), (by show 8 + (4 + 11) + (300 * dd + 210) ≤ 300 * dd + 240; (first | exact om_a311f240fdee | omega))⟩ rfl hl.1 rfl (Nat.le_of_ble_eq_true rfl) dX1_readExpression_2 ⟨Nat.le_of_ble_eq_true rfl, Nat.le_of_ble_eq_true rfl⟩) hP hD hK hS hA (fun z2 u3 H locs w4 hP hD hK hS => ?_)
  obtain ⟨V8, L9⟩ := u3
  obtain ⟨hMV8, ajV8, axL9, fyV8, rgz2, t5, t6, t7⟩ := w4
  have alL9 : agL [6, 44] L L9 := agL.tr alL axL9 (by decide)
  have hP : va_P D vwCl (xw ad kk V8 L9 Z) H := hP
  have hD : va_D A (xw ad kk V8 L9 Z) := hD
  have hMV8 : rgd bX V8 := hMV8
  have ajV8 : agr [(1, 3), (1, 6), (1, 8), (6, 8), (6, 9), (6, 10)] [42, 43, 44, 48] V V8 := ajV8
  have agV8 : agr [(1, 3), (1, 6), (1, 8), (6, 8), (6, 9), (6, 10)] [42, 43, 44, 48] V V8 := agV.tr ajV8 (by decide) (by decide)
  have fwV8 : frX (xR b) V V8 := frX.tr fwV (fyV8)
  have rgz2 : 0 ≤ z2.toInt ∧ z2.toInt ≤ 1 := rgz2
  have t5 : CD V8 b := t5
  have t6 : px V V8 b := t6
  have t7 : Imp (z2.toInt = 0) (1 ≤ (V8 1 3).toInt) := t7
  refine lv_if_ne (tgt := 10) hx hb dX1_readExpression_5 (by decide) (fun c10 => ?_) (fun c10 => ?_)
  · skip
    have f11 : z2.toInt ≠ 0 := b_neq rfl (by decide) c10
    refine lv_aload_n hx hb dX1_readExpression_10 rfl (lv_at hl 0 rfl) ?_
    refine va_get (D := D) (ci := 1) (v := .ref (ad 6)) (fs := (xfReader ad V8 L9 Z)) (C := RX1) (T := TX1) (N := 9) hx hb hg inX1 hown hK hP 1 xgReader rfl 0 (by decide) (hg _ w304) (fun _ h9 => h9) rfl dX1_readExpression_11 ?_
    refine va_getN (D := D) (ci := 9) (v := .int (V8 6 9)) (fs := (xfTape ad V8 L9 Z)) (C := RX9) (T := TX9) (N := 12) hx hb hg inX9 hown hK hP 6 xgTape rfl 9 (by decide) (hnw.use 262 n262 rfl) (fun _ h9 => h9) rfl dX1_readExpression_14 ?_
    refine lv_istore_n (lv' := [(2, .int (V8 6 9)), (0, .ref (ad 1)), (1, .int p0)]) hx hb dX1_readExpression_17 rfl hl (by decide) rfl (fun ls hl => ?_)
    refine lv_iload_n hx hb dX1_readExpression_18 rfl (lv_at hl 0 rfl) ?_
    refine lv_bipush (v := 60) hx hb dX1_readExpression_19 (by decide) ?_
    refine lv_icmp_eq (tgt := 32) hx hb dX1_readExpression_21 (by decide) (fun c12 => ?_) (fun c12 => ?_)
    · skip
      have f13 : ((V8 6 9)).toInt = 60 := b_eq rfl (by decide) c12
      refine lv_aload_n hx hb dX1_readExpression_32 rfl (lv_at hl 1 rfl) ?_
      refine va_get (D := D) (ci := 1) (v := .ref (ad 6)) (fs := (xfReader ad V8 L9 Z)) (C := RX1) (T := TX1) (N := 9) hx hb hg inX1 hown hK hP 1 xgReader rfl 0 (by decide) (hg _ w304) (fun _ h9 => h9) rfl dX1_readExpression_33 ?_
      refine gA_void (gA_runV (As := []) (rest := []) (ci := 9) (q0 := 6) hx hb hml hown hg hP hD hK hS hA hnw hgk (x_next l D ks H.size ad kk V8 L9 Z  hMV8 ) w871 w852 w853 w157 w854 rfl xgTape hdV_yX9_next ⟨(by show 0 + 1 ≤ 10 * dd + 9; (first | exact om_f6f02652fb17 rg_p0.2 y1 | omega)), (by show 8 + (1 + 11) + (0) ≤ 300 * dd + 240; (first | exact om_38b7b0a95203 rg_p0.2 y1 | omega))⟩ rfl hl.1 rfl (Nat.le_of_ble_eq_true rfl) dX1_readExpression_36 ⟨Nat.le_of_ble_eq_true rfl, Nat.le_of_ble_eq_true rfl⟩) hP hD hK hS hA (fun u15 H locs w16 hP hD hK hS => ?_)
      obtain ⟨V17, L18⟩ := u15
      obtain ⟨hMV17, ajV17, axL18⟩ := w16
      have alL18 : agL [6, 44] L L18 := agL.tr alL9 axL18 (by decide)
      have hP : va_P D vwCl (xw ad kk V17 L18 Z) H := hP
      have hD : va_D A (xw ad kk V17 L18 Z) := hD
      have hMV17 : rgd bX V17 := hMV17
      have ajV17 : agr [(6, 8), (6, 9), (6, 10)] [] V8 V17 := ajV17
      have agV17 : agr [(1, 3), (1, 6), (1, 8), (6, 8), (6, 9), (6, 10)] [42, 43, 44, 48] V V17 := agV8.tr ajV17 (by decide) (by decide)
      have fwV17 : frX (xR b) V V17 := frX.tr fwV8 (frX.ag ajV17 (by decide) (by decide))
      refine lv_aload_n hx hb dX1_readExpression_39 rfl (lv_at hl 1 rfl) ?_
      refine lv_iload_n hx hb dX1_readExpression_40 rfl (lv_at hl 2 rfl) ?_
      have pq19 : (V17 1 1).toInt = ((V 1 1)).toInt := congrArg Int32.toInt ((ajV17 1 1 rfl).trans (ajV8 1 1 rfl))
      have cd20 : CD V17 b := ⟨CB.ag t5.1 (show agr [(6, 8), (6, 9), (6, 10)] [] V8 V17 from (agr.tr agr.rf ajV17 (by decide) (by decide))) (fun _ => rfl) (fun _ => rfl), CO.ag t5.2 (show agr [(6, 8), (6, 9), (6, 10)] [] V8 V17 from (agr.tr agr.rf ajV17 (by decide) (by decide))) (fun _ => rfl) (fun _ => rfl)⟩
      refine gA_int (gA_runV (As := [.int p0]) (rest := []) (ci := 1) (q0 := 1) hx hb hml hown hg hP hD hK hS hA hnw hgk (hk_x_readSum H.size ad kk V17 L18 Z p0 (b) hMV17 (by first | exact om_10aaac3409ba rg_p0.1 rg_p0.2 | first | omega | ((try (have i_t7 := Imp.go t7 (by omega))); (try (have i_cd := Imp.go cd (by omega))); (try (have i_cd := Imp.go cd (by omega))); (try (have i_t7 := Imp.go t7 (by omega))); omega)) (show b < 2 from by first | exact om_f940a4667dd6 hb2 | first | omega | ((try (have i_t7 := Imp.go t7 (by omega))); (try (have i_cd := Imp.go cd (by omega))); (try (have i_cd := Imp.go cd (by omega))); (try (have i_t7 := Imp.go t7 (by omega))); omega)) (show (V17 1 1).toInt = (b : Int) from by first | exact om_adf531c77a0d rbk pq19 | first | omega | ((try (have i_t7 := Imp.go t7 (by omega))); (try (have i_cd := Imp.go cd (by omega))); (try (have i_cd := Imp.go cd (by omega))); (try (have i_t7 := Imp.go t7 (by omega))); omega)) cd20 (show 8 - p0.toInt ≤ (dd : Int) from by first | exact om_1656cef72499 y1 | first | omega | ((try (have i_t7 := Imp.go t7 (by omega))); (try (have i_cd := Imp.go cd (by omega))); (try (have i_cd := Imp.go cd (by omega))); (try (have i_t7 := Imp.go t7 (by omega))); omega))) w955 w957 w22 w162 w958 rfl xgReader hdV_yX1_readSum ⟨(by show 10 * dd + 8 + 1 ≤ 10 * dd + 9; (first | exact om_c7c83dde3bc9 | omega)), (by show 8 + (4 + 11) + (300 * dd + 210) ≤ 300 * dd + 240; (first | exact om_a311f240fdee | omega))⟩ rfl hl.1 rfl (Nat.le_of_ble_eq_true rfl) dX1_readExpression_41 ⟨Nat.le_of_ble_eq_true rfl, Nat.le_of_ble_eq_true rfl⟩) hP hD hK hS hA (fun z21 u22 H locs w23 hP hD hK hS => ?_)
      obtain ⟨V27, L28⟩ := u22
      obtain ⟨hMV27, ajV27, axL28, fyV27, rgz21, t24, t25, t26⟩ := w23
      have alL28 : agL [6, 44] L L28 := agL.tr alL18 axL28 (by decide)
      have hP : va_P D vwCl (xw ad kk V27 L28 Z) H := hP
      have hD : va_D A (xw ad kk V27 L28 Z) := hD
      have hMV27 : rgd bX V27 := hMV27
      have ajV27 : agr [(1, 3), (1, 6), (1, 8), (6, 8), (6, 9), (6, 10)] [42, 43, 44, 48] V17 V27 := ajV27
      have agV27 : agr [(1, 3), (1, 6), (1, 8), (6, 8), (6, 9), (6, 10)] [42, 43, 44, 48] V V27 := agV17.tr ajV27 (by decide) (by decide)
      have fwV27 : frX (xR b) V V27 := frX.tr fwV17 (fyV27)
      have rgz21 : 0 ≤ z21.toInt ∧ z21.toInt ≤ 1 := rgz21
      have t24 : CD V27 b := t24
      have t25 : px V17 V27 b := t25
      have t26 : Imp (z21.toInt = 0) (1 ≤ (V27 1 3).toInt) := t26
      refine lv_if_ne (tgt := 49) hx hb dX1_readExpression_44 (by decide) (fun c29 => ?_) (fun c29 => ?_)
      · skip
        have f30 : z21.toInt ≠ 0 := b_neq rfl (by decide) c29
        refine lv_aload_n hx hb dX1_readExpression_49 rfl (lv_at hl 1 rfl) ?_
        refine va_get (D := D) (ci := 1) (v := rfN ad 38 (V27 1 1)) (fs := (xfReader ad V27 L28 Z)) (C := RX1) (T := TX1) (N := 9) hx hb hg inX1 hown hK hP 1 xgReader rfl 1 (by decide) (hg _ w305) (fun _ h9 => h9) rfl dX1_readExpression_50 ?_
        have pq31 : (V27 1 1).toInt = ((V 1 1)).toInt := congrArg Int32.toInt ((ajV27 1 1 rfl).trans ((ajV17 1 1 rfl).trans (ajV8 1 1 rfl)))
        refine g_topv (v := .ref (ad (38 + b))) (rfN_r (by first | omega | ((try (have i_t26 := Imp.go t26 (by omega))); (try (have i_t7 := Imp.go t7 (by omega))); (try (have i_cd := Imp.go cd (by omega))); (try (have i_cd := Imp.go cd (by omega))); (try (have i_t7 := Imp.go t7 (by omega))); (try (have i_t26 := Imp.go t26 (by omega))); omega))) ?_
        refine lv_iload_n hx hb dX1_readExpression_53 rfl (lv_at hl 0 rfl) ?_
        refine lv_bipush (v := 60) hx hb dX1_readExpression_54 (by decide) ?_
        refine lv_icmp_ne (tgt := 64) hx hb dX1_readExpression_56 (by decide) (fun c32 => ?_) (fun c32 => ?_)
        · skip
          have f33 : ((V8 6 9)).toInt ≠ 60 := b_neq rfl (by decide) c32
          exfalso; first | exact om_7e7dd3a43436 f13 f33 | first | omega | ((try (have i_t26 := Imp.go t26 (by omega))); (try (have i_t7 := Imp.go t7 (by omega))); (try (have i_cd := Imp.go cd (by omega))); (try (have i_cd := Imp.go cd (by omega))); (try (have i_t7 := Imp.go t7 (by omega))); (try (have i_t26 := Imp.go t26 (by omega))); omega)
        · skip
          have f34 : ((V8 6 9)).toInt = 60 := b_eq rfl (by decide) c32
          refine lv_bipush (v := 8) hx hb dX1_readExpression_59 (by decide) ?_
          refine lv_goto (tgt := 66) hx hb dX1_readExpression_61 (by decide) ?_
          have r35 : Int32.toInt 8 = 8 := by decide
          refine gA_void (gA_runV (As := [.int 8]) (rest := []) (ci := 0) (q0 := (38 + b)) hx hb hml hown hg hP hD hK hS hA hnw hgk (x_emit l D ks H.size ad kk V27 L28 Z 8 (b) hMV27 (show b < 2 from by first | exact om_f940a4667dd6 hb2 | first | omega | ((try (have i_t26 := Imp.go t26 (by omega))); (try (have i_t7 := Imp.go t7 (by omega))); (try (have i_cd := Imp.go cd (by omega))); (try (have i_cd := Imp.go cd (by omega))); (try (have i_t7 := Imp.go t7 (by omega))); (try (have i_t26 := Imp.go t26 (by omega))); omega))) w971 w972 w973 w167 w974 rfl (xgBook hb2) hdV_yX0_emit ⟨(by show 0 + 1 ≤ 10 * dd + 9; (first | exact om_f6f02652fb17 rg_p0.2 y1 | omega)), (by show 8 + (2 + 11) + (0) ≤ 300 * dd + 240; (first | exact om_e69b212fc415 rg_p0.2 y1 | omega))⟩ rfl hl.1 rfl (Nat.le_of_ble_eq_true rfl) dX1_readExpression_66 ⟨Nat.le_of_ble_eq_true rfl, Nat.le_of_ble_eq_true rfl⟩) hP hD hK hS hA (fun u37 H locs w38 hP hD hK hS => ?_)
          obtain ⟨V40, L41⟩ := u37
          obtain ⟨hMV40, ajV40, axL41, fyV40, t39⟩ := w38
          have axL41 : L28 = L41 := Eq.symm axL41
          subst axL41
          have hP : va_P D vwCl (xw ad kk V40 L28 Z) H := hP
          have hD : va_D A (xw ad kk V40 L28 Z) := hD
          have hMV40 : rgd bX V40 := hMV40
          have ajV40 : agr [] [42, 48] V27 V40 := ajV40
          have agV40 : agr [(1, 3), (1, 6), (1, 8), (6, 8), (6, 9), (6, 10)] [42, 43, 44, 48] V V40 := agV27.tr ajV40 (by decide) (by decide)
          have fwV40 : frX (xR b) V V40 := frX.tr fwV27 (fyV40)
          have t39 : emX V27 V40 b 8 := t39
          refine lv_iconst (v := 1) hx hb dX1_readExpression_69 (by decide) ?_
          have pq42 : (V40 1 3).toInt = ((V27 1 3)).toInt := congrArg Int32.toInt (ajV40 1 3 rfl)
          have cl43 : 0 ≤ (V27 42 b).toInt ∧ (V27 42 b).toInt ≤ 8200 := hMV27 42 b
          have cd44 : CD V40 b := ⟨CB.e1 t24.1 t39 (by omega) (by decide), CO.e1 t24.2 t39 (by decide) (by omega)⟩
          have px45 : px V V8 b := px.tr (px.rf : px V V b) t6
          have px46 : px V V17 b := px.tr px45 (px.ag (show agr [(6, 8), (6, 9), (6, 10)] [] V8 V17 from (agr.tr agr.rf ajV17 (by decide) (by decide))) (fun _ => rfl) (fun _ => rfl) (fun _ => rfl))
          have px47 : px V V27 b := px.tr px46 t25
          have px48 : px V V40 b := px.tr px47 ⟨emX.p0x t39, ajV40 43 _ rfl⟩
          exact W.zret (v := 1) hx hb hr rfl (fun t ht hW => ⟨⟨1, (V40, L28), rfl, ⟨hMV40, agV40, alL28, fwV40, (by decide), cd44, px48, (Imp.mk (fun hp => absurd hp (by decide)))⟩, by rw [ht]; exact hP, va_K.moved hW.alike hK, hD⟩, hS.F ht⟩) hS.2.2 dX1_readExpression_70
      · skip
        have f49 : z21.toInt = 0 := b_eq rfl (by decide) c29
        refine lv_iconst (v := 0) hx hb dX1_readExpression_47 (by decide) ?_
        have px50 : px V V8 b := px.tr (px.rf : px V V b) t6
        have px51 : px V V17 b := px.tr px50 (px.ag (show agr [(6, 8), (6, 9), (6, 10)] [] V8 V17 from (agr.tr agr.rf ajV17 (by decide) (by decide))) (fun _ => rfl) (fun _ => rfl) (fun _ => rfl))
        have px52 : px V V27 b := px.tr px51 t25
        exact W.zret (v := 0) hx hb hr rfl (fun t ht hW => ⟨⟨0, (V27, L28), rfl, ⟨hMV27, agV27, alL28, fwV27, (by decide), t24, px52, (Imp.mk (fun _ => (show 1 ≤ (V27 1 3).toInt from by first | exact om_f8d8213eda45 ((Imp.go t26 (f49))) | first | omega | ((try (have i_t26 := Imp.go t26 (by omega))); (try (have i_t7 := Imp.go t7 (by omega))); (try (have i_cd := Imp.go cd (by omega))); (try (have i_cd := Imp.go cd (by omega))); (try (have i_t7 := Imp.go t7 (by omega))); (try (have i_t26 := Imp.go t26 (by omega))); omega))))⟩, by rw [ht]; exact hP, va_K.moved hW.alike hK, hD⟩, hS.F ht⟩) hS.2.2 dX1_readExpression_48
    · skip
      have f53 : ((V8 6 9)).toInt ≠ 60 := b_neq rfl (by decide) c12
      refine lv_iload_n hx hb dX1_readExpression_24 rfl (lv_at hl 0 rfl) ?_
      refine lv_bipush (v := 61) hx hb dX1_readExpression_25 (by decide) ?_
      refine lv_icmp_eq (tgt := 32) hx hb dX1_readExpression_27 (by decide) (fun c54 => ?_) (fun c54 => ?_)
      · skip
        have f55 : ((V8 6 9)).toInt = 61 := b_eq rfl (by decide) c54
        refine lv_aload_n hx hb dX1_readExpression_32 rfl (lv_at hl 1 rfl) ?_
        refine va_get (D := D) (ci := 1) (v := .ref (ad 6)) (fs := (xfReader ad V8 L9 Z)) (C := RX1) (T := TX1) (N := 9) hx hb hg inX1 hown hK hP 1 xgReader rfl 0 (by decide) (hg _ w304) (fun _ h9 => h9) rfl dX1_readExpression_33 ?_
        refine gA_void (gA_runV (As := []) (rest := []) (ci := 9) (q0 := 6) hx hb hml hown hg hP hD hK hS hA hnw hgk (x_next l D ks H.size ad kk V8 L9 Z  hMV8 ) w871 w852 w853 w157 w854 rfl xgTape hdV_yX9_next ⟨(by show 0 + 1 ≤ 10 * dd + 9; (first | exact om_f6f02652fb17 rg_p0.2 y1 | omega)), (by show 8 + (1 + 11) + (0) ≤ 300 * dd + 240; (first | exact om_38b7b0a95203 rg_p0.2 y1 | omega))⟩ rfl hl.1 rfl (Nat.le_of_ble_eq_true rfl) dX1_readExpression_36 ⟨Nat.le_of_ble_eq_true rfl, Nat.le_of_ble_eq_true rfl⟩) hP hD hK hS hA (fun u57 H locs w58 hP hD hK hS => ?_)
        obtain ⟨V59, L60⟩ := u57
        obtain ⟨hMV59, ajV59, axL60⟩ := w58
        have alL60 : agL [6, 44] L L60 := agL.tr alL9 axL60 (by decide)
        have hP : va_P D vwCl (xw ad kk V59 L60 Z) H := hP
        have hD : va_D A (xw ad kk V59 L60 Z) := hD
        have hMV59 : rgd bX V59 := hMV59
        have ajV59 : agr [(6, 8), (6, 9), (6, 10)] [] V8 V59 := ajV59
        have agV59 : agr [(1, 3), (1, 6), (1, 8), (6, 8), (6, 9), (6, 10)] [42, 43, 44, 48] V V59 := agV8.tr ajV59 (by decide) (by decide)
        have fwV59 : frX (xR b) V V59 := frX.tr fwV8 (frX.ag ajV59 (by decide) (by decide))
        refine lv_aload_n hx hb dX1_readExpression_39 rfl (lv_at hl 1 rfl) ?_
        refine lv_iload_n hx hb dX1_readExpression_40 rfl (lv_at hl 2 rfl) ?_
        have pq61 : (V59 1 1).toInt = ((V 1 1)).toInt := congrArg Int32.toInt ((ajV59 1 1 rfl).trans (ajV8 1 1 rfl))
        have cd62 : CD V59 b := ⟨CB.ag t5.1 (show agr [(6, 8), (6, 9), (6, 10)] [] V8 V59 from (agr.tr agr.rf ajV59 (by decide) (by decide))) (fun _ => rfl) (fun _ => rfl), CO.ag t5.2 (show agr [(6, 8), (6, 9), (6, 10)] [] V8 V59 from (agr.tr agr.rf ajV59 (by decide) (by decide))) (fun _ => rfl) (fun _ => rfl)⟩
        refine gA_int (gA_runV (As := [.int p0]) (rest := []) (ci := 1) (q0 := 1) hx hb hml hown hg hP hD hK hS hA hnw hgk (hk_x_readSum H.size ad kk V59 L60 Z p0 (b) hMV59 (by first | exact om_10aaac3409ba rg_p0.1 rg_p0.2 | first | omega | ((try (have i_t7 := Imp.go t7 (by omega))); (try (have i_cd := Imp.go cd (by omega))); (try (have i_cd := Imp.go cd (by omega))); (try (have i_t7 := Imp.go t7 (by omega))); omega)) (show b < 2 from by first | exact om_f940a4667dd6 hb2 | first | omega | ((try (have i_t7 := Imp.go t7 (by omega))); (try (have i_cd := Imp.go cd (by omega))); (try (have i_cd := Imp.go cd (by omega))); (try (have i_t7 := Imp.go t7 (by omega))); omega)) (show (V59 1 1).toInt = (b : Int) from by first | exact om_adf531c77a0d rbk pq61 | first | omega | ((try (have i_t7 := Imp.go t7 (by omega))); (try (have i_cd := Imp.go cd (by omega))); (try (have i_cd := Imp.go cd (by omega))); (try (have i_t7 := Imp.go t7 (by omega))); omega)) cd62 (show 8 - p0.toInt ≤ (dd : Int) from by first | exact om_1656cef72499 y1 | first | omega | ((try (have i_t7 := Imp.go t7 (by omega))); (try (have i_cd := Imp.go cd (by omega))); (try (have i_cd := Imp.go cd (by omega))); (try (have i_t7 := Imp.go t7 (by omega))); omega))) w955 w957 w22 w162 w958 rfl xgReader hdV_yX1_readSum ⟨(by show 10 * dd + 8 + 1 ≤ 10 * dd + 9; (first | exact om_c7c83dde3bc9 | omega)), (by show 8 + (4 + 11) + (300 * dd + 210) ≤ 300 * dd + 240; (first | exact om_a311f240fdee | omega))⟩ rfl hl.1 rfl (Nat.le_of_ble_eq_true rfl) dX1_readExpression_41 ⟨Nat.le_of_ble_eq_true rfl, Nat.le_of_ble_eq_true rfl⟩) hP hD hK hS hA (fun z63 u64 H locs w65 hP hD hK hS => ?_)
        obtain ⟨V69, L70⟩ := u64
        obtain ⟨hMV69, ajV69, axL70, fyV69, rgz63, t66, t67, t68⟩ := w65
        have alL70 : agL [6, 44] L L70 := agL.tr alL60 axL70 (by decide)
        have hP : va_P D vwCl (xw ad kk V69 L70 Z) H := hP
        have hD : va_D A (xw ad kk V69 L70 Z) := hD
        have hMV69 : rgd bX V69 := hMV69
        have ajV69 : agr [(1, 3), (1, 6), (1, 8), (6, 8), (6, 9), (6, 10)] [42, 43, 44, 48] V59 V69 := ajV69
        have agV69 : agr [(1, 3), (1, 6), (1, 8), (6, 8), (6, 9), (6, 10)] [42, 43, 44, 48] V V69 := agV59.tr ajV69 (by decide) (by decide)
        have fwV69 : frX (xR b) V V69 := frX.tr fwV59 (fyV69)
        have rgz63 : 0 ≤ z63.toInt ∧ z63.toInt ≤ 1 := rgz63
        have t66 : CD V69 b := t66
        have t67 : px V59 V69 b := t67
        have t68 : Imp (z63.toInt = 0) (1 ≤ (V69 1 3).toInt) := t68
        refine lv_if_ne (tgt := 49) hx hb dX1_readExpression_44 (by decide) (fun c71 => ?_) (fun c71 => ?_)
        · skip
          have f72 : z63.toInt ≠ 0 := b_neq rfl (by decide) c71
          refine lv_aload_n hx hb dX1_readExpression_49 rfl (lv_at hl 1 rfl) ?_
          refine va_get (D := D) (ci := 1) (v := rfN ad 38 (V69 1 1)) (fs := (xfReader ad V69 L70 Z)) (C := RX1) (T := TX1) (N := 9) hx hb hg inX1 hown hK hP 1 xgReader rfl 1 (by decide) (hg _ w305) (fun _ h9 => h9) rfl dX1_readExpression_50 ?_
          have pq73 : (V69 1 1).toInt = ((V 1 1)).toInt := congrArg Int32.toInt ((ajV69 1 1 rfl).trans ((ajV59 1 1 rfl).trans (ajV8 1 1 rfl)))
          refine g_topv (v := .ref (ad (38 + b))) (rfN_r (by first | omega | ((try (have i_t68 := Imp.go t68 (by omega))); (try (have i_t7 := Imp.go t7 (by omega))); (try (have i_cd := Imp.go cd (by omega))); (try (have i_cd := Imp.go cd (by omega))); (try (have i_t7 := Imp.go t7 (by omega))); (try (have i_t68 := Imp.go t68 (by omega))); omega))) ?_
          refine lv_iload_n hx hb dX1_readExpression_53 rfl (lv_at hl 0 rfl) ?_
          refine lv_bipush (v := 60) hx hb dX1_readExpression_54 (by decide) ?_
          refine lv_icmp_ne (tgt := 64) hx hb dX1_readExpression_56 (by decide) (fun c74 => ?_) (fun c74 => ?_)
          · skip
            have f75 : ((V8 6 9)).toInt ≠ 60 := b_neq rfl (by decide) c74
            refine lv_bipush (v := 9) hx hb dX1_readExpression_64 (by decide) ?_
            have r76 : Int32.toInt 9 = 9 := by decide
            refine gA_void (gA_runV (As := [.int 9]) (rest := []) (ci := 0) (q0 := (38 + b)) hx hb hml hown hg hP hD hK hS hA hnw hgk (x_emit l D ks H.size ad kk V69 L70 Z 9 (b) hMV69 (show b < 2 from by first | exact om_f940a4667dd6 hb2 | first | omega | ((try (have i_t68 := Imp.go t68 (by omega))); (try (have i_t7 := Imp.go t7 (by omega))); (try (have i_cd := Imp.go cd (by omega))); (try (have i_cd := Imp.go cd (by omega))); (try (have i_t7 := Imp.go t7 (by omega))); (try (have i_t68 := Imp.go t68 (by omega))); omega))) w971 w972 w973 w167 w974 rfl (xgBook hb2) hdV_yX0_emit ⟨(by show 0 + 1 ≤ 10 * dd + 9; (first | exact om_f6f02652fb17 rg_p0.2 y1 | omega)), (by show 8 + (2 + 11) + (0) ≤ 300 * dd + 240; (first | exact om_e69b212fc415 rg_p0.2 y1 | omega))⟩ rfl hl.1 rfl (Nat.le_of_ble_eq_true rfl) dX1_readExpression_66 ⟨Nat.le_of_ble_eq_true rfl, Nat.le_of_ble_eq_true rfl⟩) hP hD hK hS hA (fun u78 H locs w79 hP hD hK hS => ?_)
            obtain ⟨V81, L82⟩ := u78
            obtain ⟨hMV81, ajV81, axL82, fyV81, t80⟩ := w79
            have axL82 : L70 = L82 := Eq.symm axL82
            subst axL82
            have hP : va_P D vwCl (xw ad kk V81 L70 Z) H := hP
            have hD : va_D A (xw ad kk V81 L70 Z) := hD
            have hMV81 : rgd bX V81 := hMV81
            have ajV81 : agr [] [42, 48] V69 V81 := ajV81
            have agV81 : agr [(1, 3), (1, 6), (1, 8), (6, 8), (6, 9), (6, 10)] [42, 43, 44, 48] V V81 := agV69.tr ajV81 (by decide) (by decide)
            have fwV81 : frX (xR b) V V81 := frX.tr fwV69 (fyV81)
            have t80 : emX V69 V81 b 9 := t80
            refine lv_iconst (v := 1) hx hb dX1_readExpression_69 (by decide) ?_
            have pq83 : (V81 1 3).toInt = ((V69 1 3)).toInt := congrArg Int32.toInt (ajV81 1 3 rfl)
            have cl84 : 0 ≤ (V69 42 b).toInt ∧ (V69 42 b).toInt ≤ 8200 := hMV69 42 b
            have cd85 : CD V81 b := ⟨CB.e1 t66.1 t80 (by omega) (by decide), CO.e1 t66.2 t80 (by decide) (by omega)⟩
            have px86 : px V V8 b := px.tr (px.rf : px V V b) t6
            have px87 : px V V59 b := px.tr px86 (px.ag (show agr [(6, 8), (6, 9), (6, 10)] [] V8 V59 from (agr.tr agr.rf ajV59 (by decide) (by decide))) (fun _ => rfl) (fun _ => rfl) (fun _ => rfl))
            have px88 : px V V69 b := px.tr px87 t67
            have px89 : px V V81 b := px.tr px88 ⟨emX.p0x t80, ajV81 43 _ rfl⟩
            exact W.zret (v := 1) hx hb hr rfl (fun t ht hW => ⟨⟨1, (V81, L70), rfl, ⟨hMV81, agV81, alL70, fwV81, (by decide), cd85, px89, (Imp.mk (fun hp => absurd hp (by decide)))⟩, by rw [ht]; exact hP, va_K.moved hW.alike hK, hD⟩, hS.F ht⟩) hS.2.2 dX1_readExpression_70
          · skip
            have f90 : ((V8 6 9)).toInt = 60 := b_eq rfl (by decide) c74
            exfalso; first | exact om_495cabaa3c36 f53 f55 f90 | first | omega | ((try (have i_t68 := Imp.go t68 (by omega))); (try (have i_t7 := Imp.go t7 (by omega))); (try (have i_cd := Imp.go cd (by omega))); (try (have i_cd := Imp.go cd (by omega))); (try (have i_t7 := Imp.go t7 (by omega))); (try (have i_t68 := Imp.go t68 (by omega))); omega)
        · skip
          have f91 : z63.toInt = 0 := b_eq rfl (by decide) c71
          refine lv_iconst (v := 0) hx hb dX1_readExpression_47 (by decide) ?_
          have px92 : px V V8 b := px.tr (px.rf : px V V b) t6
          have px93 : px V V59 b := px.tr px92 (px.ag (show agr [(6, 8), (6, 9), (6, 10)] [] V8 V59 from (agr.tr agr.rf ajV59 (by decide) (by decide))) (fun _ => rfl) (fun _ => rfl) (fun _ => rfl))
          have px94 : px V V69 b := px.tr px93 t67
          exact W.zret (v := 0) hx hb hr rfl (fun t ht hW => ⟨⟨0, (V69, L70), rfl, ⟨hMV69, agV69, alL70, fwV69, (by decide), t66, px94, (Imp.mk (fun _ => (show 1 ≤ (V69 1 3).toInt from by first | exact om_f8d8213eda45 ((Imp.go t68 (f91))) | first | omega | ((try (have i_t68 := Imp.go t68 (by omega))); (try (have i_t7 := Imp.go t7 (by omega))); (try (have i_cd := Imp.go cd (by omega))); (try (have i_cd := Imp.go cd (by omega))); (try (have i_t7 := Imp.go t7 (by omega))); (try (have i_t68 := Imp.go t68 (by omega))); omega))))⟩, by rw [ht]; exact hP, va_K.moved hW.alike hK, hD⟩, hS.F ht⟩) hS.2.2 dX1_readExpression_48
      · skip
        have f95 : ((V8 6 9)).toInt ≠ 61 := b_neq rfl (by decide) c54
        refine lv_iconst (v := 1) hx hb dX1_readExpression_30 (by decide) ?_
        have px96 : px V V8 b := px.tr (px.rf : px V V b) t6
        exact W.zret (v := 1) hx hb hr rfl (fun t ht hW => ⟨⟨1, (V8, L9), rfl, ⟨hMV8, agV8, alL9, fwV8, (by decide), t5, px96, (Imp.mk (fun hp => absurd hp (by decide)))⟩, by rw [ht]; exact hP, va_K.moved hW.alike hK, hD⟩, hS.F ht⟩) hS.2.2 dX1_readExpression_31
  · skip
    have f97 : z2.toInt = 0 := b_eq rfl (by decide) c10
    refine lv_iconst (v := 0) hx hb dX1_readExpression_8 (by decide) ?_
    have px98 : px V V8 b := px.tr (px.rf : px V V b) t6
    exact W.zret (v := 0) hx hb hr rfl (fun t ht hW => ⟨⟨0, (V8, L9), rfl, ⟨hMV8, agV8, alL9, fwV8, (by decide), t5, px98, (Imp.mk (fun _ => (show 1 ≤ (V8 1 3).toInt from by first | exact om_f8d8213eda45 ((Imp.go t7 (f97))) | first | omega | ((try (have i_t7 := Imp.go t7 (by omega))); (try (have i_cd := Imp.go cd (by omega))); (try (have i_cd := Imp.go cd (by omega))); (try (have i_t7 := Imp.go t7 (by omega))); omega))))⟩, by rw [ht]; exact hP, va_K.moved hW.alike hK, hD⟩, hS.F ht⟩) hS.2.2 dX1_readExpression_9
set_option maxHeartbeats 4000000 in
set_option maxRecDepth 100000 in
theorem x_readSum {l : Launch} {D : va_G} {ks : KS} {dd : Nat} (hk_x_readProduct : K_x_readProduct l D ks dd) : K_x_readSum l D ks dd := by
  intro sz ad kk V L Z p0 b hMV rg_p0 hb2 rbk cd y1
  refine g_met (q_x_readSum D ks ad kk V L Z p0 b) (by decide) (Nat.le_of_ble_eq_true rfl) ?_
  intro p e s m below meth c A ls H locs hx hb hr hml hown hg hlocks hin hnw hgk hP hK hD hS hA hl
  have hown : s.vm.findClass RX1 = some m.cls := hown
  have hl : lv_has ls 4 [(0, .ref (ad 1)), (1, .int p0)] := hl
  have hP : va_P D vwCl (xw ad kk V L Z) H := hP
  have hD : va_D A (xw ad kk V L Z) := hD
  have hK : va_K D vwCl (xty kk Z) s := hK
  have agV : agr [(1, 3), (1, 6), (1, 8), (6, 8), (6, 9), (6, 10)] [42, 43, 44, 48] V V := agr.rf
  have alL : agL [6, 44] L L := agL.rf
  have fwV : frX (xR b) V V := frX.rf
  have r1 : (-1) ≤ ((V 1 1)).toInt ∧ ((V 1 1)).toInt ≤ 1 := hMV 1 1
  refine lv_aload_n hx hb dX1_readSum_0 rfl (lv_at hl 0 rfl) ?_
  refine lv_iload_n hx hb dX1_readSum_1 rfl (lv_at hl 1 rfl) ?_
  refine gA_int (gA_runV (As := [.int p0]) (rest := []) (ci := 1) (q0 := 1) hx hb hml hown hg hP hD hK hS hA hnw hgk (hk_x_readProduct H.size ad kk V L Z p0 (b) hMV (by first | exact om_10aaac3409ba rg_p0.1 rg_p0.2 | first | omega | ((try (have i_cd := Imp.go cd (by omega))); omega)) (show b < 2 from by first | exact om_f940a4667dd6 hb2 | first | omega | ((try (have i_cd := Imp.go cd (by omega))); omega)) (show (V 1 1).toInt = (b : Int) from by first | exact om_08e0c9701055 rbk | first | omega | ((try (have i_cd := Imp.go cd (by omega))); omega)) cd (show 8 - p0.toInt ≤ (dd : Int) from by first | exact om_1656cef72499 y1 | first | omega | ((try (have i_cd := Imp.go cd (by omega))); omega))) w959 w961 w23 w162 w962 rfl xgReader hdV_yX1_readProduct ⟨(by show 10 * dd + 7 + 1 ≤ 10 * dd + 8; (first | exact om_7e8ec362a821 | omega)), (by show 8 + (3 + 11) + (300 * dd + 180) ≤ 300 * dd + 210; (first | exact om_1fb375867bcd | omega))⟩ rfl hl.1 rfl (Nat.le_of_ble_eq_true rfl) dX1_readSum_2 ⟨Nat.le_of_ble_eq_true rfl, Nat.le_of_ble_eq_true rfl⟩) hP hD hK hS hA (fun z2 u3 H locs w4 hP hD hK hS => ?_)
  obtain ⟨V8, L9⟩ := u3
  obtain ⟨hMV8, ajV8, axL9, fyV8, rgz2, t5, t6, t7⟩ := w4
  have alL9 : agL [6, 44] L L9 := agL.tr alL axL9 (by decide)
  have hP : va_P D vwCl (xw ad kk V8 L9 Z) H := hP
  have hD : va_D A (xw ad kk V8 L9 Z) := hD
  have hMV8 : rgd bX V8 := hMV8
  have ajV8 : agr [(1, 3), (1, 6), (1, 8), (6, 8), (6, 9), (6, 10)] [42, 43, 44, 48] V V8 := ajV8
  have agV8 : agr [(1, 3), (1, 6), (1, 8), (6, 8), (6, 9), (6, 10)] [42, 43, 44, 48] V V8 := agV.tr ajV8 (by decide) (by decide)
  have fwV8 : frX (xR b) V V8 := frX.tr fwV (fyV8)
  have rgz2 : 0 ≤ z2.toInt ∧ z2.toInt ≤ 1 := rgz2
  have t5 : CD V8 b := t5
  have t6 : px V V8 b := t6
  have t7 : Imp (z2.toInt = 0) (1 ≤ (V8 1 3).toInt) := t7
  refine lv_if_ne (tgt := 10) hx hb dX1_readSum_5 (by decide) (fun c10 => ?_) (fun c10 => ?_)
  · skip
    have f11 : z2.toInt ≠ 0 := b_neq rfl (by decide) c10
    refine lv_iconst (v := 0) hx hb dX1_readSum_10 (by decide) ?_
    refine lv_istore_n (lv' := [(2, .int 0), (0, .ref (ad 1)), (1, .int p0)]) hx hb dX1_readSum_11 rfl hl (by decide) rfl (fun ls hl => ?_)
    have lp15 : ∀ (fulp15 : Nat) (y12 : Int32) (V13 : Vf) (L14 : Lf) (H : Heap) (locs : List Loc) (ls : Array Slot), 0 ≤ y12.toInt ∧ y12.toInt ≤ 4000 → CD V13 b → px V V13 b → 4000 - y12.toInt < (fulp15 : Int) → agL [6, 44] L L14 → agr [(1, 3), (1, 6), (1, 8), (6, 8), (6, 9), (6, 10)] [42, 43, 44, 48] V8 V13 → rgd bX V13 → frX (xR b) V V13 → va_P D vwCl (xw ad kk V13 L14 Z) H → va_D A (xw ad kk V13 L14 Z) → va_S A s.heap H locs → lv_has ls 4 [(2, .int y12), (0, .ref (ad 1)), (1, .int p0)] → W p l e (rK 8 210 dd) s m ([.ref (ad 1), .int p0] : List Value).toArray below meth c H locs 0 0 (MQ below (q_x_readSum D ks ad kk V L Z p0 b A) ([.ref (ad 1), .int p0] : List Value).toArray s 0 0 A) (F0 m 12 ls []) := by
      intro fulp15
      induction fulp15 with
      | zero =>
        intro y12 V13 L14 H locs ls klp15_0 xlp15_0 xlp15_1 hn alL14 ajV13 hMV13 fwV13 hP hD hS hl
        exfalso; (first | exact om_03b755d7679e klp15_0.2 hn | omega)
      | succ fulp15 ihlp15 =>
        intro y12 V13 L14 H locs ls klp15_0 xlp15_0 xlp15_1 hn alL14 ajV13 hMV13 fwV13 hP hD hS hl
        have agV13 : agr [(1, 3), (1, 6), (1, 8), (6, 8), (6, 9), (6, 10)] [42, 43, 44, 48] V V13 := agV8.tr ajV13 (by decide) (by decide)
        refine lv_iload_n hx hb dX1_readSum_12 rfl (lv_at hl 0 rfl) ?_
        refine lv_sipush (v := 4000) hx hb dX1_readSum_13 (by decide) ?_
        refine lv_icmp_ge (tgt := 93) hx hb dX1_readSum_16 (by decide) (fun c16 => ?_) (fun c16 => ?_)
        · skip
          have f17 : 4000 ≤ y12.toInt := b_le (by decide) rfl c16
          refine lv_iconst (v := 1) hx hb dX1_readSum_93 (by decide) ?_
          exact W.zret (v := 1) hx hb hr rfl (fun t ht hW => ⟨⟨1, (V13, L14), rfl, ⟨hMV13, agV13, alL14, fwV13, (by decide), xlp15_0, xlp15_1, (Imp.mk (fun hp => absurd hp (by decide)))⟩, by rw [ht]; exact hP, va_K.moved hW.alike hK, hD⟩, hS.F ht⟩) hS.2.2 dX1_readSum_94
        · skip
          have f18 : y12.toInt < 4000 := b_nle (by decide) rfl c16
          refine lv_aload_n hx hb dX1_readSum_19 rfl (lv_at hl 1 rfl) ?_
          refine va_get (D := D) (ci := 1) (v := .ref (ad 6)) (fs := (xfReader ad V13 L14 Z)) (C := RX1) (T := TX1) (N := 9) hx hb hg inX1 hown hK hP 1 xgReader rfl 0 (by decide) (hg _ w304) (fun _ h9 => h9) rfl dX1_readSum_20 ?_
          refine va_getN (D := D) (ci := 9) (v := .int (V13 6 9)) (fs := (xfTape ad V13 L14 Z)) (C := RX9) (T := TX9) (N := 12) hx hb hg inX9 hown hK hP 6 xgTape rfl 9 (by decide) (hnw.use 262 n262 rfl) (fun _ h9 => h9) rfl dX1_readSum_23 ?_
          refine lv_bipush (v := 43) hx hb dX1_readSum_26 (by decide) ?_
          refine lv_icmp_eq (tgt := 43) hx hb dX1_readSum_28 (by decide) (fun c19 => ?_) (fun c19 => ?_)
          · skip
            have f20 : ((V13 6 9)).toInt = 43 := b_eq rfl (by decide) c19
            refine lv_aload_n hx hb dX1_readSum_43 rfl (lv_at hl 1 rfl) ?_
            refine va_get (D := D) (ci := 1) (v := .ref (ad 6)) (fs := (xfReader ad V13 L14 Z)) (C := RX1) (T := TX1) (N := 9) hx hb hg inX1 hown hK hP 1 xgReader rfl 0 (by decide) (hg _ w304) (fun _ h9 => h9) rfl dX1_readSum_44 ?_
            refine va_getN (D := D) (ci := 9) (v := .int (V13 6 9)) (fs := (xfTape ad V13 L14 Z)) (C := RX9) (T := TX9) (N := 12) hx hb hg inX9 hown hK hP 6 xgTape rfl 9 (by decide) (hnw.use 262 n262 rfl) (fun _ h9 => h9) rfl dX1_readSum_47 ?_
            refine lv_bipush (v := 43) hx hb dX1_readSum_50 (by decide) ?_
            refine lv_icmp_ne (tgt := 59) hx hb dX1_readSum_52 (by decide) (fun c21 => ?_) (fun c21 => ?_)
            · skip
              have f22 : ((V13 6 9)).toInt ≠ 43 := b_neq rfl (by decide) c21
              exfalso; first | exact om_32cfa7192d4d f20 f22 | first | omega | ((try (have i_t7 := Imp.go t7 (by omega))); (try (have i_cd := Imp.go cd (by omega))); (try (have i_cd := Imp.go cd (by omega))); (try (have i_t7 := Imp.go t7 (by omega))); omega)
            · skip
              have f23 : ((V13 6 9)).toInt = 43 := b_eq rfl (by decide) c21
              refine lv_iconst (v := 5) hx hb dX1_readSum_55 (by decide) ?_
              refine lv_goto (tgt := 61) hx hb dX1_readSum_56 (by decide) ?_
              refine lv_istore_n (lv' := [(3, .int 5), (2, .int y12), (0, .ref (ad 1)), (1, .int p0)]) hx hb dX1_readSum_61 rfl hl (by decide) rfl (fun ls hl => ?_)
              refine lv_aload_n hx hb dX1_readSum_62 rfl (lv_at hl 2 rfl) ?_
              refine va_get (D := D) (ci := 1) (v := .ref (ad 6)) (fs := (xfReader ad V13 L14 Z)) (C := RX1) (T := TX1) (N := 9) hx hb hg inX1 hown hK hP 1 xgReader rfl 0 (by decide) (hg _ w304) (fun _ h9 => h9) rfl dX1_readSum_63 ?_
              refine gA_void (gA_runV (As := []) (rest := []) (ci := 9) (q0 := 6) hx hb hml hown hg hP hD hK hS hA hnw hgk (x_next l D ks H.size ad kk V13 L14 Z  hMV13 ) w871 w852 w853 w157 w854 rfl xgTape hdV_yX9_next ⟨(by show 0 + 1 ≤ 10 * dd + 8; (first | exact om_57ee875d9e1c rg_p0.2 y1 | omega)), (by show 8 + (1 + 11) + (0) ≤ 300 * dd + 210; (first | exact om_0ce00a919daf rg_p0.2 y1 | omega))⟩ rfl hl.1 rfl (Nat.le_of_ble_eq_true rfl) dX1_readSum_66 ⟨Nat.le_of_ble_eq_true rfl, Nat.le_of_ble_eq_true rfl⟩) hP hD hK hS hA (fun u25 H locs w26 hP hD hK hS => ?_)
              obtain ⟨V27, L28⟩ := u25
              obtain ⟨hMV27, ajV27, axL28⟩ := w26
              have alL28 : agL [6, 44] L L28 := agL.tr alL14 axL28 (by decide)
              have hP : va_P D vwCl (xw ad kk V27 L28 Z) H := hP
              have hD : va_D A (xw ad kk V27 L28 Z) := hD
              have hMV27 : rgd bX V27 := hMV27
              have ajV27 : agr [(6, 8), (6, 9), (6, 10)] [] V13 V27 := ajV27
              have agV27 : agr [(1, 3), (1, 6), (1, 8), (6, 8), (6, 9), (6, 10)] [42, 43, 44, 48] V V27 := agV13.tr ajV27 (by decide) (by decide)
              have fwV27 : frX (xR b) V V27 := frX.tr fwV13 (frX.ag ajV27 (by decide) (by decide))
              refine lv_aload_n hx hb dX1_readSum_69 rfl (lv_at hl 2 rfl) ?_
              refine lv_iload_n hx hb dX1_readSum_70 rfl (lv_at hl 3 rfl) ?_
              have pq29 : (V27 1 1).toInt = ((V 1 1)).toInt := congrArg Int32.toInt ((ajV27 1 1 rfl).trans ((ajV13 1 1 rfl).trans (ajV8 1 1 rfl)))
              have cd30 : CD V27 b := ⟨CB.ag xlp15_0.1 (show agr [(6, 8), (6, 9), (6, 10)] [] V13 V27 from (agr.tr agr.rf ajV27 (by decide) (by decide))) (fun _ => rfl) (fun _ => rfl), CO.ag xlp15_0.2 (show agr [(6, 8), (6, 9), (6, 10)] [] V13 V27 from (agr.tr agr.rf ajV27 (by decide) (by decide))) (fun _ => rfl) (fun _ => rfl)⟩
              refine gA_int (gA_runV (As := [.int p0]) (rest := []) (ci := 1) (q0 := 1) hx hb hml hown hg hP hD hK hS hA hnw hgk (hk_x_readProduct H.size ad kk V27 L28 Z p0 (b) hMV27 (by first | exact om_10aaac3409ba rg_p0.1 rg_p0.2 | first | omega | ((try (have i_t7 := Imp.go t7 (by omega))); (try (have i_cd := Imp.go cd (by omega))); (try (have i_cd := Imp.go cd (by omega))); (try (have i_t7 := Imp.go t7 (by omega))); omega)) (show b < 2 from by first | exact om_f940a4667dd6 hb2 | first | omega | ((try (have i_t7 := Imp.go t7 (by omega))); (try (have i_cd := Imp.go cd (by omega))); (try (have i_cd := Imp.go cd (by omega))); (try (have i_t7 := Imp.go t7 (by omega))); omega)) (show (V27 1 1).toInt = (b : Int) from by first | exact om_adf531c77a0d rbk pq29 | first | omega | ((try (have i_t7 := Imp.go t7 (by omega))); (try (have i_cd := Imp.go cd (by omega))); (try (have i_cd := Imp.go cd (by omega))); (try (have i_t7 := Imp.go t7 (by omega))); omega)) cd30 (show 8 - p0.toInt ≤ (dd : Int) from by first | exact om_1656cef72499 y1 | first | omega | ((try (have i_t7 := Imp.go t7 (by omega))); (try (have i_cd := Imp.go cd (by omega))); (try (have i_cd := Imp.go cd (by omega))); (try (have i_t7 := Imp.go t7 (by omega))); omega))) w959 w961 w23 w162 w962 rfl xgReader hdV_yX1_readProduct ⟨(by show 10 * dd + 7 + 1 ≤ 10 * dd + 8; (first | exact om_7e8ec362a821 | omega)), (by show 8 + (3 + 11) + (300 * dd + 180) ≤ 300 * dd + 210; (first | exact om_1fb375867bcd | omega))⟩ rfl hl.1 rfl (Nat.le_of_ble_eq_true rfl) dX1_readSum_71 ⟨Nat.le_of_ble_eq_true rfl, Nat.le_of_ble_eq_true rfl⟩) hP hD hK hS hA (fun z31 u32 H locs w33 hP hD hK hS => ?_)
              obtain ⟨V37, L38⟩ := u32
              obtain ⟨hMV37, ajV37, axL38, fyV37, rgz31, t34, t35, t36⟩ := w33
              have alL38 : agL [6, 44] L L38 := agL.tr alL28 axL38 (by decide)
              have hP : va_P D vwCl (xw ad kk V37 L38 Z) H := hP
              have hD : va_D A (xw ad kk V37 L38 Z) := hD
              have hMV37 : rgd bX V37 := hMV37
              have ajV37 : agr [(1, 3), (1, 6), (1, 8), (6, 8), (6, 9), (6, 10)] [42, 43, 44, 48] V27 V37 := ajV37
              have agV37 : agr [(1, 3), (1, 6), (1, 8), (6, 8), (6, 9), (6, 10)] [42, 43, 44, 48] V V37 := agV27.tr ajV37 (by decide) (by decide)
              have fwV37 : frX (xR b) V V37 := frX.tr fwV27 (fyV37)
              have rgz31 : 0 ≤ z31.toInt ∧ z31.toInt ≤ 1 := rgz31
              have t34 : CD V37 b := t34
              have t35 : px V27 V37 b := t35
              have t36 : Imp (z31.toInt = 0) (1 ≤ (V37 1 3).toInt) := t36
              refine lv_if_ne (tgt := 79) hx hb dX1_readSum_74 (by decide) (fun c39 => ?_) (fun c39 => ?_)
              · skip
                have f40 : z31.toInt ≠ 0 := b_neq rfl (by decide) c39
                refine lv_aload_n hx hb dX1_readSum_79 rfl (lv_at hl 2 rfl) ?_
                refine va_get (D := D) (ci := 1) (v := rfN ad 38 (V37 1 1)) (fs := (xfReader ad V37 L38 Z)) (C := RX1) (T := TX1) (N := 9) hx hb hg inX1 hown hK hP 1 xgReader rfl 1 (by decide) (hg _ w305) (fun _ h9 => h9) rfl dX1_readSum_80 ?_
                have pq41 : (V37 1 1).toInt = ((V 1 1)).toInt := congrArg Int32.toInt ((ajV37 1 1 rfl).trans ((ajV27 1 1 rfl).trans ((ajV13 1 1 rfl).trans (ajV8 1 1 rfl))))
                refine g_topv (v := .ref (ad (38 + b))) (rfN_r (by first | omega | ((try (have i_t36 := Imp.go t36 (by omega))); (try (have i_t7 := Imp.go t7 (by omega))); (try (have i_cd := Imp.go cd (by omega))); (try (have i_cd := Imp.go cd (by omega))); (try (have i_t7 := Imp.go t7 (by omega))); (try (have i_t36 := Imp.go t36 (by omega))); omega))) ?_
                refine lv_iload_n hx hb dX1_readSum_83 rfl (lv_at hl 0 rfl) ?_
                have r42 : Int32.toInt 5 = 5 := by decide
                refine gA_void (gA_runV (As := [.int 5]) (rest := []) (ci := 0) (q0 := (38 + b)) hx hb hml hown hg hP hD hK hS hA hnw hgk (x_emit l D ks H.size ad kk V37 L38 Z 5 (b) hMV37 (show b < 2 from by first | exact om_f940a4667dd6 hb2 | first | omega | ((try (have i_t36 := Imp.go t36 (by omega))); (try (have i_t7 := Imp.go t7 (by omega))); (try (have i_cd := Imp.go cd (by omega))); (try (have i_cd := Imp.go cd (by omega))); (try (have i_t7 := Imp.go t7 (by omega))); (try (have i_t36 := Imp.go t36 (by omega))); omega))) w971 w972 w973 w167 w974 rfl (xgBook hb2) hdV_yX0_emit ⟨(by show 0 + 1 ≤ 10 * dd + 8; (first | exact om_57ee875d9e1c rg_p0.2 y1 | omega)), (by show 8 + (2 + 11) + (0) ≤ 300 * dd + 210; (first | exact om_3d8b2ee29156 rg_p0.2 y1 | omega))⟩ rfl hl.1 rfl (Nat.le_of_ble_eq_true rfl) dX1_readSum_84 ⟨Nat.le_of_ble_eq_true rfl, Nat.le_of_ble_eq_true rfl⟩) hP hD hK hS hA (fun u44 H locs w45 hP hD hK hS => ?_)
                obtain ⟨V47, L48⟩ := u44
                obtain ⟨hMV47, ajV47, axL48, fyV47, t46⟩ := w45
                have axL48 : L38 = L48 := Eq.symm axL48
                subst axL48
                have hP : va_P D vwCl (xw ad kk V47 L38 Z) H := hP
                have hD : va_D A (xw ad kk V47 L38 Z) := hD
                have hMV47 : rgd bX V47 := hMV47
                have ajV47 : agr [] [42, 48] V37 V47 := ajV47
                have agV47 : agr [(1, 3), (1, 6), (1, 8), (6, 8), (6, 9), (6, 10)] [42, 43, 44, 48] V V47 := agV37.tr ajV47 (by decide) (by decide)
                have fwV47 : frX (xR b) V V47 := frX.tr fwV37 (fyV47)
                have t46 : emX V37 V47 b 5 := t46
                obtain ⟨z49, ez49⟩ : ∃ y : Int32, y = y12 + 1 := ⟨_, rfl⟩
                have hz49 : z49.toInt = y12.toInt + 1 := i_add ez49 rfl (by decide) (by (first | exact om_67c6ad613360 klp15_0.1 f18 | omega))
                refine lv_iinc (v := z49) (lv' := [(2, .int z49), (3, .int 5), (0, .ref (ad 1)), (1, .int p0)]) hx hb dX1_readSum_87 hl (k := 1) rfl (by rw [ez49]; rfl) (by decide) rfl (fun ls hl => ?_)
                refine lv_goto (tgt := 12) hx hb dX1_readSum_90 (by decide) ?_
                have cl50 : 0 ≤ (V37 42 b).toInt ∧ (V37 42 b).toInt ≤ 8200 := hMV37 42 b
                have cd51 : CD V47 b := ⟨CB.e1 t34.1 t46 (by omega) (by decide), CO.e1 t34.2 t46 (by decide) (by omega)⟩
                have px52 : px V V27 b := px.tr xlp15_1 (px.ag (show agr [(6, 8), (6, 9), (6, 10)] [] V13 V27 from (agr.tr agr.rf ajV27 (by decide) (by decide))) (fun _ => rfl) (fun _ => rfl) (fun _ => rfl))
                have px53 : px V V37 b := px.tr px52 t35
                have px54 : px V V47 b := px.tr px53 ⟨emX.p0x t46, ajV47 43 _ rfl⟩
                exact ihlp15 z49 V47 L38 H locs ls (by first | exact om_44a0a3faffcf klp15_0.1 f18 hz49 | first | omega | ((try (have i_t36 := Imp.go t36 (by omega))); (try (have i_t7 := Imp.go t7 (by omega))); (try (have i_cd := Imp.go cd (by omega))); (try (have i_cd := Imp.go cd (by omega))); (try (have i_t7 := Imp.go t7 (by omega))); (try (have i_t36 := Imp.go t36 (by omega))); omega)) cd51 px54 (by first | exact om_7390df9cc880 hn hz49 | first | omega | ((try (have i_t36 := Imp.go t36 (by omega))); (try (have i_t7 := Imp.go t7 (by omega))); (try (have i_cd := Imp.go cd (by omega))); (try (have i_cd := Imp.go cd (by omega))); (try (have i_t7 := Imp.go t7 (by omega))); (try (have i_t36 := Imp.go t36 (by omega))); omega)) alL38 (agr.tr (agr.tr (agr.tr (agr.tr agr.rf ajV13 (by decide) (by decide)) ajV27 (by decide) (by decide)) ajV37 (by decide) (by decide)) ajV47 (by decide) (by decide)) hMV47 fwV47 hP hD hS (lv_sub hl [0, 2, 3] rfl)
              · skip
                have f55 : z31.toInt = 0 := b_eq rfl (by decide) c39
                refine lv_iconst (v := 0) hx hb dX1_readSum_77 (by decide) ?_
                have px56 : px V V27 b := px.tr xlp15_1 (px.ag (show agr [(6, 8), (6, 9), (6, 10)] [] V13 V27 from (agr.tr agr.rf ajV27 (by decide) (by decide))) (fun _ => rfl) (fun _ => rfl) (fun _ => rfl))
                have px57 : px V V37 b := px.tr px56 t35
                exact W.zret (v := 0) hx hb hr rfl (fun t ht hW => ⟨⟨0, (V37, L38), rfl, ⟨hMV37, agV37, alL38, fwV37, (by decide), t34, px57, (Imp.mk (fun _ => (show 1 ≤ (V37 1 3).toInt from by first | exact om_f8d8213eda45 ((Imp.go t36 (f55))) | first | omega | ((try (have i_t36 := Imp.go t36 (by omega))); (try (have i_t7 := Imp.go t7 (by omega))); (try (have i_cd := Imp.go cd (by omega))); (try (have i_cd := Imp.go cd (by omega))); (try (have i_t7 := Imp.go t7 (by omega))); (try (have i_t36 := Imp.go t36 (by omega))); omega))))⟩, by rw [ht]; exact hP, va_K.moved hW.alike hK, hD⟩, hS.F ht⟩) hS.2.2 dX1_readSum_78
          · skip
            have f58 : ((V13 6 9)).toInt ≠ 43 := b_neq rfl (by decide) c19
            refine lv_aload_n hx hb dX1_readSum_31 rfl (lv_at hl 1 rfl) ?_
            refine va_get (D := D) (ci := 1) (v := .ref (ad 6)) (fs := (xfReader ad V13 L14 Z)) (C := RX1) (T := TX1) (N := 9) hx hb hg inX1 hown hK hP 1 xgReader rfl 0 (by decide) (hg _ w304) (fun _ h9 => h9) rfl dX1_readSum_32 ?_
            refine va_getN (D := D) (ci := 9) (v := .int (V13 6 9)) (fs := (xfTape ad V13 L14 Z)) (C := RX9) (T := TX9) (N := 12) hx hb hg inX9 hown hK hP 6 xgTape rfl 9 (by decide) (hnw.use 262 n262 rfl) (fun _ h9 => h9) rfl dX1_readSum_35 ?_
            refine lv_bipush (v := 45) hx hb dX1_readSum_38 (by decide) ?_
            refine lv_icmp_ne (tgt := 93) hx hb dX1_readSum_40 (by decide) (fun c59 => ?_) (fun c59 => ?_)
            · skip
              have f60 : ((V13 6 9)).toInt ≠ 45 := b_neq rfl (by decide) c59
              refine lv_iconst (v := 1) hx hb dX1_readSum_93 (by decide) ?_
              exact W.zret (v := 1) hx hb hr rfl (fun t ht hW => ⟨⟨1, (V13, L14), rfl, ⟨hMV13, agV13, alL14, fwV13, (by decide), xlp15_0, xlp15_1, (Imp.mk (fun hp => absurd hp (by decide)))⟩, by rw [ht]; exact hP, va_K.moved hW.alike hK, hD⟩, hS.F ht⟩) hS.2.2 dX1_readSum_94
            · skip
              have f61 : ((V13 6 9)).toInt = 45 := b_eq rfl (by decide) c59
              refine lv_aload_n hx hb dX1_readSum_43 rfl (lv_at hl 1 rfl) ?_
              refine va_get (D := D) (ci := 1) (v := .ref (ad 6)) (fs := (xfReader ad V13 L14 Z)) (C := RX1) (T := TX1) (N := 9) hx hb hg inX1 hown hK hP 1 xgReader rfl 0 (by decide) (hg _ w304) (fun _ h9 => h9) rfl dX1_readSum_44 ?_
              refine va_getN (D := D) (ci := 9) (v := .int (V13 6 9)) (fs := (xfTape ad V13 L14 Z)) (C := RX9) (T := TX9) (N := 12) hx hb hg inX9 hown hK hP 6 xgTape rfl 9 (by decide) (hnw.use 262 n262 rfl) (fun _ h9 => h9) rfl dX1_readSum_47 ?_
              refine lv_bipush (v := 43) hx hb dX1_readSum_50 (by decide) ?_
              refine lv_icmp_ne (tgt := 59) hx hb dX1_readSum_52 (by decide) (fun c62 => ?_) (fun c62 => ?_)
              · skip
                have f63 : ((V13 6 9)).toInt ≠ 43 := b_neq rfl (by decide) c62
                refine lv_bipush (v := 6) hx hb dX1_readSum_59 (by decide) ?_
                refine lv_istore_n (lv' := [(3, .int 6), (2, .int y12), (0, .ref (ad 1)), (1, .int p0)]) hx hb dX1_readSum_61 rfl hl (by decide) rfl (fun ls hl => ?_)
                refine lv_aload_n hx hb dX1_readSum_62 rfl (lv_at hl 2 rfl) ?_
                refine va_get (D := D) (ci := 1) (v := .ref (ad 6)) (fs := (xfReader ad V13 L14 Z)) (C := RX1) (T := TX1) (N := 9) hx hb hg inX1 hown hK hP 1 xgReader rfl 0 (by decide) (hg _ w304) (fun _ h9 => h9) rfl dX1_readSum_63 ?_
                refine gA_void (gA_runV (As := []) (rest := []) (ci := 9) (q0 := 6) hx hb hml hown hg hP hD hK hS hA hnw hgk (x_next l D ks H.size ad kk V13 L14 Z  hMV13 ) w871 w852 w853 w157 w854 rfl xgTape hdV_yX9_next ⟨(by show 0 + 1 ≤ 10 * dd + 8; (first | exact om_57ee875d9e1c rg_p0.2 y1 | omega)), (by show 8 + (1 + 11) + (0) ≤ 300 * dd + 210; (first | exact om_0ce00a919daf rg_p0.2 y1 | omega))⟩ rfl hl.1 rfl (Nat.le_of_ble_eq_true rfl) dX1_readSum_66 ⟨Nat.le_of_ble_eq_true rfl, Nat.le_of_ble_eq_true rfl⟩) hP hD hK hS hA (fun u65 H locs w66 hP hD hK hS => ?_)
                obtain ⟨V67, L68⟩ := u65
                obtain ⟨hMV67, ajV67, axL68⟩ := w66
                have alL68 : agL [6, 44] L L68 := agL.tr alL14 axL68 (by decide)
                have hP : va_P D vwCl (xw ad kk V67 L68 Z) H := hP
                have hD : va_D A (xw ad kk V67 L68 Z) := hD
                have hMV67 : rgd bX V67 := hMV67
                have ajV67 : agr [(6, 8), (6, 9), (6, 10)] [] V13 V67 := ajV67
                have agV67 : agr [(1, 3), (1, 6), (1, 8), (6, 8), (6, 9), (6, 10)] [42, 43, 44, 48] V V67 := agV13.tr ajV67 (by decide) (by decide)
                have fwV67 : frX (xR b) V V67 := frX.tr fwV13 (frX.ag ajV67 (by decide) (by decide))
                refine lv_aload_n hx hb dX1_readSum_69 rfl (lv_at hl 2 rfl) ?_
                refine lv_iload_n hx hb dX1_readSum_70 rfl (lv_at hl 3 rfl) ?_
                have pq69 : (V67 1 1).toInt = ((V 1 1)).toInt := congrArg Int32.toInt ((ajV67 1 1 rfl).trans ((ajV13 1 1 rfl).trans (ajV8 1 1 rfl)))
                have cd70 : CD V67 b := ⟨CB.ag xlp15_0.1 (show agr [(6, 8), (6, 9), (6, 10)] [] V13 V67 from (agr.tr agr.rf ajV67 (by decide) (by decide))) (fun _ => rfl) (fun _ => rfl), CO.ag xlp15_0.2 (show agr [(6, 8), (6, 9), (6, 10)] [] V13 V67 from (agr.tr agr.rf ajV67 (by decide) (by decide))) (fun _ => rfl) (fun _ => rfl)⟩
                refine gA_int (gA_runV (As := [.int p0]) (rest := []) (ci := 1) (q0 := 1) hx hb hml hown hg hP hD hK hS hA hnw hgk (hk_x_readProduct H.size ad kk V67 L68 Z p0 (b) hMV67 (by first | exact om_10aaac3409ba rg_p0.1 rg_p0.2 | first | omega | ((try (have i_t7 := Imp.go t7 (by omega))); (try (have i_cd := Imp.go cd (by omega))); (try (have i_cd := Imp.go cd (by omega))); (try (have i_t7 := Imp.go t7 (by omega))); omega)) (show b < 2 from by first | exact om_f940a4667dd6 hb2 | first | omega | ((try (have i_t7 := Imp.go t7 (by omega))); (try (have i_cd := Imp.go cd (by omega))); (try (have i_cd := Imp.go cd (by omega))); (try (have i_t7 := Imp.go t7 (by omega))); omega)) (show (V67 1 1).toInt = (b : Int) from by first | exact om_adf531c77a0d rbk pq69 | first | omega | ((try (have i_t7 := Imp.go t7 (by omega))); (try (have i_cd := Imp.go cd (by omega))); (try (have i_cd := Imp.go cd (by omega))); (try (have i_t7 := Imp.go t7 (by omega))); omega)) cd70 (show 8 - p0.toInt ≤ (dd : Int) from by first | exact om_1656cef72499 y1 | first | omega | ((try (have i_t7 := Imp.go t7 (by omega))); (try (have i_cd := Imp.go cd (by omega))); (try (have i_cd := Imp.go cd (by omega))); (try (have i_t7 := Imp.go t7 (by omega))); omega))) w959 w961 w23 w162 w962 rfl xgReader hdV_yX1_readProduct ⟨(by show 10 * dd + 7 + 1 ≤ 10 * dd + 8; (first | exact om_7e8ec362a821 | omega)), (by show 8 + (3 + 11) + (300 * dd + 180) ≤ 300 * dd + 210; (first | exact om_1fb375867bcd | omega))⟩ rfl hl.1 rfl (Nat.le_of_ble_eq_true rfl) dX1_readSum_71 ⟨Nat.le_of_ble_eq_true rfl, Nat.le_of_ble_eq_true rfl⟩) hP hD hK hS hA (fun z71 u72 H locs w73 hP hD hK hS => ?_)
                obtain ⟨V77, L78⟩ := u72
                obtain ⟨hMV77, ajV77, axL78, fyV77, rgz71, t74, t75, t76⟩ := w73
                have alL78 : agL [6, 44] L L78 := agL.tr alL68 axL78 (by decide)
                have hP : va_P D vwCl (xw ad kk V77 L78 Z) H := hP
                have hD : va_D A (xw ad kk V77 L78 Z) := hD
                have hMV77 : rgd bX V77 := hMV77
                have ajV77 : agr [(1, 3), (1, 6), (1, 8), (6, 8), (6, 9), (6, 10)] [42, 43, 44, 48] V67 V77 := ajV77
                have agV77 : agr [(1, 3), (1, 6), (1, 8), (6, 8), (6, 9), (6, 10)] [42, 43, 44, 48] V V77 := agV67.tr ajV77 (by decide) (by decide)
                have fwV77 : frX (xR b) V V77 := frX.tr fwV67 (fyV77)
                have rgz71 : 0 ≤ z71.toInt ∧ z71.toInt ≤ 1 := rgz71
                have t74 : CD V77 b := t74
                have t75 : px V67 V77 b := t75
                have t76 : Imp (z71.toInt = 0) (1 ≤ (V77 1 3).toInt) := t76
                refine lv_if_ne (tgt := 79) hx hb dX1_readSum_74 (by decide) (fun c79 => ?_) (fun c79 => ?_)
                · skip
                  have f80 : z71.toInt ≠ 0 := b_neq rfl (by decide) c79
                  refine lv_aload_n hx hb dX1_readSum_79 rfl (lv_at hl 2 rfl) ?_
                  refine va_get (D := D) (ci := 1) (v := rfN ad 38 (V77 1 1)) (fs := (xfReader ad V77 L78 Z)) (C := RX1) (T := TX1) (N := 9) hx hb hg inX1 hown hK hP 1 xgReader rfl 1 (by decide) (hg _ w305) (fun _ h9 => h9) rfl dX1_readSum_80 ?_
                  have pq81 : (V77 1 1).toInt = ((V 1 1)).toInt := congrArg Int32.toInt ((ajV77 1 1 rfl).trans ((ajV67 1 1 rfl).trans ((ajV13 1 1 rfl).trans (ajV8 1 1 rfl))))
                  refine g_topv (v := .ref (ad (38 + b))) (rfN_r (by first | omega | ((try (have i_t76 := Imp.go t76 (by omega))); (try (have i_t7 := Imp.go t7 (by omega))); (try (have i_cd := Imp.go cd (by omega))); (try (have i_cd := Imp.go cd (by omega))); (try (have i_t7 := Imp.go t7 (by omega))); (try (have i_t76 := Imp.go t76 (by omega))); omega))) ?_
                  refine lv_iload_n hx hb dX1_readSum_83 rfl (lv_at hl 0 rfl) ?_
                  have r82 : Int32.toInt 6 = 6 := by decide
                  refine gA_void (gA_runV (As := [.int 6]) (rest := []) (ci := 0) (q0 := (38 + b)) hx hb hml hown hg hP hD hK hS hA hnw hgk (x_emit l D ks H.size ad kk V77 L78 Z 6 (b) hMV77 (show b < 2 from by first | exact om_f940a4667dd6 hb2 | first | omega | ((try (have i_t76 := Imp.go t76 (by omega))); (try (have i_t7 := Imp.go t7 (by omega))); (try (have i_cd := Imp.go cd (by omega))); (try (have i_cd := Imp.go cd (by omega))); (try (have i_t7 := Imp.go t7 (by omega))); (try (have i_t76 := Imp.go t76 (by omega))); omega))) w971 w972 w973 w167 w974 rfl (xgBook hb2) hdV_yX0_emit ⟨(by show 0 + 1 ≤ 10 * dd + 8; (first | exact om_57ee875d9e1c rg_p0.2 y1 | omega)), (by show 8 + (2 + 11) + (0) ≤ 300 * dd + 210; (first | exact om_3d8b2ee29156 rg_p0.2 y1 | omega))⟩ rfl hl.1 rfl (Nat.le_of_ble_eq_true rfl) dX1_readSum_84 ⟨Nat.le_of_ble_eq_true rfl, Nat.le_of_ble_eq_true rfl⟩) hP hD hK hS hA (fun u84 H locs w85 hP hD hK hS => ?_)
                  obtain ⟨V87, L88⟩ := u84
                  obtain ⟨hMV87, ajV87, axL88, fyV87, t86⟩ := w85
                  have axL88 : L78 = L88 := Eq.symm axL88
                  subst axL88
                  have hP : va_P D vwCl (xw ad kk V87 L78 Z) H := hP
                  have hD : va_D A (xw ad kk V87 L78 Z) := hD
                  have hMV87 : rgd bX V87 := hMV87
                  have ajV87 : agr [] [42, 48] V77 V87 := ajV87
                  have agV87 : agr [(1, 3), (1, 6), (1, 8), (6, 8), (6, 9), (6, 10)] [42, 43, 44, 48] V V87 := agV77.tr ajV87 (by decide) (by decide)
                  have fwV87 : frX (xR b) V V87 := frX.tr fwV77 (fyV87)
                  have t86 : emX V77 V87 b 6 := t86
                  obtain ⟨z89, ez89⟩ : ∃ y : Int32, y = y12 + 1 := ⟨_, rfl⟩
                  have hz89 : z89.toInt = y12.toInt + 1 := i_add ez89 rfl (by decide) (by (first | exact om_67c6ad613360 klp15_0.1 f18 | omega))
                  refine lv_iinc (v := z89) (lv' := [(2, .int z89), (3, .int 6), (0, .ref (ad 1)), (1, .int p0)]) hx hb dX1_readSum_87 hl (k := 1) rfl (by rw [ez89]; rfl) (by decide) rfl (fun ls hl => ?_)
                  refine lv_goto (tgt := 12) hx hb dX1_readSum_90 (by decide) ?_
                  have cl90 : 0 ≤ (V77 42 b).toInt ∧ (V77 42 b).toInt ≤ 8200 := hMV77 42 b
                  have cd91 : CD V87 b := ⟨CB.e1 t74.1 t86 (by omega) (by decide), CO.e1 t74.2 t86 (by decide) (by omega)⟩
                  have px92 : px V V67 b := px.tr xlp15_1 (px.ag (show agr [(6, 8), (6, 9), (6, 10)] [] V13 V67 from (agr.tr agr.rf ajV67 (by decide) (by decide))) (fun _ => rfl) (fun _ => rfl) (fun _ => rfl))
                  have px93 : px V V77 b := px.tr px92 t75
                  have px94 : px V V87 b := px.tr px93 ⟨emX.p0x t86, ajV87 43 _ rfl⟩
                  exact ihlp15 z89 V87 L78 H locs ls (by first | exact om_44a0a3faffcf klp15_0.1 f18 hz89 | first | omega | ((try (have i_t76 := Imp.go t76 (by omega))); (try (have i_t7 := Imp.go t7 (by omega))); (try (have i_cd := Imp.go cd (by omega))); (try (have i_cd := Imp.go cd (by omega))); (try (have i_t7 := Imp.go t7 (by omega))); (try (have i_t76 := Imp.go t76 (by omega))); omega)) cd91 px94 (by first | exact om_7390df9cc880 hn hz89 | first | omega | ((try (have i_t76 := Imp.go t76 (by omega))); (try (have i_t7 := Imp.go t7 (by omega))); (try (have i_cd := Imp.go cd (by omega))); (try (have i_cd := Imp.go cd (by omega))); (try (have i_t7 := Imp.go t7 (by omega))); (try (have i_t76 := Imp.go t76 (by omega))); omega)) alL78 (agr.tr (agr.tr (agr.tr (agr.tr agr.rf ajV13 (by decide) (by decide)) ajV67 (by decide) (by decide)) ajV77 (by decide) (by decide)) ajV87 (by decide) (by decide)) hMV87 fwV87 hP hD hS (lv_sub hl [0, 2, 3] rfl)
                · skip
                  have f95 : z71.toInt = 0 := b_eq rfl (by decide) c79
                  refine lv_iconst (v := 0) hx hb dX1_readSum_77 (by decide) ?_
                  have px96 : px V V67 b := px.tr xlp15_1 (px.ag (show agr [(6, 8), (6, 9), (6, 10)] [] V13 V67 from (agr.tr agr.rf ajV67 (by decide) (by decide))) (fun _ => rfl) (fun _ => rfl) (fun _ => rfl))
                  have px97 : px V V77 b := px.tr px96 t75
                  exact W.zret (v := 0) hx hb hr rfl (fun t ht hW => ⟨⟨0, (V77, L78), rfl, ⟨hMV77, agV77, alL78, fwV77, (by decide), t74, px97, (Imp.mk (fun _ => (show 1 ≤ (V77 1 3).toInt from by first | exact om_f8d8213eda45 ((Imp.go t76 (f95))) | first | omega | ((try (have i_t76 := Imp.go t76 (by omega))); (try (have i_t7 := Imp.go t7 (by omega))); (try (have i_cd := Imp.go cd (by omega))); (try (have i_cd := Imp.go cd (by omega))); (try (have i_t7 := Imp.go t7 (by omega))); (try (have i_t76 := Imp.go t76 (by omega))); omega))))⟩, by rw [ht]; exact hP, va_K.moved hW.alike hK, hD⟩, hS.F ht⟩) hS.2.2 dX1_readSum_78
              · skip
                have f98 : ((V13 6 9)).toInt = 43 := b_eq rfl (by decide) c62
                exfalso; first | exact om_6bb1db7b29b7 f58 f61 f98 | first | omega | ((try (have i_t7 := Imp.go t7 (by omega))); (try (have i_cd := Imp.go cd (by omega))); (try (have i_cd := Imp.go cd (by omega))); (try (have i_t7 := Imp.go t7 (by omega))); omega)
    have r99 : Int32.toInt 0 = 0 := by decide
    have px100 : px V V8 b := px.tr (px.rf : px V V b) t6
    exact lp15 ((4000 - (Int32.toInt 0) + 1 : Int).toNat) 0 V8 L9 H locs ls (by decide) t5 px100 (by first | exact om_be7e3b1de7fd | first | omega | ((try (have i_t7 := Imp.go t7 (by omega))); (try (have i_cd := Imp.go cd (by omega))); (try (have i_cd := Imp.go cd (by omega))); (try (have i_t7 := Imp.go t7 (by omega))); omega)) alL9 agr.rf hMV8 fwV8 hP hD hS (lv_sub hl [0, 1, 2] rfl)
  · skip
    have f101 : z2.toInt = 0 := b_eq rfl (by decide) c10
    refine lv_iconst (v := 0) hx hb dX1_readSum_8 (by decide) ?_
    have px102 : px V V8 b := px.tr (px.rf : px V V b) t6
    exact W.zret (v := 0) hx hb hr rfl (fun t ht hW => ⟨⟨0, (V8, L9), rfl, ⟨hMV8, agV8, alL9, fwV8, (by decide), t5, px102, (Imp.mk (fun _ => (show 1 ≤ (V8 1 3).toInt from by first | exact om_f8d8213eda45 ((Imp.go t7 (f101))) | first | omega | ((try (have i_t7 := Imp.go t7 (by omega))); (try (have i_cd := Imp.go cd (by omega))); (try (have i_cd := Imp.go cd (by omega))); (try (have i_t7 := Imp.go t7 (by omega))); omega))))⟩, by rw [ht]; exact hP, va_K.moved hW.alike hK, hD⟩, hS.F ht⟩) hS.2.2 dX1_readSum_9
set_option maxHeartbeats 4000000 in
set_option maxRecDepth 100000 in
theorem x_readProduct {l : Launch} {D : va_G} {ks : KS} {dd : Nat} (hk_x_readPart : K_x_readPart l D ks dd) : K_x_readProduct l D ks dd := by
  intro sz ad kk V L Z p0 b hMV rg_p0 hb2 rbk cd y1
  refine g_met (q_x_readProduct D ks ad kk V L Z p0 b) (by decide) (Nat.le_of_ble_eq_true rfl) ?_
  intro p e s m below meth c A ls H locs hx hb hr hml hown hg hlocks hin hnw hgk hP hK hD hS hA hl
  have hown : s.vm.findClass RX1 = some m.cls := hown
  have hl : lv_has ls 3 [(0, .ref (ad 1)), (1, .int p0)] := hl
  have hP : va_P D vwCl (xw ad kk V L Z) H := hP
  have hD : va_D A (xw ad kk V L Z) := hD
  have hK : va_K D vwCl (xty kk Z) s := hK
  have agV : agr [(1, 3), (1, 6), (1, 8), (6, 8), (6, 9), (6, 10)] [42, 43, 44, 48] V V := agr.rf
  have alL : agL [6, 44] L L := agL.rf
  have fwV : frX (xR b) V V := frX.rf
  have r1 : (-1) ≤ ((V 1 1)).toInt ∧ ((V 1 1)).toInt ≤ 1 := hMV 1 1
  refine lv_aload_n hx hb dX1_readProduct_0 rfl (lv_at hl 0 rfl) ?_
  refine lv_iload_n hx hb dX1_readProduct_1 rfl (lv_at hl 1 rfl) ?_
  refine gA_int (gA_runV (As := [.int p0]) (rest := []) (ci := 1) (q0 := 1) hx hb hml hown hg hP hD hK hS hA hnw hgk (hk_x_readPart H.size ad kk V L Z p0 (b) hMV (by first | exact om_10aaac3409ba rg_p0.1 rg_p0.2 | first | omega | ((try (have i_cd := Imp.go cd (by omega))); omega)) (show b < 2 from by first | exact om_f940a4667dd6 hb2 | first | omega | ((try (have i_cd := Imp.go cd (by omega))); omega)) (show (V 1 1).toInt = (b : Int) from by first | exact om_08e0c9701055 rbk | first | omega | ((try (have i_cd := Imp.go cd (by omega))); omega)) cd (show 8 - p0.toInt ≤ (dd : Int) from by first | exact om_1656cef72499 y1 | first | omega | ((try (have i_cd := Imp.go cd (by omega))); omega))) w963 w965 w24 w162 w966 rfl xgReader hdV_yX1_readPart ⟨(by show 10 * dd + 6 + 1 ≤ 10 * dd + 7; (first | exact om_6de1b10062be | omega)), (by show 8 + (5 + 11) + (300 * dd + 150) ≤ 300 * dd + 180; (first | exact om_d79616c3e450 | omega))⟩ rfl hl.1 rfl (Nat.le_of_ble_eq_true rfl) dX1_readProduct_2 ⟨Nat.le_of_ble_eq_true rfl, Nat.le_of_ble_eq_true rfl⟩) hP hD hK hS hA (fun z2 u3 H locs w4 hP hD hK hS => ?_)
  obtain ⟨V8, L9⟩ := u3
  obtain ⟨hMV8, ajV8, axL9, fyV8, rgz2, t5, t6, t7⟩ := w4
  have alL9 : agL [6, 44] L L9 := agL.tr alL axL9 (by decide)
  have hP : va_P D vwCl (xw ad kk V8 L9 Z) H := hP
  have hD : va_D A (xw ad kk V8 L9 Z) := hD
  have hMV8 : rgd bX V8 := hMV8
  have ajV8 : agr [(1, 3), (1, 6), (1, 8), (6, 8), (6, 9), (6, 10)] [42, 43, 44, 48] V V8 := ajV8
  have agV8 : agr [(1, 3), (1, 6), (1, 8), (6, 8), (6, 9), (6, 10)] [42, 43, 44, 48] V V8 := agV.tr ajV8 (by decide) (by decide)
  have fwV8 : frX (xR b) V V8 := frX.tr fwV (fyV8)
  have rgz2 : 0 ≤ z2.toInt ∧ z2.toInt ≤ 1 := rgz2
  have t5 : CD V8 b := t5
  have t6 : px V V8 b := t6
  have t7 : Imp (z2.toInt = 0) (1 ≤ (V8 1 3).toInt) := t7
  refine lv_if_ne (tgt := 10) hx hb dX1_readProduct_5 (by decide) (fun c10 => ?_) (fun c10 => ?_)
  · skip
    have f11 : z2.toInt ≠ 0 := b_neq rfl (by decide) c10
    refine lv_iconst (v := 0) hx hb dX1_readProduct_10 (by decide) ?_
    refine lv_istore_n (lv' := [(2, .int 0), (0, .ref (ad 1)), (1, .int p0)]) hx hb dX1_readProduct_11 rfl hl (by decide) rfl (fun ls hl => ?_)
    have lp15 : ∀ (fulp15 : Nat) (y12 : Int32) (V13 : Vf) (L14 : Lf) (H : Heap) (locs : List Loc) (ls : Array Slot), 0 ≤ y12.toInt ∧ y12.toInt ≤ 4000 → CD V13 b → px V V13 b → 4000 - y12.toInt < (fulp15 : Int) → agL [6, 44] L L14 → agr [(1, 3), (1, 6), (1, 8), (6, 8), (6, 9), (6, 10)] [42, 43, 44, 48] V8 V13 → rgd bX V13 → frX (xR b) V V13 → va_P D vwCl (xw ad kk V13 L14 Z) H → va_D A (xw ad kk V13 L14 Z) → va_S A s.heap H locs → lv_has ls 3 [(2, .int y12), (0, .ref (ad 1)), (1, .int p0)] → W p l e (rK 7 180 dd) s m ([.ref (ad 1), .int p0] : List Value).toArray below meth c H locs 0 0 (MQ below (q_x_readProduct D ks ad kk V L Z p0 b A) ([.ref (ad 1), .int p0] : List Value).toArray s 0 0 A) (F0 m 12 ls []) := by
      intro fulp15
      induction fulp15 with
      | zero =>
        intro y12 V13 L14 H locs ls klp15_0 xlp15_0 xlp15_1 hn alL14 ajV13 hMV13 fwV13 hP hD hS hl
        exfalso; (first | exact om_03b755d7679e klp15_0.2 hn | omega)
      | succ fulp15 ihlp15 =>
        intro y12 V13 L14 H locs ls klp15_0 xlp15_0 xlp15_1 hn alL14 ajV13 hMV13 fwV13 hP hD hS hl
        have agV13 : agr [(1, 3), (1, 6), (1, 8), (6, 8), (6, 9), (6, 10)] [42, 43, 44, 48] V V13 := agV8.tr ajV13 (by decide) (by decide)
        refine lv_iload_n hx hb dX1_readProduct_12 rfl (lv_at hl 0 rfl) ?_
        refine lv_sipush (v := 4000) hx hb dX1_readProduct_13 (by decide) ?_
        refine lv_icmp_ge (tgt := 63) hx hb dX1_readProduct_16 (by decide) (fun c16 => ?_) (fun c16 => ?_)
        · skip
          have f17 : 4000 ≤ y12.toInt := b_le (by decide) rfl c16
          refine lv_iconst (v := 1) hx hb dX1_readProduct_63 (by decide) ?_
          exact W.zret (v := 1) hx hb hr rfl (fun t ht hW => ⟨⟨1, (V13, L14), rfl, ⟨hMV13, agV13, alL14, fwV13, (by decide), xlp15_0, xlp15_1, (Imp.mk (fun hp => absurd hp (by decide)))⟩, by rw [ht]; exact hP, va_K.moved hW.alike hK, hD⟩, hS.F ht⟩) hS.2.2 dX1_readProduct_64
        · skip
          have f18 : y12.toInt < 4000 := b_nle (by decide) rfl c16
          refine lv_aload_n hx hb dX1_readProduct_19 rfl (lv_at hl 1 rfl) ?_
          refine va_get (D := D) (ci := 1) (v := .ref (ad 6)) (fs := (xfReader ad V13 L14 Z)) (C := RX1) (T := TX1) (N := 9) hx hb hg inX1 hown hK hP 1 xgReader rfl 0 (by decide) (hg _ w304) (fun _ h9 => h9) rfl dX1_readProduct_20 ?_
          refine va_getN (D := D) (ci := 9) (v := .int (V13 6 9)) (fs := (xfTape ad V13 L14 Z)) (C := RX9) (T := TX9) (N := 12) hx hb hg inX9 hown hK hP 6 xgTape rfl 9 (by decide) (hnw.use 262 n262 rfl) (fun _ h9 => h9) rfl dX1_readProduct_23 ?_
          refine lv_bipush (v := 42) hx hb dX1_readProduct_26 (by decide) ?_
          refine lv_icmp_ne (tgt := 63) hx hb dX1_readProduct_28 (by decide) (fun c19 => ?_) (fun c19 => ?_)
          · skip
            have f20 : ((V13 6 9)).toInt ≠ 42 := b_neq rfl (by decide) c19
            refine lv_iconst (v := 1) hx hb dX1_readProduct_63 (by decide) ?_
            exact W.zret (v := 1) hx hb hr rfl (fun t ht hW => ⟨⟨1, (V13, L14), rfl, ⟨hMV13, agV13, alL14, fwV13, (by decide), xlp15_0, xlp15_1, (Imp.mk (fun hp => absurd hp (by decide)))⟩, by rw [ht]; exact hP, va_K.moved hW.alike hK, hD⟩, hS.F ht⟩) hS.2.2 dX1_readProduct_64
          · skip
            have f21 : ((V13 6 9)).toInt = 42 := b_eq rfl (by decide) c19
            refine lv_aload_n hx hb dX1_readProduct_31 rfl (lv_at hl 1 rfl) ?_
            refine va_get (D := D) (ci := 1) (v := .ref (ad 6)) (fs := (xfReader ad V13 L14 Z)) (C := RX1) (T := TX1) (N := 9) hx hb hg inX1 hown hK hP 1 xgReader rfl 0 (by decide) (hg _ w304) (fun _ h9 => h9) rfl dX1_readProduct_32 ?_
            refine gA_void (gA_runV (As := []) (rest := []) (ci := 9) (q0 := 6) hx hb hml hown hg hP hD hK hS hA hnw hgk (x_next l D ks H.size ad kk V13 L14 Z  hMV13 ) w871 w852 w853 w157 w854 rfl xgTape hdV_yX9_next ⟨(by show 0 + 1 ≤ 10 * dd + 7; (first | exact om_b1b3c2de07ba rg_p0.2 y1 | omega)), (by show 8 + (1 + 11) + (0) ≤ 300 * dd + 180; (first | exact om_715e5b210718 rg_p0.2 y1 | omega))⟩ rfl hl.1 rfl (Nat.le_of_ble_eq_true rfl) dX1_readProduct_35 ⟨Nat.le_of_ble_eq_true rfl, Nat.le_of_ble_eq_true rfl⟩) hP hD hK hS hA (fun u23 H locs w24 hP hD hK hS => ?_)
            obtain ⟨V25, L26⟩ := u23
            obtain ⟨hMV25, ajV25, axL26⟩ := w24
            have alL26 : agL [6, 44] L L26 := agL.tr alL14 axL26 (by decide)
            have hP : va_P D vwCl (xw ad kk V25 L26 Z) H := hP
            have hD : va_D A (xw ad kk V25 L26 Z) := hD
            have hMV25 : rgd bX V25 := hMV25
            have ajV25 : agr [(6, 8), (6, 9), (6, 10)] [] V13 V25 := ajV25
            have agV25 : agr [(1, 3), (1, 6), (1, 8), (6, 8), (6, 9), (6, 10)] [42, 43, 44, 48] V V25 := agV13.tr ajV25 (by decide) (by decide)
            have fwV25 : frX (xR b) V V25 := frX.tr fwV13 (frX.ag ajV25 (by decide) (by decide))
            refine lv_aload_n hx hb dX1_readProduct_38 rfl (lv_at hl 1 rfl) ?_
            refine lv_iload_n hx hb dX1_readProduct_39 rfl (lv_at hl 2 rfl) ?_
            have pq27 : (V25 1 1).toInt = ((V 1 1)).toInt := congrArg Int32.toInt ((ajV25 1 1 rfl).trans ((ajV13 1 1 rfl).trans (ajV8 1 1 rfl)))
            have cd28 : CD V25 b := ⟨CB.ag xlp15_0.1 (show agr [(6, 8), (6, 9), (6, 10)] [] V13 V25 from (agr.tr agr.rf ajV25 (by decide) (by decide))) (fun _ => rfl) (fun _ => rfl), CO.ag xlp15_0.2 (show agr [(6, 8), (6, 9), (6, 10)] [] V13 V25 from (agr.tr agr.rf ajV25 (by decide) (by decide))) (fun _ => rfl) (fun _ => rfl)⟩
            refine gA_int (gA_runV (As := [.int p0]) (rest := []) (ci := 1) (q0 := 1) hx hb hml hown hg hP hD hK hS hA hnw hgk (hk_x_readPart H.size ad kk V25 L26 Z p0 (b) hMV25 (by first | exact om_10aaac3409ba rg_p0.1 rg_p0.2 | first | omega | ((try (have i_t7 := Imp.go t7 (by omega))); (try (have i_cd := Imp.go cd (by omega))); (try (have i_cd := Imp.go cd (by omega))); (try (have i_t7 := Imp.go t7 (by omega))); omega)) (show b < 2 from by first | exact om_f940a4667dd6 hb2 | first | omega | ((try (have i_t7 := Imp.go t7 (by omega))); (try (have i_cd := Imp.go cd (by omega))); (try (have i_cd := Imp.go cd (by omega))); (try (have i_t7 := Imp.go t7 (by omega))); omega)) (show (V25 1 1).toInt = (b : Int) from by first | exact om_adf531c77a0d rbk pq27 | first | omega | ((try (have i_t7 := Imp.go t7 (by omega))); (try (have i_cd := Imp.go cd (by omega))); (try (have i_cd := Imp.go cd (by omega))); (try (have i_t7 := Imp.go t7 (by omega))); omega)) cd28 (show 8 - p0.toInt ≤ (dd : Int) from by first | exact om_1656cef72499 y1 | first | omega | ((try (have i_t7 := Imp.go t7 (by omega))); (try (have i_cd := Imp.go cd (by omega))); (try (have i_cd := Imp.go cd (by omega))); (try (have i_t7 := Imp.go t7 (by omega))); omega))) w963 w965 w24 w162 w966 rfl xgReader hdV_yX1_readPart ⟨(by show 10 * dd + 6 + 1 ≤ 10 * dd + 7; (first | exact om_6de1b10062be | omega)), (by show 8 + (5 + 11) + (300 * dd + 150) ≤ 300 * dd + 180; (first | exact om_d79616c3e450 | omega))⟩ rfl hl.1 rfl (Nat.le_of_ble_eq_true rfl) dX1_readProduct_40 ⟨Nat.le_of_ble_eq_true rfl, Nat.le_of_ble_eq_true rfl⟩) hP hD hK hS hA (fun z29 u30 H locs w31 hP hD hK hS => ?_)
            obtain ⟨V35, L36⟩ := u30
            obtain ⟨hMV35, ajV35, axL36, fyV35, rgz29, t32, t33, t34⟩ := w31
            have alL36 : agL [6, 44] L L36 := agL.tr alL26 axL36 (by decide)
            have hP : va_P D vwCl (xw ad kk V35 L36 Z) H := hP
            have hD : va_D A (xw ad kk V35 L36 Z) := hD
            have hMV35 : rgd bX V35 := hMV35
            have ajV35 : agr [(1, 3), (1, 6), (1, 8), (6, 8), (6, 9), (6, 10)] [42, 43, 44, 48] V25 V35 := ajV35
            have agV35 : agr [(1, 3), (1, 6), (1, 8), (6, 8), (6, 9), (6, 10)] [42, 43, 44, 48] V V35 := agV25.tr ajV35 (by decide) (by decide)
            have fwV35 : frX (xR b) V V35 := frX.tr fwV25 (fyV35)
            have rgz29 : 0 ≤ z29.toInt ∧ z29.toInt ≤ 1 := rgz29
            have t32 : CD V35 b := t32
            have t33 : px V25 V35 b := t33
            have t34 : Imp (z29.toInt = 0) (1 ≤ (V35 1 3).toInt) := t34
            refine lv_if_ne (tgt := 48) hx hb dX1_readProduct_43 (by decide) (fun c37 => ?_) (fun c37 => ?_)
            · skip
              have f38 : z29.toInt ≠ 0 := b_neq rfl (by decide) c37
              refine lv_aload_n hx hb dX1_readProduct_48 rfl (lv_at hl 1 rfl) ?_
              refine va_get (D := D) (ci := 1) (v := rfN ad 38 (V35 1 1)) (fs := (xfReader ad V35 L36 Z)) (C := RX1) (T := TX1) (N := 9) hx hb hg inX1 hown hK hP 1 xgReader rfl 1 (by decide) (hg _ w305) (fun _ h9 => h9) rfl dX1_readProduct_49 ?_
              have pq39 : (V35 1 1).toInt = ((V 1 1)).toInt := congrArg Int32.toInt ((ajV35 1 1 rfl).trans ((ajV25 1 1 rfl).trans ((ajV13 1 1 rfl).trans (ajV8 1 1 rfl))))
              refine g_topv (v := .ref (ad (38 + b))) (rfN_r (by first | omega | ((try (have i_t34 := Imp.go t34 (by omega))); (try (have i_t7 := Imp.go t7 (by omega))); (try (have i_cd := Imp.go cd (by omega))); (try (have i_cd := Imp.go cd (by omega))); (try (have i_t7 := Imp.go t7 (by omega))); (try (have i_t34 := Imp.go t34 (by omega))); omega))) ?_
              refine lv_bipush (v := 7) hx hb dX1_readProduct_52 (by decide) ?_
              have r40 : Int32.toInt 7 = 7 := by decide
              refine gA_void (gA_runV (As := [.int 7]) (rest := []) (ci := 0) (q0 := (38 + b)) hx hb hml hown hg hP hD hK hS hA hnw hgk (x_emit l D ks H.size ad kk V35 L36 Z 7 (b) hMV35 (show b < 2 from by first | exact om_f940a4667dd6 hb2 | first | omega | ((try (have i_t34 := Imp.go t34 (by omega))); (try (have i_t7 := Imp.go t7 (by omega))); (try (have i_cd := Imp.go cd (by omega))); (try (have i_cd := Imp.go cd (by omega))); (try (have i_t7 := Imp.go t7 (by omega))); (try (have i_t34 := Imp.go t34 (by omega))); omega))) w971 w972 w973 w167 w974 rfl (xgBook hb2) hdV_yX0_emit ⟨(by show 0 + 1 ≤ 10 * dd + 7; (first | exact om_b1b3c2de07ba rg_p0.2 y1 | omega)), (by show 8 + (2 + 11) + (0) ≤ 300 * dd + 180; (first | exact om_5ec95c5379fb rg_p0.2 y1 | omega))⟩ rfl hl.1 rfl (Nat.le_of_ble_eq_true rfl) dX1_readProduct_54 ⟨Nat.le_of_ble_eq_true rfl, Nat.le_of_ble_eq_true rfl⟩) hP hD hK hS hA (fun u42 H locs w43 hP hD hK hS => ?_)
              obtain ⟨V45, L46⟩ := u42
              obtain ⟨hMV45, ajV45, axL46, fyV45, t44⟩ := w43
              have axL46 : L36 = L46 := Eq.symm axL46
              subst axL46
              have hP : va_P D vwCl (xw ad kk V45 L36 Z) H := hP
              have hD : va_D A (xw ad kk V45 L36 Z) := hD
              have hMV45 : rgd bX V45 := hMV45
              have ajV45 : agr [] [42, 48] V35 V45 := ajV45
              have agV45 : agr [(1, 3), (1, 6), (1, 8), (6, 8), (6, 9), (6, 10)] [42, 43, 44, 48] V V45 := agV35.tr ajV45 (by decide) (by decide)
              have fwV45 : frX (xR b) V V45 := frX.tr fwV35 (fyV45)
              have t44 : emX V35 V45 b 7 := t44
              obtain ⟨z47, ez47⟩ : ∃ y : Int32, y = y12 + 1 := ⟨_, rfl⟩
              have hz47 : z47.toInt = y12.toInt + 1 := i_add ez47 rfl (by decide) (by (first | exact om_67c6ad613360 klp15_0.1 f18 | omega))
              refine lv_iinc (v := z47) (lv' := [(2, .int z47), (0, .ref (ad 1)), (1, .int p0)]) hx hb dX1_readProduct_57 hl (k := 0) rfl (by rw [ez47]; rfl) (by decide) rfl (fun ls hl => ?_)
              refine lv_goto (tgt := 12) hx hb dX1_readProduct_60 (by decide) ?_
              have cl48 : 0 ≤ (V35 42 b).toInt ∧ (V35 42 b).toInt ≤ 8200 := hMV35 42 b
              have cd49 : CD V45 b := ⟨CB.e1 t32.1 t44 (by omega) (by decide), CO.e1 t32.2 t44 (by decide) (by omega)⟩
              have px50 : px V V25 b := px.tr xlp15_1 (px.ag (show agr [(6, 8), (6, 9), (6, 10)] [] V13 V25 from (agr.tr agr.rf ajV25 (by decide) (by decide))) (fun _ => rfl) (fun _ => rfl) (fun _ => rfl))
              have px51 : px V V35 b := px.tr px50 t33
              have px52 : px V V45 b := px.tr px51 ⟨emX.p0x t44, ajV45 43 _ rfl⟩
              exact ihlp15 z47 V45 L36 H locs ls (by first | exact om_44a0a3faffcf klp15_0.1 f18 hz47 | first | omega | ((try (have i_t34 := Imp.go t34 (by omega))); (try (have i_t7 := Imp.go t7 (by omega))); (try (have i_cd := Imp.go cd (by omega))); (try (have i_cd := Imp.go cd (by omega))); (try (have i_t7 := Imp.go t7 (by omega))); (try (have i_t34 := Imp.go t34 (by omega))); omega)) cd49 px52 (by first | exact om_7390df9cc880 hn hz47 | first | omega | ((try (have i_t34 := Imp.go t34 (by omega))); (try (have i_t7 := Imp.go t7 (by omega))); (try (have i_cd := Imp.go cd (by omega))); (try (have i_cd := Imp.go cd (by omega))); (try (have i_t7 := Imp.go t7 (by omega))); (try (have i_t34 := Imp.go t34 (by omega))); omega)) alL36 (agr.tr (agr.tr (agr.tr (agr.tr agr.rf ajV13 (by decide) (by decide)) ajV25 (by decide) (by decide)) ajV35 (by decide) (by decide)) ajV45 (by decide) (by decide)) hMV45 fwV45 hP hD hS (lv_sub hl [0, 1, 2] rfl)
            · skip
              have f53 : z29.toInt = 0 := b_eq rfl (by decide) c37
              refine lv_iconst (v := 0) hx hb dX1_readProduct_46 (by decide) ?_
              have px54 : px V V25 b := px.tr xlp15_1 (px.ag (show agr [(6, 8), (6, 9), (6, 10)] [] V13 V25 from (agr.tr agr.rf ajV25 (by decide) (by decide))) (fun _ => rfl) (fun _ => rfl) (fun _ => rfl))
              have px55 : px V V35 b := px.tr px54 t33
              exact W.zret (v := 0) hx hb hr rfl (fun t ht hW => ⟨⟨0, (V35, L36), rfl, ⟨hMV35, agV35, alL36, fwV35, (by decide), t32, px55, (Imp.mk (fun _ => (show 1 ≤ (V35 1 3).toInt from by first | exact om_f8d8213eda45 ((Imp.go t34 (f53))) | first | omega | ((try (have i_t34 := Imp.go t34 (by omega))); (try (have i_t7 := Imp.go t7 (by omega))); (try (have i_cd := Imp.go cd (by omega))); (try (have i_cd := Imp.go cd (by omega))); (try (have i_t7 := Imp.go t7 (by omega))); (try (have i_t34 := Imp.go t34 (by omega))); omega))))⟩, by rw [ht]; exact hP, va_K.moved hW.alike hK, hD⟩, hS.F ht⟩) hS.2.2 dX1_readProduct_47
    have r56 : Int32.toInt 0 = 0 := by decide
    have px57 : px V V8 b := px.tr (px.rf : px V V b) t6
    exact lp15 ((4000 - (Int32.toInt 0) + 1 : Int).toNat) 0 V8 L9 H locs ls (by decide) t5 px57 (by first | exact om_be7e3b1de7fd | first | omega | ((try (have i_t7 := Imp.go t7 (by omega))); (try (have i_cd := Imp.go cd (by omega))); (try (have i_cd := Imp.go cd (by omega))); (try (have i_t7 := Imp.go t7 (by omega))); omega)) alL9 agr.rf hMV8 fwV8 hP hD hS (lv_sub hl [0, 1, 2] rfl)
  · skip
    have f58 : z2.toInt = 0 := b_eq rfl (by decide) c10
    refine lv_iconst (v := 0) hx hb dX1_readProduct_8 (by decide) ?_
    have px59 : px V V8 b := px.tr (px.rf : px V V b) t6
    exact W.zret (v := 0) hx hb hr rfl (fun t ht hW => ⟨⟨0, (V8, L9), rfl, ⟨hMV8, agV8, alL9, fwV8, (by decide), t5, px59, (Imp.mk (fun _ => (show 1 ≤ (V8 1 3).toInt from by first | exact om_f8d8213eda45 ((Imp.go t7 (f58))) | first | omega | ((try (have i_t7 := Imp.go t7 (by omega))); (try (have i_cd := Imp.go cd (by omega))); (try (have i_cd := Imp.go cd (by omega))); (try (have i_t7 := Imp.go t7 (by omega))); omega))))⟩, by rw [ht]; exact hP, va_K.moved hW.alike hK, hD⟩, hS.F ht⟩) hS.2.2 dX1_readProduct_9
set_option maxHeartbeats 4000000 in
set_option maxRecDepth 100000 in
theorem x_readWithin {l : Launch} {D : va_G} {ks : KS} {dd : Nat} (hk_x_readExpression : K_x_readExpression l D ks dd) : K_x_readWithin l D ks dd := by
  intro sz ad kk V L Z p0 b hMV rg_p0 hb2 rbk cd y1
  refine g_met (q_x_readWithin D ks ad kk V L Z p0 b) (by decide) (Nat.le_of_ble_eq_true rfl) ?_
  intro p e s m below meth c A ls H locs hx hb hr hml hown hg hlocks hin hnw hgk hP hK hD hS hA hl
  have hown : s.vm.findClass RX1 = some m.cls := hown
  have hl : lv_has ls 2 [(0, .ref (ad 1)), (1, .int p0)] := hl
  have hP : va_P D vwCl (xw ad kk V L Z) H := hP
  have hD : va_D A (xw ad kk V L Z) := hD
  have hK : va_K D vwCl (xty kk Z) s := hK
  have agV : agr [(1, 3), (1, 6), (1, 8), (6, 8), (6, 9), (6, 10)] [42, 43, 44, 48] V V := agr.rf
  have alL : agL [6, 44] L L := agL.rf
  have fwV : frX (xR b) V V := frX.rf
  have r1 : (-1) ≤ ((V 1 1)).toInt ∧ ((V 1 1)).toInt ≤ 1 := hMV 1 1
  refine lv_aload_n hx hb dX1_readWithin_0 rfl (lv_at hl 0 rfl) ?_
  refine lv_bipush (v := 40) hx hb dX1_readWithin_1 (by decide) ?_
  have r2 : Int32.toInt 40 = 40 := by decide
  refine gA_int (gA_runV (As := [.int 40]) (rest := []) (ci := 1) (q0 := 1) hx hb hml hown hg hP hD hK hS hA hnw hgk (x_take l D ks H.size ad kk V L Z 40 hMV ) w893 w895 w10 w162 w896 rfl xgReader hdV_yX1_take ⟨(by show 1 + 1 ≤ 10 * dd + 10; (first | exact om_162fc0655431 rg_p0.2 y1 | omega)), (by show 8 + (2 + 11) + (21) ≤ 300 * dd + 265; (first | exact om_cb5b29a579d3 rg_p0.2 y1 | omega))⟩ rfl hl.1 rfl (Nat.le_of_ble_eq_true rfl) dX1_readWithin_3 ⟨Nat.le_of_ble_eq_true rfl, Nat.le_of_ble_eq_true rfl⟩) hP hD hK hS hA (fun z3 u4 H locs w5 hP hD hK hS => ?_)
  obtain ⟨V7, L8⟩ := u4
  obtain ⟨hMV7, ajV7, axL8, rgz3, t6⟩ := w5
  have alL8 : agL [6, 44] L L8 := agL.tr alL axL8 (by decide)
  have hP : va_P D vwCl (xw ad kk V7 L8 Z) H := hP
  have hD : va_D A (xw ad kk V7 L8 Z) := hD
  have hMV7 : rgd bX V7 := hMV7
  have ajV7 : agr [(1, 3), (6, 8), (6, 9), (6, 10)] [] V V7 := ajV7
  have agV7 : agr [(1, 3), (1, 6), (1, 8), (6, 8), (6, 9), (6, 10)] [42, 43, 44, 48] V V7 := agV.tr ajV7 (by decide) (by decide)
  have fwV7 : frX (xR b) V V7 := frX.tr fwV (frX.ag ajV7 (by decide) (by decide))
  have rgz3 : 0 ≤ z3.toInt ∧ z3.toInt ≤ 1 := rgz3
  have t6 : Imp (z3.toInt = 0) (1 ≤ (V7 1 3).toInt) := t6
  refine lv_if_eq (tgt := 32) hx hb dX1_readWithin_6 (by decide) (fun c9 => ?_) (fun c9 => ?_)
  · skip
    have f10 : z3.toInt = 0 := b_eq rfl (by decide) c9
    refine lv_iconst (v := 0) hx hb dX1_readWithin_32 (by decide) ?_
    have cd11 : CD V7 b := ⟨CB.ag cd.1 (show agr [(1, 3), (6, 8), (6, 9), (6, 10)] [] V V7 from (agr.tr agr.rf ajV7 (by decide) (by decide))) (fun _ => rfl) (fun _ => rfl), CO.ag cd.2 (show agr [(1, 3), (6, 8), (6, 9), (6, 10)] [] V V7 from (agr.tr agr.rf ajV7 (by decide) (by decide))) (fun _ => rfl) (fun _ => rfl)⟩
    have px12 : px V V7 b := px.tr (px.rf : px V V b) (px.ag (show agr [(1, 3), (6, 8), (6, 9), (6, 10)] [] V V7 from (agr.tr agr.rf ajV7 (by decide) (by decide))) (fun _ => rfl) (fun _ => rfl) (fun _ => rfl))
    exact W.zret (v := 0) hx hb hr rfl (fun t ht hW => ⟨⟨0, (V7, L8), rfl, ⟨hMV7, agV7, alL8, fwV7, (by decide), cd11, px12, (Imp.mk (fun _ => (show 1 ≤ (V7 1 3).toInt from by first | exact om_f8d8213eda45 ((Imp.go t6 (f10))) | first | omega | ((try (have i_t6 := Imp.go t6 (by omega))); (try (have i_cd := Imp.go cd (by omega))); (try (have i_cd := Imp.go cd (by omega))); (try (have i_t6 := Imp.go t6 (by omega))); omega))))⟩, by rw [ht]; exact hP, va_K.moved hW.alike hK, hD⟩, hS.F ht⟩) hS.2.2 dX1_readWithin_33
  · skip
    have f13 : z3.toInt ≠ 0 := b_neq rfl (by decide) c9
    refine lv_aload_n hx hb dX1_readWithin_9 rfl (lv_at hl 0 rfl) ?_
    refine lv_iload_n hx hb dX1_readWithin_10 rfl (lv_at hl 1 rfl) ?_
    refine lv_iconst (v := 1) hx hb dX1_readWithin_11 (by decide) ?_
    refine lv_iadd hx hb dX1_readWithin_12 ?_
    refine lv_topi (fun z14 ez14 => ?_)
    have hz14 : z14.toInt = p0.toInt + 1 := i_add ez14 rfl (by decide) (by (first | exact om_7833cbc177ca rg_p0.1 rg_p0.2 | omega))
    have pq15 : (V7 1 1).toInt = ((V 1 1)).toInt := congrArg Int32.toInt (ajV7 1 1 rfl)
    have cd16 : CD V7 b := ⟨CB.ag cd.1 (show agr [(1, 3), (6, 8), (6, 9), (6, 10)] [] V V7 from (agr.tr agr.rf ajV7 (by decide) (by decide))) (fun _ => rfl) (fun _ => rfl), CO.ag cd.2 (show agr [(1, 3), (6, 8), (6, 9), (6, 10)] [] V V7 from (agr.tr agr.rf ajV7 (by decide) (by decide))) (fun _ => rfl) (fun _ => rfl)⟩
    refine gA_int (gA_runV (As := [.int z14]) (rest := []) (ci := 1) (q0 := 1) hx hb hml hown hg hP hD hK hS hA hnw hgk (hk_x_readExpression H.size ad kk V7 L8 Z z14 (b) hMV7 (by first | exact om_b66aae6510dc rg_p0.1 rg_p0.2 hz14 | first | omega | ((try (have i_t6 := Imp.go t6 (by omega))); (try (have i_cd := Imp.go cd (by omega))); (try (have i_cd := Imp.go cd (by omega))); (try (have i_t6 := Imp.go t6 (by omega))); omega)) (show b < 2 from by first | exact om_f940a4667dd6 hb2 | first | omega | ((try (have i_t6 := Imp.go t6 (by omega))); (try (have i_cd := Imp.go cd (by omega))); (try (have i_cd := Imp.go cd (by omega))); (try (have i_t6 := Imp.go t6 (by omega))); omega)) (show (V7 1 1).toInt = (b : Int) from by first | exact om_adf531c77a0d rbk pq15 | first | omega | ((try (have i_t6 := Imp.go t6 (by omega))); (try (have i_cd := Imp.go cd (by omega))); (try (have i_cd := Imp.go cd (by omega))); (try (have i_t6 := Imp.go t6 (by omega))); omega)) cd16 (show 8 - z14.toInt ≤ (dd : Int) from by first | exact om_2dee3eb3e2cf y1 hz14 | first | omega | ((try (have i_t6 := Imp.go t6 (by omega))); (try (have i_cd := Imp.go cd (by omega))); (try (have i_cd := Imp.go cd (by omega))); (try (have i_t6 := Imp.go t6 (by omega))); omega))) w951 w953 w21 w162 w954 rfl xgReader hdV_yX1_readExpression ⟨(by show 10 * dd + 9 + 1 ≤ 10 * dd + 10; (first | exact om_5cb1365e39a9 | omega)), (by show 8 + (3 + 11) + (300 * dd + 240) ≤ 300 * dd + 265; (first | exact om_31bfa1b830a4 | omega))⟩ rfl hl.1 rfl (Nat.le_of_ble_eq_true rfl) dX1_readWithin_13 ⟨Nat.le_of_ble_eq_true rfl, Nat.le_of_ble_eq_true rfl⟩) hP hD hK hS hA (fun z17 u18 H locs w19 hP hD hK hS => ?_)
    obtain ⟨V23, L24⟩ := u18
    obtain ⟨hMV23, ajV23, axL24, fyV23, rgz17, t20, t21, t22⟩ := w19
    have alL24 : agL [6, 44] L L24 := agL.tr alL8 axL24 (by decide)
    have hP : va_P D vwCl (xw ad kk V23 L24 Z) H := hP
    have hD : va_D A (xw ad kk V23 L24 Z) := hD
    have hMV23 : rgd bX V23 := hMV23
    have ajV23 : agr [(1, 3), (1, 6), (1, 8), (6, 8), (6, 9), (6, 10)] [42, 43, 44, 48] V7 V23 := ajV23
    have agV23 : agr [(1, 3), (1, 6), (1, 8), (6, 8), (6, 9), (6, 10)] [42, 43, 44, 48] V V23 := agV7.tr ajV23 (by decide) (by decide)
    have fwV23 : frX (xR b) V V23 := frX.tr fwV7 (fyV23)
    have rgz17 : 0 ≤ z17.toInt ∧ z17.toInt ≤ 1 := rgz17
    have t20 : CD V23 b := t20
    have t21 : px V7 V23 b := t21
    have t22 : Imp (z17.toInt = 0) (1 ≤ (V23 1 3).toInt) := t22
    refine lv_if_eq (tgt := 32) hx hb dX1_readWithin_16 (by decide) (fun c25 => ?_) (fun c25 => ?_)
    · skip
      have f26 : z17.toInt = 0 := b_eq rfl (by decide) c25
      refine lv_iconst (v := 0) hx hb dX1_readWithin_32 (by decide) ?_
      have px27 : px V V7 b := px.tr (px.rf : px V V b) (px.ag (show agr [(1, 3), (6, 8), (6, 9), (6, 10)] [] V V7 from (agr.tr agr.rf ajV7 (by decide) (by decide))) (fun _ => rfl) (fun _ => rfl) (fun _ => rfl))
      have px28 : px V V23 b := px.tr px27 t21
      exact W.zret (v := 0) hx hb hr rfl (fun t ht hW => ⟨⟨0, (V23, L24), rfl, ⟨hMV23, agV23, alL24, fwV23, (by decide), t20, px28, (Imp.mk (fun _ => (show 1 ≤ (V23 1 3).toInt from by first | exact om_f8d8213eda45 ((Imp.go t22 (f26))) | first | omega | ((try (have i_t22 := Imp.go t22 (by omega))); (try (have i_t6 := Imp.go t6 (by omega))); (try (have i_cd := Imp.go cd (by omega))); (try (have i_cd := Imp.go cd (by omega))); (try (have i_t6 := Imp.go t6 (by omega))); (try (have i_t22 := Imp.go t22 (by omega))); omega))))⟩, by rw [ht]; exact hP, va_K.moved hW.alike hK, hD⟩, hS.F ht⟩) hS.2.2 dX1_readWithin_33
    · skip
      have f29 : z17.toInt ≠ 0 := b_neq rfl (by decide) c25
      refine lv_aload_n hx hb dX1_readWithin_19 rfl (lv_at hl 0 rfl) ?_
      refine lv_bipush (v := 41) hx hb dX1_readWithin_20 (by decide) ?_
      have r30 : Int32.toInt 41 = 41 := by decide
      refine gA_int (gA_runV (As := [.int 41]) (rest := []) (ci := 1) (q0 := 1) hx hb hml hown hg hP hD hK hS hA hnw hgk (x_take l D ks H.size ad kk V23 L24 Z 41 hMV23 ) w893 w895 w10 w162 w896 rfl xgReader hdV_yX1_take ⟨(by show 1 + 1 ≤ 10 * dd + 10; (first | exact om_162fc0655431 rg_p0.2 y1 | omega)), (by show 8 + (2 + 11) + (21) ≤ 300 * dd + 265; (first | exact om_cb5b29a579d3 rg_p0.2 y1 | omega))⟩ rfl hl.1 rfl (Nat.le_of_ble_eq_true rfl) dX1_readWithin_22 ⟨Nat.le_of_ble_eq_true rfl, Nat.le_of_ble_eq_true rfl⟩) hP hD hK hS hA (fun z31 u32 H locs w33 hP hD hK hS => ?_)
      obtain ⟨V35, L36⟩ := u32
      obtain ⟨hMV35, ajV35, axL36, rgz31, t34⟩ := w33
      have alL36 : agL [6, 44] L L36 := agL.tr alL24 axL36 (by decide)
      have hP : va_P D vwCl (xw ad kk V35 L36 Z) H := hP
      have hD : va_D A (xw ad kk V35 L36 Z) := hD
      have hMV35 : rgd bX V35 := hMV35
      have ajV35 : agr [(1, 3), (6, 8), (6, 9), (6, 10)] [] V23 V35 := ajV35
      have agV35 : agr [(1, 3), (1, 6), (1, 8), (6, 8), (6, 9), (6, 10)] [42, 43, 44, 48] V V35 := agV23.tr ajV35 (by decide) (by decide)
      have fwV35 : frX (xR b) V V35 := frX.tr fwV23 (frX.ag ajV35 (by decide) (by decide))
      have rgz31 : 0 ≤ z31.toInt ∧ z31.toInt ≤ 1 := rgz31
      have t34 : Imp (z31.toInt = 0) (1 ≤ (V35 1 3).toInt) := t34
      refine lv_if_eq (tgt := 32) hx hb dX1_readWithin_25 (by decide) (fun c37 => ?_) (fun c37 => ?_)
      · skip
        have f38 : z31.toInt = 0 := b_eq rfl (by decide) c37
        refine lv_iconst (v := 0) hx hb dX1_readWithin_32 (by decide) ?_
        have cd39 : CD V35 b := ⟨CB.ag t20.1 (show agr [(1, 3), (6, 8), (6, 9), (6, 10)] [] V23 V35 from (agr.tr agr.rf ajV35 (by decide) (by decide))) (fun _ => rfl) (fun _ => rfl), CO.ag t20.2 (show agr [(1, 3), (6, 8), (6, 9), (6, 10)] [] V23 V35 from (agr.tr agr.rf ajV35 (by decide) (by decide))) (fun _ => rfl) (fun _ => rfl)⟩
        have px40 : px V V7 b := px.tr (px.rf : px V V b) (px.ag (show agr [(1, 3), (6, 8), (6, 9), (6, 10)] [] V V7 from (agr.tr agr.rf ajV7 (by decide) (by decide))) (fun _ => rfl) (fun _ => rfl) (fun _ => rfl))
        have px41 : px V V23 b := px.tr px40 t21
        have px42 : px V V35 b := px.tr px41 (px.ag (show agr [(1, 3), (6, 8), (6, 9), (6, 10)] [] V23 V35 from (agr.tr agr.rf ajV35 (by decide) (by decide))) (fun _ => rfl) (fun _ => rfl) (fun _ => rfl))
        exact W.zret (v := 0) hx hb hr rfl (fun t ht hW => ⟨⟨0, (V35, L36), rfl, ⟨hMV35, agV35, alL36, fwV35, (by decide), cd39, px42, (Imp.mk (fun _ => (show 1 ≤ (V35 1 3).toInt from by first | exact om_f8d8213eda45 ((Imp.go t34 (f38))) | first | omega | ((try (have i_t34 := Imp.go t34 (f38))); omega) | ((try (have i_t34 := Imp.go t34 (by omega))); (try (have i_t22 := Imp.go t22 (by omega))); (try (have i_t6 := Imp.go t6 (by omega))); (try (have i_cd := Imp.go cd (by omega))); first | omega | ((try (have i_cd := Imp.go cd (by omega))); (try (have i_t6 := Imp.go t6 (by omega))); (try (have i_t22 := Imp.go t22 (by omega))); (try (have i_t34 := Imp.go t34 (by omega))); omega)))))⟩, by rw [ht]; exact hP, va_K.moved hW.alike hK, hD⟩, hS.F ht⟩) hS.2.2 dX1_readWithin_33
      · skip
        have f43 : z31.toInt ≠ 0 := b_neq rfl (by decide) c37
        refine lv_iconst (v := 1) hx hb dX1_readWithin_28 (by decide) ?_
        refine lv_goto (tgt := 33) hx hb dX1_readWithin_29 (by decide) ?_
        have cd44 : CD V35 b := ⟨CB.ag t20.1 (show agr [(1, 3), (6, 8), (6, 9), (6, 10)] [] V23 V35 from (agr.tr agr.rf ajV35 (by decide) (by decide))) (fun _ => rfl) (fun _ => rfl), CO.ag t20.2 (show agr [(1, 3), (6, 8), (6, 9), (6, 10)] [] V23 V35 from (agr.tr agr.rf ajV35 (by decide) (by decide))) (fun _ => rfl) (fun _ => rfl)⟩
        have px45 : px V V7 b := px.tr (px.rf : px V V b) (px.ag (show agr [(1, 3), (6, 8), (6, 9), (6, 10)] [] V V7 from (agr.tr agr.rf ajV7 (by decide) (by decide))) (fun _ => rfl) (fun _ => rfl) (fun _ => rfl))
        have px46 : px V V23 b := px.tr px45 t21
        have px47 : px V V35 b := px.tr px46 (px.ag (show agr [(1, 3), (6, 8), (6, 9), (6, 10)] [] V23 V35 from (agr.tr agr.rf ajV35 (by decide) (by decide))) (fun _ => rfl) (fun _ => rfl) (fun _ => rfl))
        exact W.zret (v := 1) hx hb hr rfl (fun t ht hW => ⟨⟨1, (V35, L36), rfl, ⟨hMV35, agV35, alL36, fwV35, (by decide), cd44, px47, (Imp.mk (fun hp => absurd hp (by decide)))⟩, by rw [ht]; exact hP, va_K.moved hW.alike hK, hD⟩, hS.F ht⟩) hS.2.2 dX1_readWithin_33
set_option maxHeartbeats 4000000 in
set_option maxRecDepth 100000 in
theorem x_readPart {l : Launch} {D : va_G} {ks : KS} {dd : Nat} (hk_x_readExpression : ∀ d9, dd = d9 + 1 → K_x_readExpression l D ks d9) (hk_x_readPart : ∀ d9, dd = d9 + 1 → K_x_readPart l D ks d9) (hk_x_readPick : ∀ d9, dd = d9 + 1 → K_x_readPick l D ks d9) (hk_x_readOf : ∀ d9, dd = d9 + 1 → K_x_readOf l D ks d9) (hk_x_readWithin : ∀ d9, dd = d9 + 1 → K_x_readWithin l D ks d9) : K_x_readPart l D ks dd := by
  intro sz ad kk V L Z p0 b hMV rg_p0 hb2 rbk cd y1
  refine g_met (q_x_readPart D ks ad kk V L Z p0 b) (by decide) (Nat.le_of_ble_eq_true rfl) ?_
  intro p e s m below meth c A ls H locs hx hb hr hml hown hg hlocks hin hnw hgk hP hK hD hS hA hl
  have hown : s.vm.findClass RX1 = some m.cls := hown
  have hl : lv_has ls 5 [(0, .ref (ad 1)), (1, .int p0)] := hl
  have hP : va_P D vwCl (xw ad kk V L Z) H := hP
  have hD : va_D A (xw ad kk V L Z) := hD
  have hK : va_K D vwCl (xty kk Z) s := hK
  have agV : agr [(1, 3), (1, 6), (1, 8), (6, 8), (6, 9), (6, 10)] [42, 43, 44, 48] V V := agr.rf
  have alL : agL [6, 44] L L := agL.rf
  have fwV : frX (xR b) V V := frX.rf
  have r1 : (-1) ≤ ((V 1 1)).toInt ∧ ((V 1 1)).toInt ≤ 1 := hMV 1 1
  refine lv_aload_n hx hb dX1_readPart_0 rfl (lv_at hl 0 rfl) ?_
  refine gA_int (gA_runV (As := []) (rest := []) (ci := 1) (q0 := 1) hx hb hml hown hg hP hD hK hS hA hnw hgk (x_beginsPart l D ks H.size ad kk V L Z  hMV ) w967 w969 w25 w162 w970 rfl xgReader hdV_yX1_beginsPart ⟨(by show 0 + 1 ≤ 10 * dd + 6; (first | exact om_0442424c9051 rg_p0.2 y1 | omega)), (by show 8 + (1 + 11) + (0) ≤ 300 * dd + 150; (first | exact om_255d42a3e514 rg_p0.2 y1 | omega))⟩ rfl hl.1 rfl (Nat.le_of_ble_eq_true rfl) dX1_readPart_1 ⟨Nat.le_of_ble_eq_true rfl, Nat.le_of_ble_eq_true rfl⟩) hP hD hK hS hA (fun z2 u3 H locs w4 hP hD hK hS => ?_)
  have rgz2 := w4
  have rgz2 : 0 ≤ z2.toInt ∧ z2.toInt ≤ 1 := rgz2
  refine lv_if_ne (tgt := 13) hx hb dX1_readPart_4 (by decide) (fun c5 => ?_) (fun c5 => ?_)
  · skip
    have f6 : z2.toInt ≠ 0 := b_neq rfl (by decide) c5
    refine lv_iload_n hx hb dX1_readPart_13 rfl (lv_at hl 1 rfl) ?_
    refine lv_bipush (v := 8) hx hb dX1_readPart_14 (by decide) ?_
    refine lv_icmp_lt (tgt := 25) hx hb dX1_readPart_16 (by decide) (fun c7 => ?_) (fun c7 => ?_)
    · skip
      have f8 : p0.toInt < 8 := b_lt rfl (by decide) c7
      refine lv_aload_n hx hb dX1_readPart_25 rfl (lv_at hl 0 rfl) ?_
      obtain ⟨d9, rfl⟩ : ∃ d9, dd = d9 + 1 := ⟨dd - 1, by omega⟩
      refine va_get (D := D) (ci := 1) (v := .ref (ad 6)) (fs := (xfReader ad V L Z)) (C := RX1) (T := TX1) (N := 9) hx hb hg inX1 hown hK hP 1 xgReader rfl 0 (by decide) (hg _ w304) (fun _ h9 => h9) rfl dX1_readPart_26 ?_
      refine va_getN (D := D) (ci := 9) (v := .int (V 6 9)) (fs := (xfTape ad V L Z)) (C := RX9) (T := TX9) (N := 12) hx hb hg inX9 hown hK hP 6 xgTape rfl 9 (by decide) (hnw.use 262 n262 rfl) (fun _ h9 => h9) rfl dX1_readPart_29 ?_
      refine lv_istore_n (lv' := [(2, .int (V 6 9)), (0, .ref (ad 1)), (1, .int p0)]) hx hb dX1_readPart_32 rfl hl (by decide) rfl (fun ls hl => ?_)
      refine lv_aload_n hx hb dX1_readPart_33 rfl (lv_at hl 1 rfl) ?_
      refine va_get (D := D) (ci := 1) (v := .ref (ad 6)) (fs := (xfReader ad V L Z)) (C := RX1) (T := TX1) (N := 9) hx hb hg inX1 hown hK hP 1 xgReader rfl 0 (by decide) (hg _ w304) (fun _ h9 => h9) rfl dX1_readPart_34 ?_
      refine va_getN (D := D) (ci := 9) (v := .long (L 6 11)) (fs := (xfTape ad V L Z)) (C := RX9) (T := TX9) (N := 12) hx hb hg inX9 hown hK hP 6 xgTape rfl 11 (by decide) (hnw.use 269 n269 rfl) (fun _ h9 => h9) rfl dX1_readPart_37 ?_
      refine lv_topl (fun w9 ew9 => ?_)
      refine lv_lstore_n (lv' := [(3, .long w9), (2, .int (V 6 9)), (0, .ref (ad 1)), (1, .int p0)]) hx hb dX1_readPart_40 rfl hl (by decide) rfl (fun ls hl => ?_)
      refine lv_aload_n hx hb dX1_readPart_41 rfl (lv_at hl 2 rfl) ?_
      refine va_get (D := D) (ci := 1) (v := rfN ad 38 (V 1 1)) (fs := (xfReader ad V L Z)) (C := RX1) (T := TX1) (N := 9) hx hb hg inX1 hown hK hP 1 xgReader rfl 1 (by decide) (hg _ w305) (fun _ h9 => h9) rfl dX1_readPart_42 ?_
      refine g_topv (v := .ref (ad (38 + b))) (rfN_r (by first | omega | ((try (have i_cd := Imp.go cd (by omega))); omega))) ?_
      refine lv_iconst (v := 1) hx hb dX1_readPart_45 (by decide) ?_
      have r10 : Int32.toInt 1 = 1 := by decide
      refine gA_void (gA_runV (As := [.int 1]) (rest := []) (ci := 0) (q0 := (38 + b)) hx hb hml hown hg hP hD hK hS hA hnw hgk (x_emit l D ks H.size ad kk V L Z 1 (b) hMV (show b < 2 from by first | exact om_f940a4667dd6 hb2 | first | omega | ((try (have i_cd := Imp.go cd (by omega))); omega))) w971 w972 w973 w167 w974 rfl (xgBook hb2) hdV_yX0_emit ⟨(by show 0 + 1 ≤ 10 * (d9 + 1) + 6; (first | exact om_6d1dc8666254 y1 f8 | omega)), (by show 8 + (2 + 11) + (0) ≤ 300 * (d9 + 1) + 150; (first | exact om_fbeed7fffeb8 y1 f8 | omega))⟩ rfl hl.1 rfl (Nat.le_of_ble_eq_true rfl) dX1_readPart_46 ⟨Nat.le_of_ble_eq_true rfl, Nat.le_of_ble_eq_true rfl⟩) hP hD hK hS hA (fun u12 H locs w13 hP hD hK hS => ?_)
      obtain ⟨V15, L16⟩ := u12
      obtain ⟨hMV15, ajV15, axL16, fyV15, t14⟩ := w13
      have axL16 : L = L16 := Eq.symm axL16
      subst axL16
      have hP : va_P D vwCl (xw ad kk V15 L Z) H := hP
      have hD : va_D A (xw ad kk V15 L Z) := hD
      have hMV15 : rgd bX V15 := hMV15
      have ajV15 : agr [] [42, 48] V V15 := ajV15
      have agV15 : agr [(1, 3), (1, 6), (1, 8), (6, 8), (6, 9), (6, 10)] [42, 43, 44, 48] V V15 := agV.tr ajV15 (by decide) (by decide)
      have fwV15 : frX (xR b) V V15 := frX.tr fwV (fyV15)
      have t14 : emX V V15 b 1 := t14
      refine lv_aload_n hx hb dX1_readPart_49 rfl (lv_at hl 2 rfl) ?_
      refine va_get (D := D) (ci := 1) (v := .ref (ad 6)) (fs := (xfReader ad V15 L Z)) (C := RX1) (T := TX1) (N := 9) hx hb hg inX1 hown hK hP 1 xgReader rfl 0 (by decide) (hg _ w304) (fun _ h9 => h9) rfl dX1_readPart_50 ?_
      refine gA_void (gA_runV (As := []) (rest := []) (ci := 9) (q0 := 6) hx hb hml hown hg hP hD hK hS hA hnw hgk (x_next l D ks H.size ad kk V15 L Z  hMV15 ) w871 w852 w853 w157 w854 rfl xgTape hdV_yX9_next ⟨(by show 0 + 1 ≤ 10 * (d9 + 1) + 6; (first | exact om_6d1dc8666254 y1 f8 | omega)), (by show 8 + (1 + 11) + (0) ≤ 300 * (d9 + 1) + 150; (first | exact om_ff9d8e5082d0 y1 f8 | omega))⟩ rfl hl.1 rfl (Nat.le_of_ble_eq_true rfl) dX1_readPart_53 ⟨Nat.le_of_ble_eq_true rfl, Nat.le_of_ble_eq_true rfl⟩) hP hD hK hS hA (fun u18 H locs w19 hP hD hK hS => ?_)
      obtain ⟨V20, L21⟩ := u18
      obtain ⟨hMV20, ajV20, axL21⟩ := w19
      have alL21 : agL [6, 44] L L21 := agL.tr alL axL21 (by decide)
      have hP : va_P D vwCl (xw ad kk V20 L21 Z) H := hP
      have hD : va_D A (xw ad kk V20 L21 Z) := hD
      have hMV20 : rgd bX V20 := hMV20
      have ajV20 : agr [(6, 8), (6, 9), (6, 10)] [] V15 V20 := ajV20
      have agV20 : agr [(1, 3), (1, 6), (1, 8), (6, 8), (6, 9), (6, 10)] [42, 43, 44, 48] V V20 := agV15.tr ajV20 (by decide) (by decide)
      have fwV20 : frX (xR b) V V20 := frX.tr fwV15 (frX.ag ajV20 (by decide) (by decide))
      refine lv_iload_n hx hb dX1_readPart_56 rfl (lv_at hl 1 rfl) ?_
      by_cases q22 : (V 6 9) = 2
      · refine g_top (v := 2) q22 ?_
        have fq22 : ((V 6 9)).toInt = 2 := b_eq rfl (by decide) q22
        refine lv_lookup (x := 2) (off := 75) (tgt := 132) hx hb dX1_readPart_57 (by decide) (by decide) (by decide) ?_
        refine lv_aload_n hx hb dX1_readPart_132 rfl (lv_at hl 2 rfl) ?_
        refine lv_bipush (v := 10) hx hb dX1_readPart_133 (by decide) ?_
        refine lv_lload_n hx hb dX1_readPart_135 rfl (lv_at hl 0 rfl) ?_
        refine lv_l2i hx hb dX1_readPart_136 rfl ?_
        refine lv_topi (fun z23 ez23 => ?_)
        have r24 : Int32.toInt 10 = 10 := by decide
        have pq25 : (V20 1 1).toInt = ((V 1 1)).toInt := congrArg Int32.toInt ((ajV20 1 1 rfl).trans (ajV15 1 1 rfl))
        have cl26 : 0 ≤ (V 42 b).toInt ∧ (V 42 b).toInt ≤ 8200 := hMV 42 b
        have cd27 : CD V15 b := ⟨CB.e1 cd.1 t14 (by omega) (by decide), CO.e1 cd.2 t14 (by decide) (by omega)⟩
        have cd28 : CD V20 b := ⟨CB.ag cd27.1 (show agr [(6, 8), (6, 9), (6, 10)] [] V15 V20 from (agr.tr agr.rf ajV20 (by decide) (by decide))) (fun _ => rfl) (fun _ => rfl), CO.ag cd27.2 (show agr [(6, 8), (6, 9), (6, 10)] [] V15 V20 from (agr.tr agr.rf ajV20 (by decide) (by decide))) (fun _ => rfl) (fun _ => rfl)⟩
        refine gA_int (gA_runV (As := [.int 10, .int z23]) (rest := []) (ci := 1) (q0 := 1) hx hb hml hown hg hP hD hK hS hA hnw hgk (x_put l D ks H.size ad kk V20 L21 Z 10 z23 (b) hMV20 (by decide) (show b < 2 from by first | exact om_f940a4667dd6 hb2 | first | omega | ((try (have i_cd := Imp.go cd (by omega))); omega)) (show (V20 1 1).toInt = (b : Int) from by first | exact om_adf531c77a0d rbk pq25 | first | omega | ((try (have i_cd := Imp.go cd (by omega))); omega)) cd28 (Imp.mk (fun hp => absurd hp (by decide))) (Imp.mk (fun hp => absurd hp (by decide))) (Imp.mk (fun hp => have hp : (Int32.toInt 10) = 13 ∨ (Int32.toInt 10) = 14 := hp; (show z23.toInt = 0 from by first | omega | ((try (have i_cd := Imp.go cd (by omega))); omega))))) w975 w977 w26 w162 w978 rfl xgReader hdV_yX1_put ⟨(by show 1 + 1 ≤ 10 * (d9 + 1) + 6; (first | exact om_e3c7341aa676 y1 f8 | omega)), (by show 8 + (3 + 11) + (21) ≤ 300 * (d9 + 1) + 150; (first | exact om_7d30c2a65dcf y1 f8 | omega))⟩ rfl hl.1 rfl (Nat.le_of_ble_eq_true rfl) dX1_readPart_137 ⟨Nat.le_of_ble_eq_true rfl, Nat.le_of_ble_eq_true rfl⟩) hP hD hK hS hA (fun z29 u30 H locs w31 hP hD hK hS => ?_)
        obtain ⟨V35, L36⟩ := u30
        obtain ⟨hMV35, ajV35, axL36, fyV35, rgz29, t32, t33, t34⟩ := w31
        have axL36 : L21 = L36 := Eq.symm axL36
        subst axL36
        have hP : va_P D vwCl (xw ad kk V35 L21 Z) H := hP
        have hD : va_D A (xw ad kk V35 L21 Z) := hD
        have hMV35 : rgd bX V35 := hMV35
        have ajV35 : agr [] [42, 48] V20 V35 := ajV35
        have agV35 : agr [(1, 3), (1, 6), (1, 8), (6, 8), (6, 9), (6, 10)] [42, 43, 44, 48] V V35 := agV20.tr ajV35 (by decide) (by decide)
        have fwV35 : frX (xR b) V V35 := frX.tr fwV20 (fyV35)
        have rgz29 : 1 ≤ z29.toInt ∧ z29.toInt ≤ 1 := rgz29
        have t32 : Imp ((Int32.toInt 10) = 13 ∨ (Int32.toInt 10) = 14) (jp V35 b (V20 42 b).toInt.toNat) := t32
        have t33 : CD V35 b := t33
        have t34 : px V20 V35 b := t34
        have pq37 : (V35 1 3).toInt = ((V 1 3)).toInt := congrArg Int32.toInt ((ajV35 1 3 rfl).trans ((ajV20 1 3 rfl).trans (ajV15 1 3 rfl)))
        have px38 : px V V15 b := px.tr (px.rf : px V V b) ⟨emX.p0x t14, ajV15 43 _ rfl⟩
        have px39 : px V V20 b := px.tr px38 (px.ag (show agr [(6, 8), (6, 9), (6, 10)] [] V15 V20 from (agr.tr agr.rf ajV20 (by decide) (by decide))) (fun _ => rfl) (fun _ => rfl) (fun _ => rfl))
        have px40 : px V V35 b := px.tr px39 t34
        exact W.zret (v := z29) hx hb hr (nb_ok (by omega)) (fun t ht hW => ⟨⟨z29, (V35, L21), rfl, ⟨hMV35, agV35, alL21, fwV35, (show 0 ≤ z29.toInt ∧ z29.toInt ≤ 1 from by first | exact om_1e6c034e3eac rgz29.1 rgz29.2 | first | omega | ((try (have i_cd := Imp.go cd (by omega))); omega)), t33, px40, (Imp.mk (fun hp => have hp : z29.toInt = 0 := hp; (show 1 ≤ (V35 1 3).toInt from by first | omega | ((try (have i_cd := Imp.go cd (by omega))); omega))))⟩, by rw [ht]; exact hP, va_K.moved hW.alike hK, hD⟩, hS.F ht⟩) hS.2.2 dX1_readPart_140
      by_cases q41 : (V 6 9) = 40
      · refine g_top (v := 40) q41 ?_
        have fq41 : ((V 6 9)).toInt = 40 := b_eq rfl (by decide) q41
        refine lv_lookup (x := 40) (off := 90) (tgt := 147) hx hb dX1_readPart_57 (by decide) (by decide) (by decide) ?_
        refine lv_aload_n hx hb dX1_readPart_147 rfl (lv_at hl 2 rfl) ?_
        refine lv_iload_n hx hb dX1_readPart_148 rfl (lv_at hl 3 rfl) ?_
        refine lv_iconst (v := 1) hx hb dX1_readPart_149 (by decide) ?_
        refine lv_iadd hx hb dX1_readPart_150 ?_
        refine lv_topi (fun z42 ez42 => ?_)
        have hz42 : z42.toInt = p0.toInt + 1 := i_add ez42 rfl (by decide) (by (first | exact om_5ea63ae345c9 rg_p0.1 f8 | omega))
        have pq43 : (V20 1 1).toInt = ((V 1 1)).toInt := congrArg Int32.toInt ((ajV20 1 1 rfl).trans (ajV15 1 1 rfl))
        have cl44 : 0 ≤ (V 42 b).toInt ∧ (V 42 b).toInt ≤ 8200 := hMV 42 b
        have cd45 : CD V15 b := ⟨CB.e1 cd.1 t14 (by omega) (by decide), CO.e1 cd.2 t14 (by decide) (by omega)⟩
        have cd46 : CD V20 b := ⟨CB.ag cd45.1 (show agr [(6, 8), (6, 9), (6, 10)] [] V15 V20 from (agr.tr agr.rf ajV20 (by decide) (by decide))) (fun _ => rfl) (fun _ => rfl), CO.ag cd45.2 (show agr [(6, 8), (6, 9), (6, 10)] [] V15 V20 from (agr.tr agr.rf ajV20 (by decide) (by decide))) (fun _ => rfl) (fun _ => rfl)⟩
        refine gA_int (gA_runV (As := [.int z42]) (rest := []) (ci := 1) (q0 := 1) hx hb hml hown hg hP hD hK hS hA hnw hgk ((hk_x_readExpression d9 rfl) H.size ad kk V20 L21 Z z42 (b) hMV20 (by first | omega | ((try (have i_cd := Imp.go cd (by omega))); omega)) (show b < 2 from by first | exact om_f940a4667dd6 hb2 | first | omega | ((try (have i_cd := Imp.go cd (by omega))); omega)) (show (V20 1 1).toInt = (b : Int) from by first | exact om_adf531c77a0d rbk pq43 | first | omega | ((try (have i_cd := Imp.go cd (by omega))); omega)) cd46 (show 8 - z42.toInt ≤ ((d9 : Nat) : Int) from by first | exact om_9ba137a38c23 y1 hz42 | first | omega | ((try (have i_cd := Imp.go cd (by omega))); omega))) w951 w953 w21 w162 w954 rfl xgReader hdV_yX1_readExpression ⟨(by show 10 * d9 + 9 + 1 ≤ 10 * (d9 + 1) + 6; (first | exact om_95337c57e59e | omega)), (by show 8 + (3 + 11) + (300 * d9 + 240) ≤ 300 * (d9 + 1) + 150; (first | exact om_07f7d67a3f8e | omega))⟩ rfl hl.1 rfl (Nat.le_of_ble_eq_true rfl) dX1_readPart_151 ⟨Nat.le_of_ble_eq_true rfl, Nat.le_of_ble_eq_true rfl⟩) hP hD hK hS hA (fun z47 u48 H locs w49 hP hD hK hS => ?_)
        obtain ⟨V53, L54⟩ := u48
        obtain ⟨hMV53, ajV53, axL54, fyV53, rgz47, t50, t51, t52⟩ := w49
        have alL54 : agL [6, 44] L L54 := agL.tr alL21 axL54 (by decide)
        have hP : va_P D vwCl (xw ad kk V53 L54 Z) H := hP
        have hD : va_D A (xw ad kk V53 L54 Z) := hD
        have hMV53 : rgd bX V53 := hMV53
        have ajV53 : agr [(1, 3), (1, 6), (1, 8), (6, 8), (6, 9), (6, 10)] [42, 43, 44, 48] V20 V53 := ajV53
        have agV53 : agr [(1, 3), (1, 6), (1, 8), (6, 8), (6, 9), (6, 10)] [42, 43, 44, 48] V V53 := agV20.tr ajV53 (by decide) (by decide)
        have fwV53 : frX (xR b) V V53 := frX.tr fwV20 (fyV53)
        have rgz47 : 0 ≤ z47.toInt ∧ z47.toInt ≤ 1 := rgz47
        have t50 : CD V53 b := t50
        have t51 : px V20 V53 b := t51
        have t52 : Imp (z47.toInt = 0) (1 ≤ (V53 1 3).toInt) := t52
        refine lv_if_eq (tgt := 170) hx hb dX1_readPart_154 (by decide) (fun c55 => ?_) (fun c55 => ?_)
        · skip
          have f56 : z47.toInt = 0 := b_eq rfl (by decide) c55
          refine lv_iconst (v := 0) hx hb dX1_readPart_170 (by decide) ?_
          have px57 : px V V15 b := px.tr (px.rf : px V V b) ⟨emX.p0x t14, ajV15 43 _ rfl⟩
          have px58 : px V V20 b := px.tr px57 (px.ag (show agr [(6, 8), (6, 9), (6, 10)] [] V15 V20 from (agr.tr agr.rf ajV20 (by decide) (by decide))) (fun _ => rfl) (fun _ => rfl) (fun _ => rfl))
          have px59 : px V V53 b := px.tr px58 t51
          exact W.zret (v := 0) hx hb hr rfl (fun t ht hW => ⟨⟨0, (V53, L54), rfl, ⟨hMV53, agV53, alL54, fwV53, (by decide), t50, px59, (Imp.mk (fun _ => (show 1 ≤ (V53 1 3).toInt from by first | exact om_f8d8213eda45 ((Imp.go t52 (f56))) | first | omega | ((try (have i_t52 := Imp.go t52 (by omega))); (try (have i_cd := Imp.go cd (by omega))); (try (have i_cd := Imp.go cd (by omega))); (try (have i_t52 := Imp.go t52 (by omega))); omega))))⟩, by rw [ht]; exact hP, va_K.moved hW.alike hK, hD⟩, hS.F ht⟩) hS.2.2 dX1_readPart_171
        · skip
          have f60 : z47.toInt ≠ 0 := b_neq rfl (by decide) c55
          refine lv_aload_n hx hb dX1_readPart_157 rfl (lv_at hl 2 rfl) ?_
          refine lv_bipush (v := 41) hx hb dX1_readPart_158 (by decide) ?_
          have r61 : Int32.toInt 41 = 41 := by decide
          refine gA_int (gA_runV (As := [.int 41]) (rest := []) (ci := 1) (q0 := 1) hx hb hml hown hg hP hD hK hS hA hnw hgk (x_take l D ks H.size ad kk V53 L54 Z 41 hMV53 ) w893 w895 w10 w162 w896 rfl xgReader hdV_yX1_take ⟨(by show 1 + 1 ≤ 10 * (d9 + 1) + 6; (first | exact om_e3c7341aa676 y1 f8 | omega)), (by show 8 + (2 + 11) + (21) ≤ 300 * (d9 + 1) + 150; (first | exact om_61eeeab683e9 y1 f8 | omega))⟩ rfl hl.1 rfl (Nat.le_of_ble_eq_true rfl) dX1_readPart_160 ⟨Nat.le_of_ble_eq_true rfl, Nat.le_of_ble_eq_true rfl⟩) hP hD hK hS hA (fun z62 u63 H locs w64 hP hD hK hS => ?_)
          obtain ⟨V66, L67⟩ := u63
          obtain ⟨hMV66, ajV66, axL67, rgz62, t65⟩ := w64
          have alL67 : agL [6, 44] L L67 := agL.tr alL54 axL67 (by decide)
          have hP : va_P D vwCl (xw ad kk V66 L67 Z) H := hP
          have hD : va_D A (xw ad kk V66 L67 Z) := hD
          have hMV66 : rgd bX V66 := hMV66
          have ajV66 : agr [(1, 3), (6, 8), (6, 9), (6, 10)] [] V53 V66 := ajV66
          have agV66 : agr [(1, 3), (1, 6), (1, 8), (6, 8), (6, 9), (6, 10)] [42, 43, 44, 48] V V66 := agV53.tr ajV66 (by decide) (by decide)
          have fwV66 : frX (xR b) V V66 := frX.tr fwV53 (frX.ag ajV66 (by decide) (by decide))
          have rgz62 : 0 ≤ z62.toInt ∧ z62.toInt ≤ 1 := rgz62
          have t65 : Imp (z62.toInt = 0) (1 ≤ (V66 1 3).toInt) := t65
          refine lv_if_eq (tgt := 170) hx hb dX1_readPart_163 (by decide) (fun c68 => ?_) (fun c68 => ?_)
          · skip
            have f69 : z62.toInt = 0 := b_eq rfl (by decide) c68
            refine lv_iconst (v := 0) hx hb dX1_readPart_170 (by decide) ?_
            have cd70 : CD V66 b := ⟨CB.ag t50.1 (show agr [(1, 3), (6, 8), (6, 9), (6, 10)] [] V53 V66 from (agr.tr agr.rf ajV66 (by decide) (by decide))) (fun _ => rfl) (fun _ => rfl), CO.ag t50.2 (show agr [(1, 3), (6, 8), (6, 9), (6, 10)] [] V53 V66 from (agr.tr agr.rf ajV66 (by decide) (by decide))) (fun _ => rfl) (fun _ => rfl)⟩
            have px71 : px V V15 b := px.tr (px.rf : px V V b) ⟨emX.p0x t14, ajV15 43 _ rfl⟩
            have px72 : px V V20 b := px.tr px71 (px.ag (show agr [(6, 8), (6, 9), (6, 10)] [] V15 V20 from (agr.tr agr.rf ajV20 (by decide) (by decide))) (fun _ => rfl) (fun _ => rfl) (fun _ => rfl))
            have px73 : px V V53 b := px.tr px72 t51
            have px74 : px V V66 b := px.tr px73 (px.ag (show agr [(1, 3), (6, 8), (6, 9), (6, 10)] [] V53 V66 from (agr.tr agr.rf ajV66 (by decide) (by decide))) (fun _ => rfl) (fun _ => rfl) (fun _ => rfl))
            exact W.zret (v := 0) hx hb hr rfl (fun t ht hW => ⟨⟨0, (V66, L67), rfl, ⟨hMV66, agV66, alL67, fwV66, (by decide), cd70, px74, (Imp.mk (fun _ => (show 1 ≤ (V66 1 3).toInt from by first | exact om_f8d8213eda45 ((Imp.go t65 (f69))) | first | omega | ((try (have i_t65 := Imp.go t65 (by omega))); (try (have i_t52 := Imp.go t52 (by omega))); (try (have i_cd := Imp.go cd (by omega))); (try (have i_cd := Imp.go cd (by omega))); (try (have i_t52 := Imp.go t52 (by omega))); (try (have i_t65 := Imp.go t65 (by omega))); omega))))⟩, by rw [ht]; exact hP, va_K.moved hW.alike hK, hD⟩, hS.F ht⟩) hS.2.2 dX1_readPart_171
          · skip
            have f75 : z62.toInt ≠ 0 := b_neq rfl (by decide) c68
            refine lv_iconst (v := 1) hx hb dX1_readPart_166 (by decide) ?_
            refine lv_goto (tgt := 171) hx hb dX1_readPart_167 (by decide) ?_
            have cd76 : CD V66 b := ⟨CB.ag t50.1 (show agr [(1, 3), (6, 8), (6, 9), (6, 10)] [] V53 V66 from (agr.tr agr.rf ajV66 (by decide) (by decide))) (fun _ => rfl) (fun _ => rfl), CO.ag t50.2 (show agr [(1, 3), (6, 8), (6, 9), (6, 10)] [] V53 V66 from (agr.tr agr.rf ajV66 (by decide) (by decide))) (fun _ => rfl) (fun _ => rfl)⟩
            have px77 : px V V15 b := px.tr (px.rf : px V V b) ⟨emX.p0x t14, ajV15 43 _ rfl⟩
            have px78 : px V V20 b := px.tr px77 (px.ag (show agr [(6, 8), (6, 9), (6, 10)] [] V15 V20 from (agr.tr agr.rf ajV20 (by decide) (by decide))) (fun _ => rfl) (fun _ => rfl) (fun _ => rfl))
            have px79 : px V V53 b := px.tr px78 t51
            have px80 : px V V66 b := px.tr px79 (px.ag (show agr [(1, 3), (6, 8), (6, 9), (6, 10)] [] V53 V66 from (agr.tr agr.rf ajV66 (by decide) (by decide))) (fun _ => rfl) (fun _ => rfl) (fun _ => rfl))
            exact W.zret (v := 1) hx hb hr rfl (fun t ht hW => ⟨⟨1, (V66, L67), rfl, ⟨hMV66, agV66, alL67, fwV66, (by decide), cd76, px80, (Imp.mk (fun hp => absurd hp (by decide)))⟩, by rw [ht]; exact hP, va_K.moved hW.alike hK, hD⟩, hS.F ht⟩) hS.2.2 dX1_readPart_171
      by_cases q81 : (V 6 9) = 45
      · refine g_top (v := 45) q81 ?_
        have fq81 : ((V 6 9)).toInt = 45 := b_eq rfl (by decide) q81
        refine lv_lookup (x := 45) (off := 115) (tgt := 172) hx hb dX1_readPart_57 (by decide) (by decide) (by decide) ?_
        refine lv_aload_n hx hb dX1_readPart_172 rfl (lv_at hl 2 rfl) ?_
        refine lv_iload_n hx hb dX1_readPart_173 rfl (lv_at hl 3 rfl) ?_
        refine lv_iconst (v := 1) hx hb dX1_readPart_174 (by decide) ?_
        refine lv_iadd hx hb dX1_readPart_175 ?_
        refine lv_topi (fun z82 ez82 => ?_)
        have hz82 : z82.toInt = p0.toInt + 1 := i_add ez82 rfl (by decide) (by (first | exact om_5ea63ae345c9 rg_p0.1 f8 | omega))
        have pq83 : (V20 1 1).toInt = ((V 1 1)).toInt := congrArg Int32.toInt ((ajV20 1 1 rfl).trans (ajV15 1 1 rfl))
        have cl84 : 0 ≤ (V 42 b).toInt ∧ (V 42 b).toInt ≤ 8200 := hMV 42 b
        have cd85 : CD V15 b := ⟨CB.e1 cd.1 t14 (by omega) (by decide), CO.e1 cd.2 t14 (by decide) (by omega)⟩
        have cd86 : CD V20 b := ⟨CB.ag cd85.1 (show agr [(6, 8), (6, 9), (6, 10)] [] V15 V20 from (agr.tr agr.rf ajV20 (by decide) (by decide))) (fun _ => rfl) (fun _ => rfl), CO.ag cd85.2 (show agr [(6, 8), (6, 9), (6, 10)] [] V15 V20 from (agr.tr agr.rf ajV20 (by decide) (by decide))) (fun _ => rfl) (fun _ => rfl)⟩
        refine gA_int (gA_runV (As := [.int z82]) (rest := []) (ci := 1) (q0 := 1) hx hb hml hown hg hP hD hK hS hA hnw hgk ((hk_x_readPart d9 rfl) H.size ad kk V20 L21 Z z82 (b) hMV20 (by first | omega | ((try (have i_cd := Imp.go cd (by omega))); omega)) (show b < 2 from by first | exact om_f940a4667dd6 hb2 | first | omega | ((try (have i_cd := Imp.go cd (by omega))); omega)) (show (V20 1 1).toInt = (b : Int) from by first | exact om_adf531c77a0d rbk pq83 | first | omega | ((try (have i_cd := Imp.go cd (by omega))); omega)) cd86 (show 8 - z82.toInt ≤ ((d9 : Nat) : Int) from by first | exact om_9ba137a38c23 y1 hz82 | first | omega | ((try (have i_cd := Imp.go cd (by omega))); omega))) w963 w965 w24 w162 w966 rfl xgReader hdV_yX1_readPart ⟨(by show 10 * d9 + 6 + 1 ≤ 10 * (d9 + 1) + 6; (first | exact om_621f2e85265a | omega)), (by show 8 + (5 + 11) + (300 * d9 + 150) ≤ 300 * (d9 + 1) + 150; (first | exact om_2358b3635702 | omega))⟩ rfl hl.1 rfl (Nat.le_of_ble_eq_true rfl) dX1_readPart_176 ⟨Nat.le_of_ble_eq_true rfl, Nat.le_of_ble_eq_true rfl⟩) hP hD hK hS hA (fun z87 u88 H locs w89 hP hD hK hS => ?_)
        obtain ⟨V93, L94⟩ := u88
        obtain ⟨hMV93, ajV93, axL94, fyV93, rgz87, t90, t91, t92⟩ := w89
        have alL94 : agL [6, 44] L L94 := agL.tr alL21 axL94 (by decide)
        have hP : va_P D vwCl (xw ad kk V93 L94 Z) H := hP
        have hD : va_D A (xw ad kk V93 L94 Z) := hD
        have hMV93 : rgd bX V93 := hMV93
        have ajV93 : agr [(1, 3), (1, 6), (1, 8), (6, 8), (6, 9), (6, 10)] [42, 43, 44, 48] V20 V93 := ajV93
        have agV93 : agr [(1, 3), (1, 6), (1, 8), (6, 8), (6, 9), (6, 10)] [42, 43, 44, 48] V V93 := agV20.tr ajV93 (by decide) (by decide)
        have fwV93 : frX (xR b) V V93 := frX.tr fwV20 (fyV93)
        have rgz87 : 0 ≤ z87.toInt ∧ z87.toInt ≤ 1 := rgz87
        have t90 : CD V93 b := t90
        have t91 : px V20 V93 b := t91
        have t92 : Imp (z87.toInt = 0) (1 ≤ (V93 1 3).toInt) := t92
        refine lv_if_eq (tgt := 194) hx hb dX1_readPart_179 (by decide) (fun c95 => ?_) (fun c95 => ?_)
        · skip
          have f96 : z87.toInt = 0 := b_eq rfl (by decide) c95
          refine lv_iconst (v := 0) hx hb dX1_readPart_194 (by decide) ?_
          have px97 : px V V15 b := px.tr (px.rf : px V V b) ⟨emX.p0x t14, ajV15 43 _ rfl⟩
          have px98 : px V V20 b := px.tr px97 (px.ag (show agr [(6, 8), (6, 9), (6, 10)] [] V15 V20 from (agr.tr agr.rf ajV20 (by decide) (by decide))) (fun _ => rfl) (fun _ => rfl) (fun _ => rfl))
          have px99 : px V V93 b := px.tr px98 t91
          exact W.zret (v := 0) hx hb hr rfl (fun t ht hW => ⟨⟨0, (V93, L94), rfl, ⟨hMV93, agV93, alL94, fwV93, (by decide), t90, px99, (Imp.mk (fun _ => (show 1 ≤ (V93 1 3).toInt from by first | exact om_f8d8213eda45 ((Imp.go t92 (f96))) | first | omega | ((try (have i_t92 := Imp.go t92 (by omega))); (try (have i_cd := Imp.go cd (by omega))); (try (have i_cd := Imp.go cd (by omega))); (try (have i_t92 := Imp.go t92 (by omega))); omega))))⟩, by rw [ht]; exact hP, va_K.moved hW.alike hK, hD⟩, hS.F ht⟩) hS.2.2 dX1_readPart_195
        · skip
          have f100 : z87.toInt ≠ 0 := b_neq rfl (by decide) c95
          refine lv_aload_n hx hb dX1_readPart_182 rfl (lv_at hl 2 rfl) ?_
          refine lv_iconst (v := 3) hx hb dX1_readPart_183 (by decide) ?_
          have r101 : Int32.toInt 3 = 3 := by decide
          have pq102 : (V93 1 1).toInt = ((V 1 1)).toInt := congrArg Int32.toInt ((ajV93 1 1 rfl).trans ((ajV20 1 1 rfl).trans (ajV15 1 1 rfl)))
          refine gA_int (gA_runV (As := [.int 3]) (rest := []) (ci := 1) (q0 := 1) hx hb hml hown hg hP hD hK hS hA hnw hgk (x_putAlone l D ks H.size ad kk V93 L94 Z 3 (b) hMV93 (by decide) (show b < 2 from by first | exact om_f940a4667dd6 hb2 | first | omega | ((try (have i_t92 := Imp.go t92 (by omega))); (try (have i_cd := Imp.go cd (by omega))); (try (have i_cd := Imp.go cd (by omega))); (try (have i_t92 := Imp.go t92 (by omega))); omega)) (show (V93 1 1).toInt = (b : Int) from by first | exact om_adf531c77a0d rbk pq102 | first | omega | ((try (have i_t92 := Imp.go t92 (by omega))); (try (have i_cd := Imp.go cd (by omega))); (try (have i_cd := Imp.go cd (by omega))); (try (have i_t92 := Imp.go t92 (by omega))); omega)) t90) w979 w981 w27 w162 w982 rfl xgReader hdV_yX1_putAlone ⟨(by show 1 + 1 ≤ 10 * (d9 + 1) + 6; (first | exact om_e3c7341aa676 y1 f8 | omega)), (by show 8 + (2 + 11) + (21) ≤ 300 * (d9 + 1) + 150; (first | exact om_61eeeab683e9 y1 f8 | omega))⟩ rfl hl.1 rfl (Nat.le_of_ble_eq_true rfl) dX1_readPart_184 ⟨Nat.le_of_ble_eq_true rfl, Nat.le_of_ble_eq_true rfl⟩) hP hD hK hS hA (fun z103 u104 H locs w105 hP hD hK hS => ?_)
          obtain ⟨V108, L109⟩ := u104
          obtain ⟨hMV108, ajV108, axL109, fyV108, rgz103, t106, t107⟩ := w105
          have axL109 : L94 = L109 := Eq.symm axL109
          subst axL109
          have hP : va_P D vwCl (xw ad kk V108 L94 Z) H := hP
          have hD : va_D A (xw ad kk V108 L94 Z) := hD
          have hMV108 : rgd bX V108 := hMV108
          have ajV108 : agr [] [42, 48] V93 V108 := ajV108
          have agV108 : agr [(1, 3), (1, 6), (1, 8), (6, 8), (6, 9), (6, 10)] [42, 43, 44, 48] V V108 := agV93.tr ajV108 (by decide) (by decide)
          have fwV108 : frX (xR b) V V108 := frX.tr fwV93 (fyV108)
          have rgz103 : 1 ≤ z103.toInt ∧ z103.toInt ≤ 1 := rgz103
          have t106 : CD V108 b := t106
          have t107 : px V93 V108 b := t107
          refine lv_if_eq (tgt := 194) hx hb dX1_readPart_187 (by decide) (fun c110 => ?_) (fun c110 => ?_)
          · skip
            have f111 : z103.toInt = 0 := b_eq rfl (by decide) c110
            exfalso; first | exact om_09885ab343b9 rgz103.1 f111 | first | omega | ((try (have i_t92 := Imp.go t92 (by omega))); (try (have i_cd := Imp.go cd (by omega))); (try (have i_cd := Imp.go cd (by omega))); (try (have i_t92 := Imp.go t92 (by omega))); omega)
          · skip
            have f112 : z103.toInt ≠ 0 := b_neq rfl (by decide) c110
            refine lv_iconst (v := 1) hx hb dX1_readPart_190 (by decide) ?_
            refine lv_goto (tgt := 195) hx hb dX1_readPart_191 (by decide) ?_
            have pq113 : (V108 1 3).toInt = ((V93 1 3)).toInt := congrArg Int32.toInt (ajV108 1 3 rfl)
            have px114 : px V V15 b := px.tr (px.rf : px V V b) ⟨emX.p0x t14, ajV15 43 _ rfl⟩
            have px115 : px V V20 b := px.tr px114 (px.ag (show agr [(6, 8), (6, 9), (6, 10)] [] V15 V20 from (agr.tr agr.rf ajV20 (by decide) (by decide))) (fun _ => rfl) (fun _ => rfl) (fun _ => rfl))
            have px116 : px V V93 b := px.tr px115 t91
            have px117 : px V V108 b := px.tr px116 t107
            exact W.zret (v := 1) hx hb hr rfl (fun t ht hW => ⟨⟨1, (V108, L94), rfl, ⟨hMV108, agV108, alL94, fwV108, (by decide), t106, px117, (Imp.mk (fun hp => absurd hp (by decide)))⟩, by rw [ht]; exact hP, va_K.moved hW.alike hK, hD⟩, hS.F ht⟩) hS.2.2 dX1_readPart_195
      by_cases q118 : (V 6 9) = 130
      · refine g_top (v := 130) q118 ?_
        have fq118 : ((V 6 9)).toInt = 130 := b_eq rfl (by decide) q118
        refine lv_lookup (x := 130) (off := 168) (tgt := 225) hx hb dX1_readPart_57 (by decide) (by decide) (by decide) ?_
        refine lv_aload_n hx hb dX1_readPart_225 rfl (lv_at hl 2 rfl) ?_
        have pq119 : (V20 1 1).toInt = ((V 1 1)).toInt := congrArg Int32.toInt ((ajV20 1 1 rfl).trans (ajV15 1 1 rfl))
        refine gA_int (gA_runV (As := []) (rest := []) (ci := 1) (q0 := 1) hx hb hml hown hg hP hD hK hS hA hnw hgk (x_takeSetting l D ks H.size ad kk V20 L21 Z (b) hMV20 (show b < 2 from by first | exact om_f940a4667dd6 hb2 | first | omega | ((try (have i_cd := Imp.go cd (by omega))); omega)) (show (V20 1 1).toInt = (b : Int) from by first | exact om_adf531c77a0d rbk pq119 | first | omega | ((try (have i_cd := Imp.go cd (by omega))); omega))) w931 w933 w17 w162 w934 rfl xgReader hdV_yX1_takeSetting ⟨(by show 1 + 1 ≤ 10 * (d9 + 1) + 6; (first | exact om_e3c7341aa676 y1 f8 | omega)), (by show 8 + (1 + 11) + (23) ≤ 300 * (d9 + 1) + 150; (first | exact om_1217c2952df0 y1 f8 | omega))⟩ rfl hl.1 rfl (Nat.le_of_ble_eq_true rfl) dX1_readPart_226 ⟨Nat.le_of_ble_eq_true rfl, Nat.le_of_ble_eq_true rfl⟩) hP hD hK hS hA (fun z120 u121 H locs w122 hP hD hK hS => ?_)
        obtain ⟨V125, L126⟩ := u121
        obtain ⟨hMV125, ajV125, axL126, rgz120, t123, t124⟩ := w122
        have alL126 : agL [6, 44] L L126 := agL.tr alL21 axL126 (by decide)
        have hP : va_P D vwCl (xw ad kk V125 L126 Z) H := hP
        have hD : va_D A (xw ad kk V125 L126 Z) := hD
        have hMV125 : rgd bX V125 := hMV125
        have ajV125 : agr [(1, 3), (1, 6), (6, 8), (6, 9), (6, 10)] [] V20 V125 := ajV125
        have agV125 : agr [(1, 3), (1, 6), (1, 8), (6, 8), (6, 9), (6, 10)] [42, 43, 44, 48] V V125 := agV20.tr ajV125 (by decide) (by decide)
        have fwV125 : frX (xR b) V V125 := frX.tr fwV20 (frX.ag ajV125 (by decide) (by decide))
        have rgz120 : 0 ≤ z120.toInt ∧ z120.toInt ≤ 1 := rgz120
        have t123 : Imp (z120.toInt = 1) (0 ≤ (V125 1 6).toInt ∧ (V125 1 6).toInt ≤ 11) := t123
        have t124 : Imp (z120.toInt = 0) (1 ≤ (V125 1 3).toInt) := t124
        have r127 : (-1) ≤ ((V125 1 6)).toInt ∧ ((V125 1 6)).toInt ≤ 23 := hMV125 1 6
        refine lv_if_eq (tgt := 249) hx hb dX1_readPart_229 (by decide) (fun c128 => ?_) (fun c128 => ?_)
        · skip
          have f129 : z120.toInt = 0 := b_eq rfl (by decide) c128
          refine lv_iconst (v := 0) hx hb dX1_readPart_249 (by decide) ?_
          have cl130 : 0 ≤ (V 42 b).toInt ∧ (V 42 b).toInt ≤ 8200 := hMV 42 b
          have cd131 : CD V15 b := ⟨CB.e1 cd.1 t14 (by omega) (by decide), CO.e1 cd.2 t14 (by decide) (by omega)⟩
          have cd132 : CD V125 b := ⟨CB.ag cd131.1 (show agr [(1, 3), (1, 6), (6, 8), (6, 9), (6, 10)] [] V15 V125 from (agr.tr (agr.tr agr.rf ajV20 (by decide) (by decide)) ajV125 (by decide) (by decide))) (fun _ => rfl) (fun _ => rfl), CO.ag cd131.2 (show agr [(1, 3), (1, 6), (6, 8), (6, 9), (6, 10)] [] V15 V125 from (agr.tr (agr.tr agr.rf ajV20 (by decide) (by decide)) ajV125 (by decide) (by decide))) (fun _ => rfl) (fun _ => rfl)⟩
          have px133 : px V V15 b := px.tr (px.rf : px V V b) ⟨emX.p0x t14, ajV15 43 _ rfl⟩
          have px134 : px V V125 b := px.tr px133 (px.ag (show agr [(1, 3), (1, 6), (6, 8), (6, 9), (6, 10)] [] V15 V125 from (agr.tr (agr.tr agr.rf ajV20 (by decide) (by decide)) ajV125 (by decide) (by decide))) (fun _ => rfl) (fun _ => rfl) (fun _ => rfl))
          exact W.zret (v := 0) hx hb hr rfl (fun t ht hW => ⟨⟨0, (V125, L126), rfl, ⟨hMV125, agV125, alL126, fwV125, (by decide), cd132, px134, (Imp.mk (fun _ => (show 1 ≤ (V125 1 3).toInt from by first | exact om_f8d8213eda45 ((Imp.go t124 (f129))) | first | omega | ((try (have i_t124 := Imp.go t124 (by omega))); (try (have i_t123 := Imp.go t123 (by omega))); (try (have i_cd := Imp.go cd (by omega))); (try (have i_cd := Imp.go cd (by omega))); (try (have i_t123 := Imp.go t123 (by omega))); (try (have i_t124 := Imp.go t124 (by omega))); omega))))⟩, by rw [ht]; exact hP, va_K.moved hW.alike hK, hD⟩, hS.F ht⟩) hS.2.2 dX1_readPart_250
        · skip
          have f135 : z120.toInt ≠ 0 := b_neq rfl (by decide) c128
          refine lv_aload_n hx hb dX1_readPart_232 rfl (lv_at hl 2 rfl) ?_
          refine lv_bipush (v := 11) hx hb dX1_readPart_233 (by decide) ?_
          refine lv_aload_n hx hb dX1_readPart_235 rfl (lv_at hl 2 rfl) ?_
          refine va_get (D := D) (ci := 1) (v := .int (V125 1 6)) (fs := (xfReader ad V125 L126 Z)) (C := RX1) (T := TX1) (N := 9) hx hb hg inX1 hown hK hP 1 xgReader rfl 6 (by decide) (hg _ w310) (fun _ h9 => h9) rfl dX1_readPart_236 ?_
          have r136 : Int32.toInt 11 = 11 := by decide
          have pq137 : (V125 1 1).toInt = ((V 1 1)).toInt := congrArg Int32.toInt ((ajV125 1 1 rfl).trans ((ajV20 1 1 rfl).trans (ajV15 1 1 rfl)))
          have cl138 : 0 ≤ (V 42 b).toInt ∧ (V 42 b).toInt ≤ 8200 := hMV 42 b
          have cd139 : CD V15 b := ⟨CB.e1 cd.1 t14 (by omega) (by decide), CO.e1 cd.2 t14 (by decide) (by omega)⟩
          have cd140 : CD V125 b := ⟨CB.ag cd139.1 (show agr [(1, 3), (1, 6), (6, 8), (6, 9), (6, 10)] [] V15 V125 from (agr.tr (agr.tr agr.rf ajV20 (by decide) (by decide)) ajV125 (by decide) (by decide))) (fun _ => rfl) (fun _ => rfl), CO.ag cd139.2 (show agr [(1, 3), (1, 6), (6, 8), (6, 9), (6, 10)] [] V15 V125 from (agr.tr (agr.tr agr.rf ajV20 (by decide) (by decide)) ajV125 (by decide) (by decide))) (fun _ => rfl) (fun _ => rfl)⟩
          refine gA_int (gA_runV (As := [.int 11, .int (V125 1 6)]) (rest := []) (ci := 1) (q0 := 1) hx hb hml hown hg hP hD hK hS hA hnw hgk (x_put l D ks H.size ad kk V125 L126 Z 11 (V125 1 6) (b) hMV125 (by decide) (show b < 2 from by first | exact om_f940a4667dd6 hb2 | first | omega | ((try (have i_t124 := Imp.go t124 (by omega))); (try (have i_t123 := Imp.go t123 (by omega))); (try (have i_cd := Imp.go cd (by omega))); (try (have i_cd := Imp.go cd (by omega))); (try (have i_t123 := Imp.go t123 (by omega))); (try (have i_t124 := Imp.go t124 (by omega))); omega)) (show (V125 1 1).toInt = (b : Int) from by first | exact om_adf531c77a0d rbk pq137 | first | omega | ((try (have i_t124 := Imp.go t124 (by omega))); (try (have i_t123 := Imp.go t123 (by omega))); (try (have i_cd := Imp.go cd (by omega))); (try (have i_cd := Imp.go cd (by omega))); (try (have i_t123 := Imp.go t123 (by omega))); (try (have i_t124 := Imp.go t124 (by omega))); omega)) cd140 (Imp.mk (fun _ => (show 0 ≤ ((V125 1 6)).toInt ∧ ((V125 1 6)).toInt ≤ 11 from by first | exact om_ac1a58a2b44e ((Imp.go t123 (imp_a (rgz120.1) (rgz120.2) (f135))).1) ((Imp.go t123 (imp_a (rgz120.1) (rgz120.2) (f135))).2) | first | omega | ((try (have i_t124 := Imp.go t124 (by omega))); (try (have i_t123 := Imp.go t123 (by omega))); (try (have i_cd := Imp.go cd (by omega))); (try (have i_cd := Imp.go cd (by omega))); (try (have i_t123 := Imp.go t123 (by omega))); (try (have i_t124 := Imp.go t124 (by omega))); omega)))) (Imp.mk (fun hp => absurd hp (by decide))) (Imp.mk (fun hp => have hp : (Int32.toInt 11) = 13 ∨ (Int32.toInt 11) = 14 := hp; (show ((V125 1 6)).toInt = 0 from by first | omega | ((try (have i_t124 := Imp.go t124 (by omega))); (try (have i_t123 := Imp.go t123 (by omega))); (try (have i_cd := Imp.go cd (by omega))); (try (have i_cd := Imp.go cd (by omega))); (try (have i_t123 := Imp.go t123 (by omega))); (try (have i_t124 := Imp.go t124 (by omega))); omega))))) w975 w977 w26 w162 w978 rfl xgReader hdV_yX1_put ⟨(by show 1 + 1 ≤ 10 * (d9 + 1) + 6; (first | exact om_e3c7341aa676 y1 f8 | omega)), (by show 8 + (3 + 11) + (21) ≤ 300 * (d9 + 1) + 150; (first | exact om_7d30c2a65dcf y1 f8 | omega))⟩ rfl hl.1 rfl (Nat.le_of_ble_eq_true rfl) dX1_readPart_239 ⟨Nat.le_of_ble_eq_true rfl, Nat.le_of_ble_eq_true rfl⟩) hP hD hK hS hA (fun z141 u142 H locs w143 hP hD hK hS => ?_)
          obtain ⟨V147, L148⟩ := u142
          obtain ⟨hMV147, ajV147, axL148, fyV147, rgz141, t144, t145, t146⟩ := w143
          have axL148 : L126 = L148 := Eq.symm axL148
          subst axL148
          have hP : va_P D vwCl (xw ad kk V147 L126 Z) H := hP
          have hD : va_D A (xw ad kk V147 L126 Z) := hD
          have hMV147 : rgd bX V147 := hMV147
          have ajV147 : agr [] [42, 48] V125 V147 := ajV147
          have agV147 : agr [(1, 3), (1, 6), (1, 8), (6, 8), (6, 9), (6, 10)] [42, 43, 44, 48] V V147 := agV125.tr ajV147 (by decide) (by decide)
          have fwV147 : frX (xR b) V V147 := frX.tr fwV125 (fyV147)
          have rgz141 : 1 ≤ z141.toInt ∧ z141.toInt ≤ 1 := rgz141
          have t144 : Imp ((Int32.toInt 11) = 13 ∨ (Int32.toInt 11) = 14) (jp V147 b (V125 42 b).toInt.toNat) := t144
          have t145 : CD V147 b := t145
          have t146 : px V125 V147 b := t146
          refine lv_if_eq (tgt := 249) hx hb dX1_readPart_242 (by decide) (fun c149 => ?_) (fun c149 => ?_)
          · skip
            have f150 : z141.toInt = 0 := b_eq rfl (by decide) c149
            exfalso; first | exact om_09885ab343b9 rgz141.1 f150 | first | omega | ((try (have i_t124 := Imp.go t124 (by omega))); (try (have i_t123 := Imp.go t123 (by omega))); (try (have i_cd := Imp.go cd (by omega))); (try (have i_cd := Imp.go cd (by omega))); (try (have i_t123 := Imp.go t123 (by omega))); (try (have i_t124 := Imp.go t124 (by omega))); omega)
          · skip
            have f151 : z141.toInt ≠ 0 := b_neq rfl (by decide) c149
            refine lv_iconst (v := 1) hx hb dX1_readPart_245 (by decide) ?_
            refine lv_goto (tgt := 250) hx hb dX1_readPart_246 (by decide) ?_
            have pq152 : (V147 1 3).toInt = ((V125 1 3)).toInt := congrArg Int32.toInt (ajV147 1 3 rfl)
            have px153 : px V V15 b := px.tr (px.rf : px V V b) ⟨emX.p0x t14, ajV15 43 _ rfl⟩
            have px154 : px V V125 b := px.tr px153 (px.ag (show agr [(1, 3), (1, 6), (6, 8), (6, 9), (6, 10)] [] V15 V125 from (agr.tr (agr.tr agr.rf ajV20 (by decide) (by decide)) ajV125 (by decide) (by decide))) (fun _ => rfl) (fun _ => rfl) (fun _ => rfl))
            have px155 : px V V147 b := px.tr px154 t146
            exact W.zret (v := 1) hx hb hr rfl (fun t ht hW => ⟨⟨1, (V147, L126), rfl, ⟨hMV147, agV147, alL126, fwV147, (by decide), t145, px155, (Imp.mk (fun hp => absurd hp (by decide)))⟩, by rw [ht]; exact hP, va_K.moved hW.alike hK, hD⟩, hS.F ht⟩) hS.2.2 dX1_readPart_250
      by_cases q156 : (V 6 9) = 143
      · refine g_top (v := 143) q156 ?_
        have fq156 : ((V 6 9)).toInt = 143 := b_eq rfl (by decide) q156
        refine lv_lookup (x := 143) (off := 84) (tgt := 141) hx hb dX1_readPart_57 (by decide) (by decide) (by decide) ?_
        refine lv_aload_n hx hb dX1_readPart_141 rfl (lv_at hl 2 rfl) ?_
        refine lv_iconst (v := 2) hx hb dX1_readPart_142 (by decide) ?_
        have r157 : Int32.toInt 2 = 2 := by decide
        have pq158 : (V20 1 1).toInt = ((V 1 1)).toInt := congrArg Int32.toInt ((ajV20 1 1 rfl).trans (ajV15 1 1 rfl))
        have cl159 : 0 ≤ (V 42 b).toInt ∧ (V 42 b).toInt ≤ 8200 := hMV 42 b
        have cd160 : CD V15 b := ⟨CB.e1 cd.1 t14 (by omega) (by decide), CO.e1 cd.2 t14 (by decide) (by omega)⟩
        have cd161 : CD V20 b := ⟨CB.ag cd160.1 (show agr [(6, 8), (6, 9), (6, 10)] [] V15 V20 from (agr.tr agr.rf ajV20 (by decide) (by decide))) (fun _ => rfl) (fun _ => rfl), CO.ag cd160.2 (show agr [(6, 8), (6, 9), (6, 10)] [] V15 V20 from (agr.tr agr.rf ajV20 (by decide) (by decide))) (fun _ => rfl) (fun _ => rfl)⟩
        refine gA_int (gA_runV (As := [.int 2]) (rest := []) (ci := 1) (q0 := 1) hx hb hml hown hg hP hD hK hS hA hnw hgk (x_putAlone l D ks H.size ad kk V20 L21 Z 2 (b) hMV20 (by decide) (show b < 2 from by first | exact om_f940a4667dd6 hb2 | first | omega | ((try (have i_cd := Imp.go cd (by omega))); omega)) (show (V20 1 1).toInt = (b : Int) from by first | exact om_adf531c77a0d rbk pq158 | first | omega | ((try (have i_cd := Imp.go cd (by omega))); omega)) cd161) w979 w981 w27 w162 w982 rfl xgReader hdV_yX1_putAlone ⟨(by show 1 + 1 ≤ 10 * (d9 + 1) + 6; (first | exact om_e3c7341aa676 y1 f8 | omega)), (by show 8 + (2 + 11) + (21) ≤ 300 * (d9 + 1) + 150; (first | exact om_61eeeab683e9 y1 f8 | omega))⟩ rfl hl.1 rfl (Nat.le_of_ble_eq_true rfl) dX1_readPart_143 ⟨Nat.le_of_ble_eq_true rfl, Nat.le_of_ble_eq_true rfl⟩) hP hD hK hS hA (fun z162 u163 H locs w164 hP hD hK hS => ?_)
        obtain ⟨V167, L168⟩ := u163
        obtain ⟨hMV167, ajV167, axL168, fyV167, rgz162, t165, t166⟩ := w164
        have axL168 : L21 = L168 := Eq.symm axL168
        subst axL168
        have hP : va_P D vwCl (xw ad kk V167 L21 Z) H := hP
        have hD : va_D A (xw ad kk V167 L21 Z) := hD
        have hMV167 : rgd bX V167 := hMV167
        have ajV167 : agr [] [42, 48] V20 V167 := ajV167
        have agV167 : agr [(1, 3), (1, 6), (1, 8), (6, 8), (6, 9), (6, 10)] [42, 43, 44, 48] V V167 := agV20.tr ajV167 (by decide) (by decide)
        have fwV167 : frX (xR b) V V167 := frX.tr fwV20 (fyV167)
        have rgz162 : 1 ≤ z162.toInt ∧ z162.toInt ≤ 1 := rgz162
        have t165 : CD V167 b := t165
        have t166 : px V20 V167 b := t166
        have pq169 : (V167 1 3).toInt = ((V 1 3)).toInt := congrArg Int32.toInt ((ajV167 1 3 rfl).trans ((ajV20 1 3 rfl).trans (ajV15 1 3 rfl)))
        have px170 : px V V15 b := px.tr (px.rf : px V V b) ⟨emX.p0x t14, ajV15 43 _ rfl⟩
        have px171 : px V V20 b := px.tr px170 (px.ag (show agr [(6, 8), (6, 9), (6, 10)] [] V15 V20 from (agr.tr agr.rf ajV20 (by decide) (by decide))) (fun _ => rfl) (fun _ => rfl) (fun _ => rfl))
        have px172 : px V V167 b := px.tr px171 t166
        exact W.zret (v := z162) hx hb hr (nb_ok (by omega)) (fun t ht hW => ⟨⟨z162, (V167, L21), rfl, ⟨hMV167, agV167, alL21, fwV167, (show 0 ≤ z162.toInt ∧ z162.toInt ≤ 1 from by first | exact om_1e6c034e3eac rgz162.1 rgz162.2 | first | omega | ((try (have i_cd := Imp.go cd (by omega))); omega)), t165, px172, (Imp.mk (fun hp => have hp : z162.toInt = 0 := hp; (show 1 ≤ (V167 1 3).toInt from by first | omega | ((try (have i_cd := Imp.go cd (by omega))); omega))))⟩, by rw [ht]; exact hP, va_K.moved hW.alike hK, hD⟩, hS.F ht⟩) hS.2.2 dX1_readPart_146
      by_cases q173 : (V 6 9) = 144
      · refine g_top (v := 144) q173 ?_
        have fq173 : ((V 6 9)).toInt = 144 := b_eq rfl (by decide) q173
        refine lv_lookup (x := 144) (off := 139) (tgt := 196) hx hb dX1_readPart_57 (by decide) (by decide) (by decide) ?_
        refine lv_aload_n hx hb dX1_readPart_196 rfl (lv_at hl 2 rfl) ?_
        refine lv_iconst (v := 1) hx hb dX1_readPart_197 (by decide) ?_
        refine lv_bipush (v := 9) hx hb dX1_readPart_198 (by decide) ?_
        have r174 : Int32.toInt 9 = 9 := by decide
        refine gA_int (gA_runV (As := [.int 1, .int 9]) (rest := []) (ci := 1) (q0 := 1) hx hb hml hown hg hP hD hK hS hA hnw hgk (x_takeNumber l D ks H.size ad kk V20 L21 Z 1 9 hMV20 (show 0 ≤ (Int32.toInt 1) from by first | exact om_7e0a6aec7ca5 r10 | first | omega | ((try (have i_cd := Imp.go cd (by omega))); omega)) (show (Int32.toInt 9) ≤ 999999999 from by first | exact om_e577f9a5b80c r174 | first | omega | ((try (have i_cd := Imp.go cd (by omega))); omega))) w906 w908 w12 w162 w909 rfl xgReader hdV_yX1_takeNumber ⟨(by show 1 + 1 ≤ 10 * (d9 + 1) + 6; (first | exact om_e3c7341aa676 y1 f8 | omega)), (by show 8 + (3 + 11) + (21) ≤ 300 * (d9 + 1) + 150; (first | exact om_7d30c2a65dcf y1 f8 | omega))⟩ rfl hl.1 rfl (Nat.le_of_ble_eq_true rfl) dX1_readPart_200 ⟨Nat.le_of_ble_eq_true rfl, Nat.le_of_ble_eq_true rfl⟩) hP hD hK hS hA (fun z175 u176 H locs w177 hP hD hK hS => ?_)
        obtain ⟨V180, L181⟩ := u176
        obtain ⟨hMV180, ajV180, axL181, rgz175, t178, t179⟩ := w177
        have alL181 : agL [6, 44] L L181 := agL.tr alL21 axL181 (by decide)
        have hP : va_P D vwCl (xw ad kk V180 L181 Z) H := hP
        have hD : va_D A (xw ad kk V180 L181 Z) := hD
        have hMV180 : rgd bX V180 := hMV180
        have ajV180 : agr [(1, 3), (1, 8), (6, 8), (6, 9), (6, 10)] [] V20 V180 := ajV180
        have agV180 : agr [(1, 3), (1, 6), (1, 8), (6, 8), (6, 9), (6, 10)] [42, 43, 44, 48] V V180 := agV20.tr ajV180 (by decide) (by decide)
        have fwV180 : frX (xR b) V V180 := frX.tr fwV20 (frX.ag ajV180 (by decide) (by decide))
        have rgz175 : 0 ≤ z175.toInt ∧ z175.toInt ≤ 1 := rgz175
        have t178 : Imp (z175.toInt = 1) ((Int32.toInt 1) ≤ (V180 1 8).toInt ∧ (V180 1 8).toInt ≤ (Int32.toInt 9)) := t178
        have t179 : Imp (z175.toInt = 0) (1 ≤ (V180 1 3).toInt) := t179
        have r182 : 0 ≤ ((V180 1 8)).toInt ∧ ((V180 1 8)).toInt ≤ 999999999 := hMV180 1 8
        refine lv_if_eq (tgt := 223) hx hb dX1_readPart_203 (by decide) (fun c183 => ?_) (fun c183 => ?_)
        · skip
          have f184 : z175.toInt = 0 := b_eq rfl (by decide) c183
          refine lv_iconst (v := 0) hx hb dX1_readPart_223 (by decide) ?_
          have cl185 : 0 ≤ (V 42 b).toInt ∧ (V 42 b).toInt ≤ 8200 := hMV 42 b
          have cd186 : CD V15 b := ⟨CB.e1 cd.1 t14 (by omega) (by decide), CO.e1 cd.2 t14 (by decide) (by omega)⟩
          have cd187 : CD V180 b := ⟨CB.ag cd186.1 (show agr [(1, 3), (1, 8), (6, 8), (6, 9), (6, 10)] [] V15 V180 from (agr.tr (agr.tr agr.rf ajV20 (by decide) (by decide)) ajV180 (by decide) (by decide))) (fun _ => rfl) (fun _ => rfl), CO.ag cd186.2 (show agr [(1, 3), (1, 8), (6, 8), (6, 9), (6, 10)] [] V15 V180 from (agr.tr (agr.tr agr.rf ajV20 (by decide) (by decide)) ajV180 (by decide) (by decide))) (fun _ => rfl) (fun _ => rfl)⟩
          have px188 : px V V15 b := px.tr (px.rf : px V V b) ⟨emX.p0x t14, ajV15 43 _ rfl⟩
          have px189 : px V V180 b := px.tr px188 (px.ag (show agr [(1, 3), (1, 8), (6, 8), (6, 9), (6, 10)] [] V15 V180 from (agr.tr (agr.tr agr.rf ajV20 (by decide) (by decide)) ajV180 (by decide) (by decide))) (fun _ => rfl) (fun _ => rfl) (fun _ => rfl))
          exact W.zret (v := 0) hx hb hr rfl (fun t ht hW => ⟨⟨0, (V180, L181), rfl, ⟨hMV180, agV180, alL181, fwV180, (by decide), cd187, px189, (Imp.mk (fun _ => (show 1 ≤ (V180 1 3).toInt from by first | exact om_f8d8213eda45 ((Imp.go t179 (f184))) | first | omega | ((try (have i_t179 := Imp.go t179 (by omega))); (try (have i_t178 := Imp.go t178 (by omega))); (try (have i_cd := Imp.go cd (by omega))); (try (have i_cd := Imp.go cd (by omega))); (try (have i_t178 := Imp.go t178 (by omega))); (try (have i_t179 := Imp.go t179 (by omega))); omega))))⟩, by rw [ht]; exact hP, va_K.moved hW.alike hK, hD⟩, hS.F ht⟩) hS.2.2 dX1_readPart_224
        · skip
          have f190 : z175.toInt ≠ 0 := b_neq rfl (by decide) c183
          refine lv_aload_n hx hb dX1_readPart_206 rfl (lv_at hl 2 rfl) ?_
          refine lv_bipush (v := 12) hx hb dX1_readPart_207 (by decide) ?_
          refine lv_aload_n hx hb dX1_readPart_209 rfl (lv_at hl 2 rfl) ?_
          refine va_get (D := D) (ci := 1) (v := .int (V180 1 8)) (fs := (xfReader ad V180 L181 Z)) (C := RX1) (T := TX1) (N := 9) hx hb hg inX1 hown hK hP 1 xgReader rfl 8 (by decide) (hg _ w312) (fun _ h9 => h9) rfl dX1_readPart_210 ?_
          have r191 : Int32.toInt 12 = 12 := by decide
          have pq192 : (V180 1 1).toInt = ((V 1 1)).toInt := congrArg Int32.toInt ((ajV180 1 1 rfl).trans ((ajV20 1 1 rfl).trans (ajV15 1 1 rfl)))
          have cl193 : 0 ≤ (V 42 b).toInt ∧ (V 42 b).toInt ≤ 8200 := hMV 42 b
          have cd194 : CD V15 b := ⟨CB.e1 cd.1 t14 (by omega) (by decide), CO.e1 cd.2 t14 (by decide) (by omega)⟩
          have cd195 : CD V180 b := ⟨CB.ag cd194.1 (show agr [(1, 3), (1, 8), (6, 8), (6, 9), (6, 10)] [] V15 V180 from (agr.tr (agr.tr agr.rf ajV20 (by decide) (by decide)) ajV180 (by decide) (by decide))) (fun _ => rfl) (fun _ => rfl), CO.ag cd194.2 (show agr [(1, 3), (1, 8), (6, 8), (6, 9), (6, 10)] [] V15 V180 from (agr.tr (agr.tr agr.rf ajV20 (by decide) (by decide)) ajV180 (by decide) (by decide))) (fun _ => rfl) (fun _ => rfl)⟩
          refine gA_int (gA_runV (As := [.int 12, .int (V180 1 8)]) (rest := []) (ci := 1) (q0 := 1) hx hb hml hown hg hP hD hK hS hA hnw hgk (x_put l D ks H.size ad kk V180 L181 Z 12 (V180 1 8) (b) hMV180 (by decide) (show b < 2 from by first | exact om_f940a4667dd6 hb2 | first | omega | ((try (have i_t179 := Imp.go t179 (by omega))); (try (have i_t178 := Imp.go t178 (by omega))); (try (have i_cd := Imp.go cd (by omega))); (try (have i_cd := Imp.go cd (by omega))); (try (have i_t178 := Imp.go t178 (by omega))); (try (have i_t179 := Imp.go t179 (by omega))); omega)) (show (V180 1 1).toInt = (b : Int) from by first | exact om_adf531c77a0d rbk pq192 | first | omega | ((try (have i_t179 := Imp.go t179 (by omega))); (try (have i_t178 := Imp.go t178 (by omega))); (try (have i_cd := Imp.go cd (by omega))); (try (have i_cd := Imp.go cd (by omega))); (try (have i_t178 := Imp.go t178 (by omega))); (try (have i_t179 := Imp.go t179 (by omega))); omega)) cd195 (Imp.mk (fun hp => absurd hp (by decide))) (Imp.mk (fun hp => absurd hp (by decide))) (Imp.mk (fun hp => have hp : (Int32.toInt 12) = 13 ∨ (Int32.toInt 12) = 14 := hp; (show ((V180 1 8)).toInt = 0 from by first | omega | ((try (have i_t179 := Imp.go t179 (by omega))); (try (have i_t178 := Imp.go t178 (by omega))); (try (have i_cd := Imp.go cd (by omega))); (try (have i_cd := Imp.go cd (by omega))); (try (have i_t178 := Imp.go t178 (by omega))); (try (have i_t179 := Imp.go t179 (by omega))); omega))))) w975 w977 w26 w162 w978 rfl xgReader hdV_yX1_put ⟨(by show 1 + 1 ≤ 10 * (d9 + 1) + 6; (first | exact om_e3c7341aa676 y1 f8 | omega)), (by show 8 + (3 + 11) + (21) ≤ 300 * (d9 + 1) + 150; (first | exact om_7d30c2a65dcf y1 f8 | omega))⟩ rfl hl.1 rfl (Nat.le_of_ble_eq_true rfl) dX1_readPart_213 ⟨Nat.le_of_ble_eq_true rfl, Nat.le_of_ble_eq_true rfl⟩) hP hD hK hS hA (fun z196 u197 H locs w198 hP hD hK hS => ?_)
          obtain ⟨V202, L203⟩ := u197
          obtain ⟨hMV202, ajV202, axL203, fyV202, rgz196, t199, t200, t201⟩ := w198
          have axL203 : L181 = L203 := Eq.symm axL203
          subst axL203
          have hP : va_P D vwCl (xw ad kk V202 L181 Z) H := hP
          have hD : va_D A (xw ad kk V202 L181 Z) := hD
          have hMV202 : rgd bX V202 := hMV202
          have ajV202 : agr [] [42, 48] V180 V202 := ajV202
          have agV202 : agr [(1, 3), (1, 6), (1, 8), (6, 8), (6, 9), (6, 10)] [42, 43, 44, 48] V V202 := agV180.tr ajV202 (by decide) (by decide)
          have fwV202 : frX (xR b) V V202 := frX.tr fwV180 (fyV202)
          have rgz196 : 1 ≤ z196.toInt ∧ z196.toInt ≤ 1 := rgz196
          have t199 : Imp ((Int32.toInt 12) = 13 ∨ (Int32.toInt 12) = 14) (jp V202 b (V180 42 b).toInt.toNat) := t199
          have t200 : CD V202 b := t200
          have t201 : px V180 V202 b := t201
          refine lv_if_eq (tgt := 223) hx hb dX1_readPart_216 (by decide) (fun c204 => ?_) (fun c204 => ?_)
          · skip
            have f205 : z196.toInt = 0 := b_eq rfl (by decide) c204
            exfalso; first | exact om_09885ab343b9 rgz196.1 f205 | first | omega | ((try (have i_t179 := Imp.go t179 (by omega))); (try (have i_t178 := Imp.go t178 (by omega))); (try (have i_cd := Imp.go cd (by omega))); (try (have i_cd := Imp.go cd (by omega))); (try (have i_t178 := Imp.go t178 (by omega))); (try (have i_t179 := Imp.go t179 (by omega))); omega)
          · skip
            have f206 : z196.toInt ≠ 0 := b_neq rfl (by decide) c204
            refine lv_iconst (v := 1) hx hb dX1_readPart_219 (by decide) ?_
            refine lv_goto (tgt := 224) hx hb dX1_readPart_220 (by decide) ?_
            have pq207 : (V202 1 3).toInt = ((V180 1 3)).toInt := congrArg Int32.toInt (ajV202 1 3 rfl)
            have px208 : px V V15 b := px.tr (px.rf : px V V b) ⟨emX.p0x t14, ajV15 43 _ rfl⟩
            have px209 : px V V180 b := px.tr px208 (px.ag (show agr [(1, 3), (1, 8), (6, 8), (6, 9), (6, 10)] [] V15 V180 from (agr.tr (agr.tr agr.rf ajV20 (by decide) (by decide)) ajV180 (by decide) (by decide))) (fun _ => rfl) (fun _ => rfl) (fun _ => rfl))
            have px210 : px V V202 b := px.tr px209 t201
            exact W.zret (v := 1) hx hb hr rfl (fun t ht hW => ⟨⟨1, (V202, L181), rfl, ⟨hMV202, agV202, alL181, fwV202, (by decide), t200, px210, (Imp.mk (fun hp => absurd hp (by decide)))⟩, by rw [ht]; exact hP, va_K.moved hW.alike hK, hD⟩, hS.F ht⟩) hS.2.2 dX1_readPart_224
      by_cases q211 : (V 6 9) = 145
      · refine g_top (v := 145) q211 ?_
        have fq211 : ((V 6 9)).toInt = 145 := b_eq rfl (by decide) q211
        refine lv_lookup (x := 145) (off := 194) (tgt := 251) hx hb dX1_readPart_57 (by decide) (by decide) (by decide) ?_
        refine lv_aload_n hx hb dX1_readPart_251 rfl (lv_at hl 2 rfl) ?_
        refine lv_iload_n hx hb dX1_readPart_252 rfl (lv_at hl 3 rfl) ?_
        have pq212 : (V20 1 1).toInt = ((V 1 1)).toInt := congrArg Int32.toInt ((ajV20 1 1 rfl).trans (ajV15 1 1 rfl))
        have cl213 : 0 ≤ (V 42 b).toInt ∧ (V 42 b).toInt ≤ 8200 := hMV 42 b
        have cd214 : CD V15 b := ⟨CB.e1 cd.1 t14 (by omega) (by decide), CO.e1 cd.2 t14 (by decide) (by omega)⟩
        have cd215 : CD V20 b := ⟨CB.ag cd214.1 (show agr [(6, 8), (6, 9), (6, 10)] [] V15 V20 from (agr.tr agr.rf ajV20 (by decide) (by decide))) (fun _ => rfl) (fun _ => rfl), CO.ag cd214.2 (show agr [(6, 8), (6, 9), (6, 10)] [] V15 V20 from (agr.tr agr.rf ajV20 (by decide) (by decide))) (fun _ => rfl) (fun _ => rfl)⟩
        refine gA_int (gA_runV (As := [.int p0]) (rest := []) (ci := 1) (q0 := 1) hx hb hml hown hg hP hD hK hS hA hnw hgk ((hk_x_readPick d9 rfl) H.size ad kk V20 L21 Z p0 (b) hMV20 (by first | omega | ((try (have i_cd := Imp.go cd (by omega))); omega)) (show b < 2 from by first | exact om_f940a4667dd6 hb2 | first | omega | ((try (have i_cd := Imp.go cd (by omega))); omega)) (show (V20 1 1).toInt = (b : Int) from by first | exact om_adf531c77a0d rbk pq212 | first | omega | ((try (have i_cd := Imp.go cd (by omega))); omega)) cd215 (show 7 - p0.toInt ≤ ((d9 : Nat) : Int) from by first | exact om_42edef44cfd1 y1 | first | omega | ((try (have i_cd := Imp.go cd (by omega))); omega))) w983 w985 w28 w162 w986 rfl xgReader hdV_yX1_readPick ⟨(by show 10 * d9 + 10 + 1 ≤ 10 * (d9 + 1) + 6; (first | exact om_27264a036ef1 | omega)), (by show 8 + (4 + 11) + (300 * d9 + 265) ≤ 300 * (d9 + 1) + 150; (first | exact om_88ffcc15b0d7 | omega))⟩ rfl hl.1 rfl (Nat.le_of_ble_eq_true rfl) dX1_readPart_253 ⟨Nat.le_of_ble_eq_true rfl, Nat.le_of_ble_eq_true rfl⟩) hP hD hK hS hA (fun z216 u217 H locs w218 hP hD hK hS => ?_)
        obtain ⟨V222, L223⟩ := u217
        obtain ⟨hMV222, ajV222, axL223, fyV222, rgz216, t219, t220, t221⟩ := w218
        have alL223 : agL [6, 44] L L223 := agL.tr alL21 axL223 (by decide)
        have hP : va_P D vwCl (xw ad kk V222 L223 Z) H := hP
        have hD : va_D A (xw ad kk V222 L223 Z) := hD
        have hMV222 : rgd bX V222 := hMV222
        have ajV222 : agr [(1, 3), (1, 6), (1, 8), (6, 8), (6, 9), (6, 10)] [42, 43, 44, 48] V20 V222 := ajV222
        have agV222 : agr [(1, 3), (1, 6), (1, 8), (6, 8), (6, 9), (6, 10)] [42, 43, 44, 48] V V222 := agV20.tr ajV222 (by decide) (by decide)
        have fwV222 : frX (xR b) V V222 := frX.tr fwV20 (fyV222)
        have rgz216 : 0 ≤ z216.toInt ∧ z216.toInt ≤ 1 := rgz216
        have t219 : CD V222 b := t219
        have t220 : px V20 V222 b := t220
        have t221 : Imp (z216.toInt = 0) (1 ≤ (V222 1 3).toInt) := t221
        have px224 : px V V15 b := px.tr (px.rf : px V V b) ⟨emX.p0x t14, ajV15 43 _ rfl⟩
        have px225 : px V V20 b := px.tr px224 (px.ag (show agr [(6, 8), (6, 9), (6, 10)] [] V15 V20 from (agr.tr agr.rf ajV20 (by decide) (by decide))) (fun _ => rfl) (fun _ => rfl) (fun _ => rfl))
        have px226 : px V V222 b := px.tr px225 t220
        exact W.zret (v := z216) hx hb hr (nb_ok (by omega)) (fun t ht hW => ⟨⟨z216, (V222, L223), rfl, ⟨hMV222, agV222, alL223, fwV222, (show 0 ≤ z216.toInt ∧ z216.toInt ≤ 1 from by first | exact om_eb7af9d60398 rgz216.1 rgz216.2 | first | omega | ((try (have i_t221 := Imp.go t221 (by omega))); (try (have i_cd := Imp.go cd (by omega))); (try (have i_cd := Imp.go cd (by omega))); (try (have i_t221 := Imp.go t221 (by omega))); omega)), t219, px226, (Imp.mk (fun hp => have hp : z216.toInt = 0 := hp; (show 1 ≤ (V222 1 3).toInt from by first | exact om_f8d8213eda45 ((Imp.go t221 (hp))) | first | omega | ((try (have i_t221 := Imp.go t221 (by omega))); (try (have i_cd := Imp.go cd (by omega))); (try (have i_cd := Imp.go cd (by omega))); (try (have i_t221 := Imp.go t221 (by omega))); omega))))⟩, by rw [ht]; exact hP, va_K.moved hW.alike hK, hD⟩, hS.F ht⟩) hS.2.2 dX1_readPart_256
      by_cases q227 : (V 6 9) = 146
      · refine g_top (v := 146) q227 ?_
        have fq227 : ((V 6 9)).toInt = 146 := b_eq rfl (by decide) q227
        refine lv_lookup (x := 146) (off := 200) (tgt := 257) hx hb dX1_readPart_57 (by decide) (by decide) (by decide) ?_
        refine lv_aload_n hx hb dX1_readPart_257 rfl (lv_at hl 2 rfl) ?_
        refine lv_iload_n hx hb dX1_readPart_258 rfl (lv_at hl 3 rfl) ?_
        have pq228 : (V20 1 1).toInt = ((V 1 1)).toInt := congrArg Int32.toInt ((ajV20 1 1 rfl).trans (ajV15 1 1 rfl))
        have cl229 : 0 ≤ (V 42 b).toInt ∧ (V 42 b).toInt ≤ 8200 := hMV 42 b
        have cd230 : CD V15 b := ⟨CB.e1 cd.1 t14 (by omega) (by decide), CO.e1 cd.2 t14 (by decide) (by omega)⟩
        have cd231 : CD V20 b := ⟨CB.ag cd230.1 (show agr [(6, 8), (6, 9), (6, 10)] [] V15 V20 from (agr.tr agr.rf ajV20 (by decide) (by decide))) (fun _ => rfl) (fun _ => rfl), CO.ag cd230.2 (show agr [(6, 8), (6, 9), (6, 10)] [] V15 V20 from (agr.tr agr.rf ajV20 (by decide) (by decide))) (fun _ => rfl) (fun _ => rfl)⟩
        refine gA_int (gA_runV (As := [.int p0]) (rest := []) (ci := 1) (q0 := 1) hx hb hml hown hg hP hD hK hS hA hnw hgk ((hk_x_readOf d9 rfl) H.size ad kk V20 L21 Z p0 (b) hMV20 (by first | omega | ((try (have i_cd := Imp.go cd (by omega))); omega)) (show b < 2 from by first | exact om_f940a4667dd6 hb2 | first | omega | ((try (have i_cd := Imp.go cd (by omega))); omega)) (show (V20 1 1).toInt = (b : Int) from by first | exact om_adf531c77a0d rbk pq228 | first | omega | ((try (have i_cd := Imp.go cd (by omega))); omega)) cd231 (show 7 - p0.toInt ≤ ((d9 : Nat) : Int) from by first | exact om_42edef44cfd1 y1 | first | omega | ((try (have i_cd := Imp.go cd (by omega))); omega))) w991 w993 w29 w162 w994 rfl xgReader hdV_yX1_readOf ⟨(by show 10 * d9 + 11 + 1 ≤ 10 * (d9 + 1) + 6; (first | exact om_b06993399694 | omega)), (by show 8 + (4 + 11) + (300 * d9 + 290) ≤ 300 * (d9 + 1) + 150; (first | exact om_541a9511245e | omega))⟩ rfl hl.1 rfl (Nat.le_of_ble_eq_true rfl) dX1_readPart_259 ⟨Nat.le_of_ble_eq_true rfl, Nat.le_of_ble_eq_true rfl⟩) hP hD hK hS hA (fun z232 u233 H locs w234 hP hD hK hS => ?_)
        obtain ⟨V238, L239⟩ := u233
        obtain ⟨hMV238, ajV238, axL239, fyV238, rgz232, t235, t236, t237⟩ := w234
        have alL239 : agL [6, 44] L L239 := agL.tr alL21 axL239 (by decide)
        have hP : va_P D vwCl (xw ad kk V238 L239 Z) H := hP
        have hD : va_D A (xw ad kk V238 L239 Z) := hD
        have hMV238 : rgd bX V238 := hMV238
        have ajV238 : agr [(1, 3), (1, 6), (1, 8), (6, 8), (6, 9), (6, 10)] [42, 43, 44, 48] V20 V238 := ajV238
        have agV238 : agr [(1, 3), (1, 6), (1, 8), (6, 8), (6, 9), (6, 10)] [42, 43, 44, 48] V V238 := agV20.tr ajV238 (by decide) (by decide)
        have fwV238 : frX (xR b) V V238 := frX.tr fwV20 (fyV238)
        have rgz232 : 0 ≤ z232.toInt ∧ z232.toInt ≤ 1 := rgz232
        have t235 : CD V238 b := t235
        have t236 : px V20 V238 b := t236
        have t237 : Imp (z232.toInt = 0) (1 ≤ (V238 1 3).toInt) := t237
        have px240 : px V V15 b := px.tr (px.rf : px V V b) ⟨emX.p0x t14, ajV15 43 _ rfl⟩
        have px241 : px V V20 b := px.tr px240 (px.ag (show agr [(6, 8), (6, 9), (6, 10)] [] V15 V20 from (agr.tr agr.rf ajV20 (by decide) (by decide))) (fun _ => rfl) (fun _ => rfl) (fun _ => rfl))
        have px242 : px V V238 b := px.tr px241 t236
        exact W.zret (v := z232) hx hb hr (nb_ok (by omega)) (fun t ht hW => ⟨⟨z232, (V238, L239), rfl, ⟨hMV238, agV238, alL239, fwV238, (show 0 ≤ z232.toInt ∧ z232.toInt ≤ 1 from by first | exact om_eb7af9d60398 rgz232.1 rgz232.2 | first | omega | ((try (have i_t237 := Imp.go t237 (by omega))); (try (have i_cd := Imp.go cd (by omega))); (try (have i_cd := Imp.go cd (by omega))); (try (have i_t237 := Imp.go t237 (by omega))); omega)), t235, px242, (Imp.mk (fun hp => have hp : z232.toInt = 0 := hp; (show 1 ≤ (V238 1 3).toInt from by first | exact om_f8d8213eda45 ((Imp.go t237 (hp))) | first | omega | ((try (have i_t237 := Imp.go t237 (by omega))); (try (have i_cd := Imp.go cd (by omega))); (try (have i_cd := Imp.go cd (by omega))); (try (have i_t237 := Imp.go t237 (by omega))); omega))))⟩, by rw [ht]; exact hP, va_K.moved hW.alike hK, hD⟩, hS.F ht⟩) hS.2.2 dX1_readPart_262
      refine lv_lookup (x := (V 6 9)) (off := 206) (tgt := 263) hx hb dX1_readPart_57 (by decide) ((lv_osw q22 (by decide)).trans ((lv_osw q41 (by decide)).trans ((lv_osw q81 (by decide)).trans ((lv_osw q118 (by decide)).trans ((lv_osw q156 (by decide)).trans ((lv_osw q173 (by decide)).trans ((lv_osw q211 (by decide)).trans ((lv_osw q227 (by decide)).trans rfl)))))))) (by decide) ?_
      have gq22 : ((V 6 9)).toInt ≠ 2 := b_neq rfl (by decide) q22
      have gq41 : ((V 6 9)).toInt ≠ 40 := b_neq rfl (by decide) q41
      have gq81 : ((V 6 9)).toInt ≠ 45 := b_neq rfl (by decide) q81
      have gq118 : ((V 6 9)).toInt ≠ 130 := b_neq rfl (by decide) q118
      have gq156 : ((V 6 9)).toInt ≠ 143 := b_neq rfl (by decide) q156
      have gq173 : ((V 6 9)).toInt ≠ 144 := b_neq rfl (by decide) q173
      have gq211 : ((V 6 9)).toInt ≠ 145 := b_neq rfl (by decide) q211
      have gq227 : ((V 6 9)).toInt ≠ 146 := b_neq rfl (by decide) q227
      refine lv_aload_n hx hb dX1_readPart_263 rfl (lv_at hl 2 rfl) ?_
      refine lv_iload_n hx hb dX1_readPart_264 rfl (lv_at hl 3 rfl) ?_
      have pq243 : (V20 1 1).toInt = ((V 1 1)).toInt := congrArg Int32.toInt ((ajV20 1 1 rfl).trans (ajV15 1 1 rfl))
      have cl244 : 0 ≤ (V 42 b).toInt ∧ (V 42 b).toInt ≤ 8200 := hMV 42 b
      have cd245 : CD V15 b := ⟨CB.e1 cd.1 t14 (by omega) (by decide), CO.e1 cd.2 t14 (by decide) (by omega)⟩
      have cd246 : CD V20 b := ⟨CB.ag cd245.1 (show agr [(6, 8), (6, 9), (6, 10)] [] V15 V20 from (agr.tr agr.rf ajV20 (by decide) (by decide))) (fun _ => rfl) (fun _ => rfl), CO.ag cd245.2 (show agr [(6, 8), (6, 9), (6, 10)] [] V15 V20 from (agr.tr agr.rf ajV20 (by decide) (by decide))) (fun _ => rfl) (fun _ => rfl)⟩
      refine gA_int (gA_runV (As := [.int p0]) (rest := []) (ci := 1) (q0 := 1) hx hb hml hown hg hP hD hK hS hA hnw hgk ((hk_x_readWithin d9 rfl) H.size ad kk V20 L21 Z p0 (b) hMV20 (by first | omega | ((try (have i_cd := Imp.go cd (by omega))); omega)) (show b < 2 from by first | exact om_f940a4667dd6 hb2 | first | omega | ((try (have i_cd := Imp.go cd (by omega))); omega)) (show (V20 1 1).toInt = (b : Int) from by first | exact om_adf531c77a0d rbk pq243 | first | omega | ((try (have i_cd := Imp.go cd (by omega))); omega)) cd246 (show 7 - p0.toInt ≤ ((d9 : Nat) : Int) from by first | exact om_42edef44cfd1 y1 | first | omega | ((try (have i_cd := Imp.go cd (by omega))); omega))) w995 w997 w30 w162 w998 rfl xgReader hdV_yX1_readWithin ⟨(by show 10 * d9 + 10 + 1 ≤ 10 * (d9 + 1) + 6; (first | exact om_27264a036ef1 | omega)), (by show 8 + (2 + 11) + (300 * d9 + 265) ≤ 300 * (d9 + 1) + 150; (first | exact om_9c0bce32d3dd | omega))⟩ rfl hl.1 rfl (Nat.le_of_ble_eq_true rfl) dX1_readPart_265 ⟨Nat.le_of_ble_eq_true rfl, Nat.le_of_ble_eq_true rfl⟩) hP hD hK hS hA (fun z247 u248 H locs w249 hP hD hK hS => ?_)
      obtain ⟨V253, L254⟩ := u248
      obtain ⟨hMV253, ajV253, axL254, fyV253, rgz247, t250, t251, t252⟩ := w249
      have alL254 : agL [6, 44] L L254 := agL.tr alL21 axL254 (by decide)
      have hP : va_P D vwCl (xw ad kk V253 L254 Z) H := hP
      have hD : va_D A (xw ad kk V253 L254 Z) := hD
      have hMV253 : rgd bX V253 := hMV253
      have ajV253 : agr [(1, 3), (1, 6), (1, 8), (6, 8), (6, 9), (6, 10)] [42, 43, 44, 48] V20 V253 := ajV253
      have agV253 : agr [(1, 3), (1, 6), (1, 8), (6, 8), (6, 9), (6, 10)] [42, 43, 44, 48] V V253 := agV20.tr ajV253 (by decide) (by decide)
      have fwV253 : frX (xR b) V V253 := frX.tr fwV20 (fyV253)
      have rgz247 : 0 ≤ z247.toInt ∧ z247.toInt ≤ 1 := rgz247
      have t250 : CD V253 b := t250
      have t251 : px V20 V253 b := t251
      have t252 : Imp (z247.toInt = 0) (1 ≤ (V253 1 3).toInt) := t252
      refine lv_if_eq (tgt := 283) hx hb dX1_readPart_268 (by decide) (fun c255 => ?_) (fun c255 => ?_)
      · skip
        have f256 : z247.toInt = 0 := b_eq rfl (by decide) c255
        refine lv_iconst (v := 0) hx hb dX1_readPart_283 (by decide) ?_
        have px257 : px V V15 b := px.tr (px.rf : px V V b) ⟨emX.p0x t14, ajV15 43 _ rfl⟩
        have px258 : px V V20 b := px.tr px257 (px.ag (show agr [(6, 8), (6, 9), (6, 10)] [] V15 V20 from (agr.tr agr.rf ajV20 (by decide) (by decide))) (fun _ => rfl) (fun _ => rfl) (fun _ => rfl))
        have px259 : px V V253 b := px.tr px258 t251
        exact W.zret (v := 0) hx hb hr rfl (fun t ht hW => ⟨⟨0, (V253, L254), rfl, ⟨hMV253, agV253, alL254, fwV253, (by decide), t250, px259, (Imp.mk (fun _ => (show 1 ≤ (V253 1 3).toInt from by first | exact om_f8d8213eda45 ((Imp.go t252 (f256))) | first | omega | ((try (have i_t252 := Imp.go t252 (by omega))); (try (have i_cd := Imp.go cd (by omega))); (try (have i_cd := Imp.go cd (by omega))); (try (have i_t252 := Imp.go t252 (by omega))); omega))))⟩, by rw [ht]; exact hP, va_K.moved hW.alike hK, hD⟩, hS.F ht⟩) hS.2.2 dX1_readPart_284
      · skip
        have f260 : z247.toInt ≠ 0 := b_neq rfl (by decide) c255
        refine lv_aload_n hx hb dX1_readPart_271 rfl (lv_at hl 2 rfl) ?_
        refine lv_iconst (v := 4) hx hb dX1_readPart_272 (by decide) ?_
        have r261 : Int32.toInt 4 = 4 := by decide
        have pq262 : (V253 1 1).toInt = ((V 1 1)).toInt := congrArg Int32.toInt ((ajV253 1 1 rfl).trans ((ajV20 1 1 rfl).trans (ajV15 1 1 rfl)))
        refine gA_int (gA_runV (As := [.int 4]) (rest := []) (ci := 1) (q0 := 1) hx hb hml hown hg hP hD hK hS hA hnw hgk (x_putAlone l D ks H.size ad kk V253 L254 Z 4 (b) hMV253 (by decide) (show b < 2 from by first | exact om_f940a4667dd6 hb2 | first | omega | ((try (have i_t252 := Imp.go t252 (by omega))); (try (have i_cd := Imp.go cd (by omega))); (try (have i_cd := Imp.go cd (by omega))); (try (have i_t252 := Imp.go t252 (by omega))); omega)) (show (V253 1 1).toInt = (b : Int) from by first | exact om_adf531c77a0d rbk pq262 | first | omega | ((try (have i_t252 := Imp.go t252 (by omega))); (try (have i_cd := Imp.go cd (by omega))); (try (have i_cd := Imp.go cd (by omega))); (try (have i_t252 := Imp.go t252 (by omega))); omega)) t250) w979 w981 w27 w162 w982 rfl xgReader hdV_yX1_putAlone ⟨(by show 1 + 1 ≤ 10 * (d9 + 1) + 6; (first | exact om_e3c7341aa676 y1 f8 | omega)), (by show 8 + (2 + 11) + (21) ≤ 300 * (d9 + 1) + 150; (first | exact om_61eeeab683e9 y1 f8 | omega))⟩ rfl hl.1 rfl (Nat.le_of_ble_eq_true rfl) dX1_readPart_273 ⟨Nat.le_of_ble_eq_true rfl, Nat.le_of_ble_eq_true rfl⟩) hP hD hK hS hA (fun z263 u264 H locs w265 hP hD hK hS => ?_)
        obtain ⟨V268, L269⟩ := u264
        obtain ⟨hMV268, ajV268, axL269, fyV268, rgz263, t266, t267⟩ := w265
        have axL269 : L254 = L269 := Eq.symm axL269
        subst axL269
        have hP : va_P D vwCl (xw ad kk V268 L254 Z) H := hP
        have hD : va_D A (xw ad kk V268 L254 Z) := hD
        have hMV268 : rgd bX V268 := hMV268
        have ajV268 : agr [] [42, 48] V253 V268 := ajV268
        have agV268 : agr [(1, 3), (1, 6), (1, 8), (6, 8), (6, 9), (6, 10)] [42, 43, 44, 48] V V268 := agV253.tr ajV268 (by decide) (by decide)
        have fwV268 : frX (xR b) V V268 := frX.tr fwV253 (fyV268)
        have rgz263 : 1 ≤ z263.toInt ∧ z263.toInt ≤ 1 := rgz263
        have t266 : CD V268 b := t266
        have t267 : px V253 V268 b := t267
        refine lv_if_eq (tgt := 283) hx hb dX1_readPart_276 (by decide) (fun c270 => ?_) (fun c270 => ?_)
        · skip
          have f271 : z263.toInt = 0 := b_eq rfl (by decide) c270
          exfalso; first | exact om_09885ab343b9 rgz263.1 f271 | first | omega | ((try (have i_t252 := Imp.go t252 (by omega))); (try (have i_cd := Imp.go cd (by omega))); (try (have i_cd := Imp.go cd (by omega))); (try (have i_t252 := Imp.go t252 (by omega))); omega)
        · skip
          have f272 : z263.toInt ≠ 0 := b_neq rfl (by decide) c270
          refine lv_iconst (v := 1) hx hb dX1_readPart_279 (by decide) ?_
          refine lv_goto (tgt := 284) hx hb dX1_readPart_280 (by decide) ?_
          have pq273 : (V268 1 3).toInt = ((V253 1 3)).toInt := congrArg Int32.toInt (ajV268 1 3 rfl)
          have px274 : px V V15 b := px.tr (px.rf : px V V b) ⟨emX.p0x t14, ajV15 43 _ rfl⟩
          have px275 : px V V20 b := px.tr px274 (px.ag (show agr [(6, 8), (6, 9), (6, 10)] [] V15 V20 from (agr.tr agr.rf ajV20 (by decide) (by decide))) (fun _ => rfl) (fun _ => rfl) (fun _ => rfl))
          have px276 : px V V253 b := px.tr px275 t251
          have px277 : px V V268 b := px.tr px276 t267
          exact W.zret (v := 1) hx hb hr rfl (fun t ht hW => ⟨⟨1, (V268, L254), rfl, ⟨hMV268, agV268, alL254, fwV268, (by decide), t266, px277, (Imp.mk (fun hp => absurd hp (by decide)))⟩, by rw [ht]; exact hP, va_K.moved hW.alike hK, hD⟩, hS.F ht⟩) hS.2.2 dX1_readPart_284
    · skip
      have f278 : 8 ≤ p0.toInt := b_nlt rfl (by decide) c7
      refine lv_aload_n hx hb dX1_readPart_19 rfl (lv_at hl 0 rfl) ?_
      refine lv_iconst (v := 5) hx hb dX1_readPart_20 (by decide) ?_
      have r279 : Int32.toInt 5 = 5 := by decide
      refine gA_int (gA_runV (As := [.int 5]) (rest := []) (ci := 1) (q0 := 1) hx hb hml hown hg hP hD hK hS hA hnw hgk (x_wrong l D ks H.size ad kk V L Z 5 hMV (by decide)) w867 w869 w6 w162 w870 rfl xgReader hdV_yX1_wrong ⟨(by show 0 + 1 ≤ 10 * dd + 6; (first | exact om_a38b62d84ac3 | omega)), (by show 8 + (2 + 11) + (0) ≤ 300 * dd + 150; (first | exact om_bc7ada4eac13 | omega))⟩ rfl hl.1 rfl (Nat.le_of_ble_eq_true rfl) dX1_readPart_21 ⟨Nat.le_of_ble_eq_true rfl, Nat.le_of_ble_eq_true rfl⟩) hP hD hK hS hA (fun z280 u281 H locs w282 hP hD hK hS => ?_)
      obtain ⟨V284, L285⟩ := u281
      obtain ⟨hMV284, ajV284, axL285, rgz280, t283⟩ := w282
      have axL285 : L = L285 := Eq.symm axL285
      subst axL285
      have hP : va_P D vwCl (xw ad kk V284 L Z) H := hP
      have hD : va_D A (xw ad kk V284 L Z) := hD
      have hMV284 : rgd bX V284 := hMV284
      have ajV284 : agr [(1, 3)] [] V V284 := ajV284
      have agV284 : agr [(1, 3), (1, 6), (1, 8), (6, 8), (6, 9), (6, 10)] [42, 43, 44, 48] V V284 := agV.tr ajV284 (by decide) (by decide)
      have fwV284 : frX (xR b) V V284 := frX.tr fwV (frX.ag ajV284 (by decide) (by decide))
      have rgz280 : 0 ≤ z280.toInt ∧ z280.toInt ≤ 0 := rgz280
      have t283 : 1 ≤ (V284 1 3).toInt := t283
      have cd286 : CD V284 b := ⟨CB.ag cd.1 (show agr [(1, 3)] [] V V284 from (agr.tr agr.rf ajV284 (by decide) (by decide))) (fun _ => rfl) (fun _ => rfl), CO.ag cd.2 (show agr [(1, 3)] [] V V284 from (agr.tr agr.rf ajV284 (by decide) (by decide))) (fun _ => rfl) (fun _ => rfl)⟩
      have px287 : px V V284 b := px.tr (px.rf : px V V b) (px.ag (show agr [(1, 3)] [] V V284 from (agr.tr agr.rf ajV284 (by decide) (by decide))) (fun _ => rfl) (fun _ => rfl) (fun _ => rfl))
      exact W.zret (v := z280) hx hb hr (nb_ok (by omega)) (fun t ht hW => ⟨⟨z280, (V284, L), rfl, ⟨hMV284, agV284, alL, fwV284, (show 0 ≤ z280.toInt ∧ z280.toInt ≤ 1 from by first | exact om_641b3f05f166 rgz280.1 rgz280.2 | first | omega | ((try (have i_cd := Imp.go cd (by omega))); omega)), cd286, px287, (Imp.mk (fun hp => have hp : z280.toInt = 0 := hp; (show 1 ≤ (V284 1 3).toInt from by first | exact om_f8d8213eda45 t283 | first | omega | ((try (have i_cd := Imp.go cd (by omega))); omega))))⟩, by rw [ht]; exact hP, va_K.moved hW.alike hK, hD⟩, hS.F ht⟩) hS.2.2 dX1_readPart_24
  · skip
    have f288 : z2.toInt = 0 := b_eq rfl (by decide) c5
    refine lv_aload_n hx hb dX1_readPart_7 rfl (lv_at hl 0 rfl) ?_
    refine lv_iconst (v := 1) hx hb dX1_readPart_8 (by decide) ?_
    have r289 : Int32.toInt 1 = 1 := by decide
    refine gA_int (gA_runV (As := [.int 1]) (rest := []) (ci := 1) (q0 := 1) hx hb hml hown hg hP hD hK hS hA hnw hgk (x_wrong l D ks H.size ad kk V L Z 1 hMV (by decide)) w867 w869 w6 w162 w870 rfl xgReader hdV_yX1_wrong ⟨(by show 0 + 1 ≤ 10 * dd + 6; (first | exact om_0442424c9051 rg_p0.2 y1 | omega)), (by show 8 + (2 + 11) + (0) ≤ 300 * dd + 150; (first | exact om_4d17b072da10 rg_p0.2 y1 | omega))⟩ rfl hl.1 rfl (Nat.le_of_ble_eq_true rfl) dX1_readPart_9 ⟨Nat.le_of_ble_eq_true rfl, Nat.le_of_ble_eq_true rfl⟩) hP hD hK hS hA (fun z290 u291 H locs w292 hP hD hK hS => ?_)
    obtain ⟨V294, L295⟩ := u291
    obtain ⟨hMV294, ajV294, axL295, rgz290, t293⟩ := w292
    have axL295 : L = L295 := Eq.symm axL295
    subst axL295
    have hP : va_P D vwCl (xw ad kk V294 L Z) H := hP
    have hD : va_D A (xw ad kk V294 L Z) := hD
    have hMV294 : rgd bX V294 := hMV294
    have ajV294 : agr [(1, 3)] [] V V294 := ajV294
    have agV294 : agr [(1, 3), (1, 6), (1, 8), (6, 8), (6, 9), (6, 10)] [42, 43, 44, 48] V V294 := agV.tr ajV294 (by decide) (by decide)
    have fwV294 : frX (xR b) V V294 := frX.tr fwV (frX.ag ajV294 (by decide) (by decide))
    have rgz290 : 0 ≤ z290.toInt ∧ z290.toInt ≤ 0 := rgz290
    have t293 : 1 ≤ (V294 1 3).toInt := t293
    have cd296 : CD V294 b := ⟨CB.ag cd.1 (show agr [(1, 3)] [] V V294 from (agr.tr agr.rf ajV294 (by decide) (by decide))) (fun _ => rfl) (fun _ => rfl), CO.ag cd.2 (show agr [(1, 3)] [] V V294 from (agr.tr agr.rf ajV294 (by decide) (by decide))) (fun _ => rfl) (fun _ => rfl)⟩
    have px297 : px V V294 b := px.tr (px.rf : px V V b) (px.ag (show agr [(1, 3)] [] V V294 from (agr.tr agr.rf ajV294 (by decide) (by decide))) (fun _ => rfl) (fun _ => rfl) (fun _ => rfl))
    exact W.zret (v := z290) hx hb hr (nb_ok (by omega)) (fun t ht hW => ⟨⟨z290, (V294, L), rfl, ⟨hMV294, agV294, alL, fwV294, (show 0 ≤ z290.toInt ∧ z290.toInt ≤ 1 from by first | exact om_641b3f05f166 rgz290.1 rgz290.2 | first | omega | ((try (have i_cd := Imp.go cd (by omega))); omega)), cd296, px297, (Imp.mk (fun hp => have hp : z290.toInt = 0 := hp; (show 1 ≤ (V294 1 3).toInt from by first | exact om_f8d8213eda45 t293 | first | omega | ((try (have i_cd := Imp.go cd (by omega))); omega))))⟩, by rw [ht]; exact hP, va_K.moved hW.alike hK, hD⟩, hS.F ht⟩) hS.2.2 dX1_readPart_12
set_option maxHeartbeats 4000000 in
set_option maxRecDepth 100000 in
theorem x_readOf {l : Launch} {D : va_G} {ks : KS} {dd : Nat} (hk_x_readWithin : K_x_readWithin l D ks dd) : K_x_readOf l D ks dd := by
  intro sz ad kk V L Z p0 b hMV rg_p0 hb2 rbk cd y1
  refine g_met (q_x_readOf D ks ad kk V L Z p0 b) (by decide) (Nat.le_of_ble_eq_true rfl) ?_
  intro p e s m below meth c A ls H locs hx hb hr hml hown hg hlocks hin hnw hgk hP hK hD hS hA hl
  have hown : s.vm.findClass RX1 = some m.cls := hown
  have hl : lv_has ls 4 [(0, .ref (ad 1)), (1, .int p0)] := hl
  have hP : va_P D vwCl (xw ad kk V L Z) H := hP
  have hD : va_D A (xw ad kk V L Z) := hD
  have hK : va_K D vwCl (xty kk Z) s := hK
  have agV : agr [(1, 3), (1, 6), (1, 8), (6, 8), (6, 9), (6, 10)] [42, 43, 44, 48] V V := agr.rf
  have alL : agL [6, 44] L L := agL.rf
  have fwV : frX (xR b) V V := frX.rf
  have r1 : (-1) ≤ ((V 1 1)).toInt ∧ ((V 1 1)).toInt ≤ 1 := hMV 1 1
  have ro : -1 ≤ (V 1 2).toInt ∧ (V 1 2).toInt ≤ 47 := hMV 1 2
  by_cases hon : (V 1 2).toInt < 0
  · skip
    refine lv_aload_n hx hb dX1_readOf_0 rfl (lv_at hl 0 rfl) ?_
    refine lv_iconst (v := 0) hx hb dX1_readOf_1 (by decide) ?_
    refine lv_aload_n hx hb dX1_readOf_2 rfl (lv_at hl 0 rfl) ?_
    refine va_get (D := D) (ci := 1) (v := rfN ad 72 (V 1 2)) (fs := (xfReader ad V L Z)) (C := RX1) (T := TX1) (N := 9) hx hb hg inX1 hown hK hP 1 xgReader rfl 2 (by decide) (hg _ w306) (fun _ h9 => h9) rfl dX1_readOf_3 ?_
    have r2 : (-1) ≤ ((V 1 2)).toInt ∧ ((V 1 2)).toInt ≤ 47 := hMV 1 2
    refine g_topv (v := .null) (rfN_n (by first | omega | ((try (have i_cd := Imp.go cd (by omega))); omega))) ?_
    refine lv_ifnonnullN hx hb dX1_readOf_6 ?_
    refine lv_iconst (v := (-1)) hx hb dX1_readOf_9 (by decide) ?_
    refine lv_goto (tgt := 22) hx hb dX1_readOf_10 (by decide) ?_
    have r3 : Int32.toInt 0 = 0 := by decide
    have r4 : Int32.toInt (-1) = (-1) := by decide
    refine gA_int (gA_runV (As := [.int 0, .int (-1)]) (rest := []) (ci := 1) (q0 := 1) hx hb hml hown hg hP hD hK hS hA hnw hgk (x_takeNumber l D ks H.size ad kk V L Z 0 (-1) hMV (show 0 ≤ (Int32.toInt 0) from by first | exact om_1531b20f57e1 r3 | first | omega | ((try (have i_cd := Imp.go cd (by omega))); omega)) (show (Int32.toInt (-1)) ≤ 999999999 from by first | exact om_298f9929c7b0 r4 | first | omega | ((try (have i_cd := Imp.go cd (by omega))); omega))) w906 w908 w12 w162 w909 rfl xgReader hdV_yX1_takeNumber ⟨(by show 1 + 1 ≤ 10 * dd + 11; (first | exact om_76644d12f753 rg_p0.2 y1 | omega)), (by show 8 + (3 + 11) + (21) ≤ 300 * dd + 290; (first | exact om_9205c02eda4d rg_p0.2 y1 | omega))⟩ rfl hl.1 rfl (Nat.le_of_ble_eq_true rfl) dX1_readOf_22 ⟨Nat.le_of_ble_eq_true rfl, Nat.le_of_ble_eq_true rfl⟩) hP hD hK hS hA (fun z5 u6 H locs w7 hP hD hK hS => ?_)
    obtain ⟨V10, L11⟩ := u6
    obtain ⟨hMV10, ajV10, axL11, rgz5, t8, t9⟩ := w7
    have alL11 : agL [6, 44] L L11 := agL.tr alL axL11 (by decide)
    have hP : va_P D vwCl (xw ad kk V10 L11 Z) H := hP
    have hD : va_D A (xw ad kk V10 L11 Z) := hD
    have hMV10 : rgd bX V10 := hMV10
    have ajV10 : agr [(1, 3), (1, 8), (6, 8), (6, 9), (6, 10)] [] V V10 := ajV10
    have agV10 : agr [(1, 3), (1, 6), (1, 8), (6, 8), (6, 9), (6, 10)] [42, 43, 44, 48] V V10 := agV.tr ajV10 (by decide) (by decide)
    have fwV10 : frX (xR b) V V10 := frX.tr fwV (frX.ag ajV10 (by decide) (by decide))
    have rgz5 : 0 ≤ z5.toInt ∧ z5.toInt ≤ 1 := rgz5
    have t8 : Imp (z5.toInt = 1) ((Int32.toInt 0) ≤ (V10 1 8).toInt ∧ (V10 1 8).toInt ≤ (Int32.toInt (-1))) := t8
    have t9 : Imp (z5.toInt = 0) (1 ≤ (V10 1 3).toInt) := t9
    have r12 : 0 ≤ ((V10 1 8)).toInt ∧ ((V10 1 8)).toInt ≤ 999999999 := hMV10 1 8
    refine lv_if_ne (tgt := 30) hx hb dX1_readOf_25 (by decide) (fun c13 => ?_) (fun c13 => ?_)
    · skip
      have f14 : z5.toInt ≠ 0 := b_neq rfl (by decide) c13
      refine lv_aload_n hx hb dX1_readOf_30 rfl (lv_at hl 0 rfl) ?_
      have tn := Imp.go t8 (by (first | exact om_2ebe32d50835 rgz5.1 rgz5.2 f14 | omega))
      exfalso; (first | exact om_0c1241e9e81a r4 r12.1 tn.2 | omega)
    · skip
      have f15 : z5.toInt = 0 := b_eq rfl (by decide) c13
      refine lv_iconst (v := 0) hx hb dX1_readOf_28 (by decide) ?_
      have cd16 : CD V10 b := ⟨CB.ag cd.1 (show agr [(1, 3), (1, 8), (6, 8), (6, 9), (6, 10)] [] V V10 from (agr.tr agr.rf ajV10 (by decide) (by decide))) (fun _ => rfl) (fun _ => rfl), CO.ag cd.2 (show agr [(1, 3), (1, 8), (6, 8), (6, 9), (6, 10)] [] V V10 from (agr.tr agr.rf ajV10 (by decide) (by decide))) (fun _ => rfl) (fun _ => rfl)⟩
      have px17 : px V V10 b := px.tr (px.rf : px V V b) (px.ag (show agr [(1, 3), (1, 8), (6, 8), (6, 9), (6, 10)] [] V V10 from (agr.tr agr.rf ajV10 (by decide) (by decide))) (fun _ => rfl) (fun _ => rfl) (fun _ => rfl))
      exact W.zret (v := 0) hx hb hr rfl (fun t ht hW => ⟨⟨0, (V10, L11), rfl, ⟨hMV10, agV10, alL11, fwV10, (by decide), cd16, px17, (Imp.mk (fun _ => (show 1 ≤ (V10 1 3).toInt from by first | exact om_f8d8213eda45 ((Imp.go t9 (f15))) | first | omega | ((try (have i_t9 := Imp.go t9 (by omega))); (try (have i_t8 := Imp.go t8 (by omega))); (try (have i_cd := Imp.go cd (by omega))); (try (have i_cd := Imp.go cd (by omega))); (try (have i_t8 := Imp.go t8 (by omega))); (try (have i_t9 := Imp.go t9 (by omega))); omega))))⟩, by rw [ht]; exact hP, va_K.moved hW.alike hK, hD⟩, hS.F ht⟩) hS.2.2 dX1_readOf_29
  · skip
    have ko := i_clamp (x := V 1 2) rfl (by omega)
    refine lv_aload_n hx hb dX1_readOf_0 rfl (lv_at hl 0 rfl) ?_
    refine lv_iconst (v := 0) hx hb dX1_readOf_1 (by decide) ?_
    refine lv_aload_n hx hb dX1_readOf_2 rfl (lv_at hl 0 rfl) ?_
    refine va_get (D := D) (ci := 1) (v := rfN ad 72 (V 1 2)) (fs := (xfReader ad V L Z)) (C := RX1) (T := TX1) (N := 9) hx hb hg inX1 hown hK hP 1 xgReader rfl 2 (by decide) (hg _ w306) (fun _ h9 => h9) rfl dX1_readOf_3 ?_
    have r18 : (-1) ≤ ((V 1 2)).toInt ∧ ((V 1 2)).toInt ≤ 47 := hMV 1 2
    refine g_topv (v := .ref (ad (72 + (Int32.toNatClampNeg (V 1 2))))) (rfN_r (by first | omega | ((try (have i_cd := Imp.go cd (by omega))); omega))) ?_
    refine lv_ifnonnull (tgt := 13) hx hb dX1_readOf_6 (by decide) ?_
    refine lv_aload_n hx hb dX1_readOf_13 rfl (lv_at hl 0 rfl) ?_
    refine va_get (D := D) (ci := 1) (v := rfN ad 72 (V 1 2)) (fs := (xfReader ad V L Z)) (C := RX1) (T := TX1) (N := 9) hx hb hg inX1 hown hK hP 1 xgReader rfl 2 (by decide) (hg _ w306) (fun _ h9 => h9) rfl dX1_readOf_14 ?_
    refine g_topv (v := .ref (ad (72 + (Int32.toNatClampNeg (V 1 2))))) (rfN_r (by first | omega | ((try (have i_cd := Imp.go cd (by omega))); omega))) ?_
    have il19 : (Int32.toNatClampNeg (V 1 2)) < 48 := by first | exact om_755bf3536861 ro.2 ko | first | omega | ((try (have i_cd := Imp.go cd (by omega))); omega)
    refine va_getN (D := D) (ci := 3) (v := .int (V 49 (Int32.toNatClampNeg (V 1 2)))) (fs := (xfComp ad V (Int32.toNatClampNeg (V 1 2)))) (C := RX3) (T := TX3) (N := 13) hx hb hg inX3 hown hK hP (72 + (Int32.toNatClampNeg (V 1 2))) (xgComp il19) rfl 4 (by decide) (hnw.use 513 n513 rfl) (fun _ h9 => h9) rfl dX1_readOf_17 ?_
    have r20 : 0 ≤ ((V 49 (Int32.toNatClampNeg (V 1 2)))).toInt ∧ ((V 49 (Int32.toNatClampNeg (V 1 2)))).toInt ≤ 8 := hMV 49 (Int32.toNatClampNeg (V 1 2))
    refine lv_iconst (v := 1) hx hb dX1_readOf_20 (by decide) ?_
    refine lv_isub hx hb dX1_readOf_21 ?_
    refine lv_topi (fun z21 ez21 => ?_)
    have hz21 : z21.toInt = ((V 49 (Int32.toNatClampNeg (V 1 2)))).toInt - 1 := i_sub ez21 rfl (by decide) (by (first | exact om_d26120b21e66 r20.1 r20.2 | omega))
    have r22 : Int32.toInt 0 = 0 := by decide
    refine gA_int (gA_runV (As := [.int 0, .int z21]) (rest := []) (ci := 1) (q0 := 1) hx hb hml hown hg hP hD hK hS hA hnw hgk (x_takeNumber l D ks H.size ad kk V L Z 0 z21 hMV (show 0 ≤ (Int32.toInt 0) from by first | exact om_1531b20f57e1 r22 | first | omega | ((try (have i_cd := Imp.go cd (by omega))); omega)) (show z21.toInt ≤ 999999999 from by first | exact om_e906e46d6ed1 r20.2 hz21 | first | omega | ((try (have i_cd := Imp.go cd (by omega))); omega))) w906 w908 w12 w162 w909 rfl xgReader hdV_yX1_takeNumber ⟨(by show 1 + 1 ≤ 10 * dd + 11; (first | exact om_76644d12f753 rg_p0.2 y1 | omega)), (by show 8 + (3 + 11) + (21) ≤ 300 * dd + 290; (first | exact om_9205c02eda4d rg_p0.2 y1 | omega))⟩ rfl hl.1 rfl (Nat.le_of_ble_eq_true rfl) dX1_readOf_22 ⟨Nat.le_of_ble_eq_true rfl, Nat.le_of_ble_eq_true rfl⟩) hP hD hK hS hA (fun z23 u24 H locs w25 hP hD hK hS => ?_)
    obtain ⟨V28, L29⟩ := u24
    obtain ⟨hMV28, ajV28, axL29, rgz23, t26, t27⟩ := w25
    have alL29 : agL [6, 44] L L29 := agL.tr alL axL29 (by decide)
    have hP : va_P D vwCl (xw ad kk V28 L29 Z) H := hP
    have hD : va_D A (xw ad kk V28 L29 Z) := hD
    have hMV28 : rgd bX V28 := hMV28
    have ajV28 : agr [(1, 3), (1, 8), (6, 8), (6, 9), (6, 10)] [] V V28 := ajV28
    have agV28 : agr [(1, 3), (1, 6), (1, 8), (6, 8), (6, 9), (6, 10)] [42, 43, 44, 48] V V28 := agV.tr ajV28 (by decide) (by decide)
    have fwV28 : frX (xR b) V V28 := frX.tr fwV (frX.ag ajV28 (by decide) (by decide))
    have rgz23 : 0 ≤ z23.toInt ∧ z23.toInt ≤ 1 := rgz23
    have t26 : Imp (z23.toInt = 1) ((Int32.toInt 0) ≤ (V28 1 8).toInt ∧ (V28 1 8).toInt ≤ z21.toInt) := t26
    have t27 : Imp (z23.toInt = 0) (1 ≤ (V28 1 3).toInt) := t27
    have r30 : 0 ≤ ((V28 1 8)).toInt ∧ ((V28 1 8)).toInt ≤ 999999999 := hMV28 1 8
    refine lv_if_ne (tgt := 30) hx hb dX1_readOf_25 (by decide) (fun c31 => ?_) (fun c31 => ?_)
    · skip
      have f32 : z23.toInt ≠ 0 := b_neq rfl (by decide) c31
      refine lv_aload_n hx hb dX1_readOf_30 rfl (lv_at hl 0 rfl) ?_
      have tn := Imp.go t26 (by (first | exact om_2ebe32d50835 rgz23.1 rgz23.2 f32 | omega))
      refine va_get (D := D) (ci := 1) (v := .int (V28 1 8)) (fs := (xfReader ad V28 L29 Z)) (C := RX1) (T := TX1) (N := 9) hx hb hg inX1 hown hK hP 1 xgReader rfl 8 (by decide) (hg _ w312) (fun _ h9 => h9) rfl dX1_readOf_31 ?_
      refine lv_istore_n (lv' := [(2, .int (V28 1 8)), (0, .ref (ad 1)), (1, .int p0)]) hx hb dX1_readOf_34 rfl hl (by decide) rfl (fun ls hl => ?_)
      refine lv_aload_n hx hb dX1_readOf_35 rfl (lv_at hl 1 rfl) ?_
      refine lv_bipush (v := 46) hx hb dX1_readOf_36 (by decide) ?_
      have r33 : Int32.toInt 46 = 46 := by decide
      refine gA_int (gA_runV (As := [.int 46]) (rest := []) (ci := 1) (q0 := 1) hx hb hml hown hg hP hD hK hS hA hnw hgk (x_take l D ks H.size ad kk V28 L29 Z 46 hMV28 ) w893 w895 w10 w162 w896 rfl xgReader hdV_yX1_take ⟨(by show 1 + 1 ≤ 10 * dd + 11; (first | exact om_76644d12f753 rg_p0.2 y1 | omega)), (by show 8 + (2 + 11) + (21) ≤ 300 * dd + 290; (first | exact om_2270743a1a47 rg_p0.2 y1 | omega))⟩ rfl hl.1 rfl (Nat.le_of_ble_eq_true rfl) dX1_readOf_38 ⟨Nat.le_of_ble_eq_true rfl, Nat.le_of_ble_eq_true rfl⟩) hP hD hK hS hA (fun z34 u35 H locs w36 hP hD hK hS => ?_)
      obtain ⟨V38, L39⟩ := u35
      obtain ⟨hMV38, ajV38, axL39, rgz34, t37⟩ := w36
      have alL39 : agL [6, 44] L L39 := agL.tr alL29 axL39 (by decide)
      have hP : va_P D vwCl (xw ad kk V38 L39 Z) H := hP
      have hD : va_D A (xw ad kk V38 L39 Z) := hD
      have hMV38 : rgd bX V38 := hMV38
      have ajV38 : agr [(1, 3), (6, 8), (6, 9), (6, 10)] [] V28 V38 := ajV38
      have agV38 : agr [(1, 3), (1, 6), (1, 8), (6, 8), (6, 9), (6, 10)] [42, 43, 44, 48] V V38 := agV28.tr ajV38 (by decide) (by decide)
      have fwV38 : frX (xR b) V V38 := frX.tr fwV28 (frX.ag ajV38 (by decide) (by decide))
      have rgz34 : 0 ≤ z34.toInt ∧ z34.toInt ≤ 1 := rgz34
      have t37 : Imp (z34.toInt = 0) (1 ≤ (V38 1 3).toInt) := t37
      refine lv_if_eq (tgt := 52) hx hb dX1_readOf_41 (by decide) (fun c40 => ?_) (fun c40 => ?_)
      · skip
        have f41 : z34.toInt = 0 := b_eq rfl (by decide) c40
        refine lv_iconst (v := 0) hx hb dX1_readOf_52 (by decide) ?_
        have cd42 : CD V38 b := ⟨CB.ag cd.1 (show agr [(1, 3), (1, 8), (6, 8), (6, 9), (6, 10)] [] V V38 from (agr.tr (agr.tr agr.rf ajV28 (by decide) (by decide)) ajV38 (by decide) (by decide))) (fun _ => rfl) (fun _ => rfl), CO.ag cd.2 (show agr [(1, 3), (1, 8), (6, 8), (6, 9), (6, 10)] [] V V38 from (agr.tr (agr.tr agr.rf ajV28 (by decide) (by decide)) ajV38 (by decide) (by decide))) (fun _ => rfl) (fun _ => rfl)⟩
        have px43 : px V V38 b := px.tr (px.rf : px V V b) (px.ag (show agr [(1, 3), (1, 8), (6, 8), (6, 9), (6, 10)] [] V V38 from (agr.tr (agr.tr agr.rf ajV28 (by decide) (by decide)) ajV38 (by decide) (by decide))) (fun _ => rfl) (fun _ => rfl) (fun _ => rfl))
        exact W.zret (v := 0) hx hb hr rfl (fun t ht hW => ⟨⟨0, (V38, L39), rfl, ⟨hMV38, agV38, alL39, fwV38, (by decide), cd42, px43, (Imp.mk (fun _ => (show 1 ≤ (V38 1 3).toInt from by first | exact om_f8d8213eda45 ((Imp.go t37 (f41))) | first | omega | ((try (have i_t37 := Imp.go t37 (f41))); (try (have i_t26 := Imp.go t26 (imp_a (rgz23.1) (rgz23.2) (f32)))); omega) | ((try (have i_t37 := Imp.go t37 (by omega))); (try (have i_t27 := Imp.go t27 (by omega))); (try (have i_t26 := Imp.go t26 (by omega))); (try (have i_cd := Imp.go cd (by omega))); first | omega | ((try (have i_cd := Imp.go cd (by omega))); (try (have i_t26 := Imp.go t26 (by omega))); (try (have i_t27 := Imp.go t27 (by omega))); (try (have i_t37 := Imp.go t37 (by omega))); omega)))))⟩, by rw [ht]; exact hP, va_K.moved hW.alike hK, hD⟩, hS.F ht⟩) hS.2.2 dX1_readOf_53
      · skip
        have f44 : z34.toInt ≠ 0 := b_neq rfl (by decide) c40
        refine lv_aload_n hx hb dX1_readOf_44 rfl (lv_at hl 1 rfl) ?_
        refine lv_null hx hb dX1_readOf_45 ?_
        have pq45 : (V38 1 1).toInt = ((V 1 1)).toInt := congrArg Int32.toInt ((ajV38 1 1 rfl).trans (ajV28 1 1 rfl))
        refine gA_int (gA_runV (As := [.null]) (rest := []) (ci := 1) (q0 := 1) hx hb hml hown hg hP hD hK hS hA hnw hgk (x_takeMethodN l D ks H.size ad kk V38 L39 Z (b) hMV38 (show b < 2 from by first | exact om_f940a4667dd6 hb2 | first | omega | ((try (have i_t26 := Imp.go t26 (imp_a (rgz23.1) (rgz23.2) (f32)))); omega) | ((try (have i_t37 := Imp.go t37 (by omega))); (try (have i_t27 := Imp.go t27 (by omega))); (try (have i_t26 := Imp.go t26 (by omega))); (try (have i_cd := Imp.go cd (by omega))); first | omega | ((try (have i_cd := Imp.go cd (by omega))); (try (have i_t26 := Imp.go t26 (by omega))); (try (have i_t27 := Imp.go t27 (by omega))); (try (have i_t37 := Imp.go t37 (by omega))); omega))) (show (V38 1 1).toInt = (b : Int) from by first | exact om_adf531c77a0d rbk pq45 | first | omega | ((try (have i_t26 := Imp.go t26 (imp_a (rgz23.1) (rgz23.2) (f32)))); omega) | ((try (have i_t37 := Imp.go t37 (by omega))); (try (have i_t27 := Imp.go t27 (by omega))); (try (have i_t26 := Imp.go t26 (by omega))); (try (have i_cd := Imp.go cd (by omega))); first | omega | ((try (have i_cd := Imp.go cd (by omega))); (try (have i_t26 := Imp.go t26 (by omega))); (try (have i_t27 := Imp.go t27 (by omega))); (try (have i_t37 := Imp.go t37 (by omega))); omega)))) w939 w941 w19 w162 w942 rfl xgReader hdV_yX1_takeMethod ⟨(by show 2 + 1 ≤ 10 * dd + 11; (first | exact om_b33b50e4915c rg_p0.2 y1 | omega)), (by show 8 + (3 + 11) + (44) ≤ 300 * dd + 290; (first | exact om_8014749f7565 rg_p0.2 y1 | omega))⟩ rfl hl.1 rfl (Nat.le_of_ble_eq_true rfl) dX1_readOf_46 ⟨Nat.le_of_ble_eq_true rfl, Nat.le_of_ble_eq_true rfl⟩) hP hD hK hS hA (fun z46 u47 H locs w48 hP hD hK hS => ?_)
        obtain ⟨V52, L53⟩ := u47
        obtain ⟨hMV52, ajV52, axL53, fyV52, rgz46, t49, t50, t51⟩ := w48
        have alL53 : agL [6, 44] L L53 := agL.tr alL39 axL53 (by decide)
        have hP : va_P D vwCl (xw ad kk V52 L53 Z) H := hP
        have hD : va_D A (xw ad kk V52 L53 Z) := hD
        have hMV52 : rgd bX V52 := hMV52
        have ajV52 : agr [(1, 3), (1, 6), (6, 8), (6, 9), (6, 10)] [43, 44] V38 V52 := ajV52
        have agV52 : agr [(1, 3), (1, 6), (1, 8), (6, 8), (6, 9), (6, 10)] [42, 43, 44, 48] V V52 := agV38.tr ajV52 (by decide) (by decide)
        have fwV52 : frX (xR b) V V52 := frX.tr fwV38 (fyV52)
        have rgz46 : 0 ≤ z46.toInt ∧ z46.toInt ≤ 1 := rgz46
        have t49 : Imp (z46.toInt = 1) (0 ≤ (V52 1 6).toInt ∧ (V52 1 6).toInt ≤ 19) := t49
        have t50 : px V38 V52 b := t50
        have t51 : Imp (z46.toInt = 0) (1 ≤ (V52 1 3).toInt) := t51
        have r54 : (-1) ≤ ((V52 1 6)).toInt ∧ ((V52 1 6)).toInt ≤ 23 := hMV52 1 6
        refine lv_if_ne (tgt := 54) hx hb dX1_readOf_49 (by decide) (fun c55 => ?_) (fun c55 => ?_)
        · skip
          have f56 : z46.toInt ≠ 0 := b_neq rfl (by decide) c55
          refine lv_aload_n hx hb dX1_readOf_54 rfl (lv_at hl 1 rfl) ?_
          refine va_get (D := D) (ci := 1) (v := .int (V52 1 6)) (fs := (xfReader ad V52 L53 Z)) (C := RX1) (T := TX1) (N := 9) hx hb hg inX1 hown hK hP 1 xgReader rfl 6 (by decide) (hg _ w310) (fun _ h9 => h9) rfl dX1_readOf_55 ?_
          have tm := Imp.go t49 (by (first | exact om_2ebe32d50835 rgz46.1 rgz46.2 f56 | omega))
          refine lv_istore_n (lv' := [(3, .int (V52 1 6)), (2, .int (V28 1 8)), (0, .ref (ad 1)), (1, .int p0)]) hx hb dX1_readOf_58 rfl hl (by decide) rfl (fun ls hl => ?_)
          refine lv_aload_n hx hb dX1_readOf_59 rfl (lv_at hl 2 rfl) ?_
          refine lv_iload_n hx hb dX1_readOf_60 rfl (lv_at hl 3 rfl) ?_
          have pq57 : (V52 1 1).toInt = ((V 1 1)).toInt := congrArg Int32.toInt ((ajV52 1 1 rfl).trans ((ajV38 1 1 rfl).trans (ajV28 1 1 rfl)))
          have cd58 : CD V52 b := ⟨CB.ag cd.1 (show agr [(1, 3), (1, 6), (1, 8), (6, 8), (6, 9), (6, 10)] [43, 44] V V52 from (agr.tr (agr.tr (agr.tr agr.rf ajV28 (by decide) (by decide)) ajV38 (by decide) (by decide)) ajV52 (by decide) (by decide))) (fun _ => rfl) (fun _ => rfl), CO.ag cd.2 (show agr [(1, 3), (1, 6), (1, 8), (6, 8), (6, 9), (6, 10)] [43, 44] V V52 from (agr.tr (agr.tr (agr.tr agr.rf ajV28 (by decide) (by decide)) ajV38 (by decide) (by decide)) ajV52 (by decide) (by decide))) (fun _ => rfl) (fun _ => rfl)⟩
          refine gA_int (gA_runV (As := [.int p0]) (rest := []) (ci := 1) (q0 := 1) hx hb hml hown hg hP hD hK hS hA hnw hgk (hk_x_readWithin H.size ad kk V52 L53 Z p0 (b) hMV52 (by first | exact om_8da659b97699 rg_p0.1 rg_p0.2 | first | omega | ((try (have i_t49 := Imp.go t49 (imp_a (rgz46.1) (rgz46.2) (f56)))); (try (have i_t26 := Imp.go t26 (imp_a (rgz23.1) (rgz23.2) (f32)))); omega) | ((try (have i_t51 := Imp.go t51 (by omega))); (try (have i_t49 := Imp.go t49 (by omega))); (try (have i_t37 := Imp.go t37 (by omega))); (try (have i_t27 := Imp.go t27 (by omega))); first | omega | ((try (have i_t26 := Imp.go t26 (by omega))); (try (have i_cd := Imp.go cd (by omega))); (try (have i_cd := Imp.go cd (by omega))); (try (have i_t26 := Imp.go t26 (by omega))); first | omega | ((try (have i_t27 := Imp.go t27 (by omega))); (try (have i_t37 := Imp.go t37 (by omega))); (try (have i_t49 := Imp.go t49 (by omega))); (try (have i_t51 := Imp.go t51 (by omega))); omega)))) (show b < 2 from by first | exact om_f940a4667dd6 hb2 | first | omega | ((try (have i_t49 := Imp.go t49 (imp_a (rgz46.1) (rgz46.2) (f56)))); (try (have i_t26 := Imp.go t26 (imp_a (rgz23.1) (rgz23.2) (f32)))); omega) | ((try (have i_t51 := Imp.go t51 (by omega))); (try (have i_t49 := Imp.go t49 (by omega))); (try (have i_t37 := Imp.go t37 (by omega))); (try (have i_t27 := Imp.go t27 (by omega))); first | omega | ((try (have i_t26 := Imp.go t26 (by omega))); (try (have i_cd := Imp.go cd (by omega))); (try (have i_cd := Imp.go cd (by omega))); (try (have i_t26 := Imp.go t26 (by omega))); first | omega | ((try (have i_t27 := Imp.go t27 (by omega))); (try (have i_t37 := Imp.go t37 (by omega))); (try (have i_t49 := Imp.go t49 (by omega))); (try (have i_t51 := Imp.go t51 (by omega))); omega)))) (show (V52 1 1).toInt = (b : Int) from by first | exact om_adf531c77a0d rbk pq57 | first | omega | ((try (have i_t49 := Imp.go t49 (imp_a (rgz46.1) (rgz46.2) (f56)))); (try (have i_t26 := Imp.go t26 (imp_a (rgz23.1) (rgz23.2) (f32)))); omega) | ((try (have i_t51 := Imp.go t51 (by omega))); (try (have i_t49 := Imp.go t49 (by omega))); (try (have i_t37 := Imp.go t37 (by omega))); (try (have i_t27 := Imp.go t27 (by omega))); first | omega | ((try (have i_t26 := Imp.go t26 (by omega))); (try (have i_cd := Imp.go cd (by omega))); (try (have i_cd := Imp.go cd (by omega))); (try (have i_t26 := Imp.go t26 (by omega))); first | omega | ((try (have i_t27 := Imp.go t27 (by omega))); (try (have i_t37 := Imp.go t37 (by omega))); (try (have i_t49 := Imp.go t49 (by omega))); (try (have i_t51 := Imp.go t51 (by omega))); omega)))) cd58 (show 7 - p0.toInt ≤ (dd : Int) from by first | exact om_300a5a5f0a99 y1 | first | omega | ((try (have i_t49 := Imp.go t49 (imp_a (rgz46.1) (rgz46.2) (f56)))); (try (have i_t26 := Imp.go t26 (imp_a (rgz23.1) (rgz23.2) (f32)))); omega) | ((try (have i_t51 := Imp.go t51 (by omega))); (try (have i_t49 := Imp.go t49 (by omega))); (try (have i_t37 := Imp.go t37 (by omega))); (try (have i_t27 := Imp.go t27 (by omega))); first | omega | ((try (have i_t26 := Imp.go t26 (by omega))); (try (have i_cd := Imp.go cd (by omega))); (try (have i_cd := Imp.go cd (by omega))); (try (have i_t26 := Imp.go t26 (by omega))); first | omega | ((try (have i_t27 := Imp.go t27 (by omega))); (try (have i_t37 := Imp.go t37 (by omega))); (try (have i_t49 := Imp.go t49 (by omega))); (try (have i_t51 := Imp.go t51 (by omega))); omega))))) w995 w997 w30 w162 w998 rfl xgReader hdV_yX1_readWithin ⟨(by show 10 * dd + 10 + 1 ≤ 10 * dd + 11; (first | exact om_1b07785c3efa | omega)), (by show 8 + (2 + 11) + (300 * dd + 265) ≤ 300 * dd + 290; (first | exact om_f60e36d76712 | omega))⟩ rfl hl.1 rfl (Nat.le_of_ble_eq_true rfl) dX1_readOf_61 ⟨Nat.le_of_ble_eq_true rfl, Nat.le_of_ble_eq_true rfl⟩) hP hD hK hS hA (fun z59 u60 H locs w61 hP hD hK hS => ?_)
          obtain ⟨V65, L66⟩ := u60
          obtain ⟨hMV65, ajV65, axL66, fyV65, rgz59, t62, t63, t64⟩ := w61
          have alL66 : agL [6, 44] L L66 := agL.tr alL53 axL66 (by decide)
          have hP : va_P D vwCl (xw ad kk V65 L66 Z) H := hP
          have hD : va_D A (xw ad kk V65 L66 Z) := hD
          have hMV65 : rgd bX V65 := hMV65
          have ajV65 : agr [(1, 3), (1, 6), (1, 8), (6, 8), (6, 9), (6, 10)] [42, 43, 44, 48] V52 V65 := ajV65
          have agV65 : agr [(1, 3), (1, 6), (1, 8), (6, 8), (6, 9), (6, 10)] [42, 43, 44, 48] V V65 := agV52.tr ajV65 (by decide) (by decide)
          have fwV65 : frX (xR b) V V65 := frX.tr fwV52 (fyV65)
          have rgz59 : 0 ≤ z59.toInt ∧ z59.toInt ≤ 1 := rgz59
          have t62 : CD V65 b := t62
          have t63 : px V52 V65 b := t63
          have t64 : Imp (z59.toInt = 0) (1 ≤ (V65 1 3).toInt) := t64
          refine lv_if_ne (tgt := 69) hx hb dX1_readOf_64 (by decide) (fun c67 => ?_) (fun c67 => ?_)
          · skip
            have f68 : z59.toInt ≠ 0 := b_neq rfl (by decide) c67
            refine lv_aload_n hx hb dX1_readOf_69 rfl (lv_at hl 2 rfl) ?_
            refine lv_bipush (v := 15) hx hb dX1_readOf_70 (by decide) ?_
            refine lv_iload_n hx hb dX1_readOf_72 rfl (lv_at hl 1 rfl) ?_
            refine lv_bipush (v := 20) hx hb dX1_readOf_73 (by decide) ?_
            refine lv_imul hx hb dX1_readOf_75 ?_
            refine lv_topi (fun z69 ez69 => ?_)
            have hz69 : z69.toInt = ((V28 1 8)).toInt * 20 := i_mul ez69 rfl (by decide) (by (first | exact om_21eb26797a78 r20.2 hz21 r30.1 tn.2 | omega))
            refine lv_iload_n hx hb dX1_readOf_76 rfl (lv_at hl 0 rfl) ?_
            refine lv_iadd hx hb dX1_readOf_77 ?_
            refine lv_topi (fun z70 ez70 => ?_)
            have hz70 : z70.toInt = z69.toInt + ((V52 1 6)).toInt := i_add ez70 rfl rfl (by (first | exact om_6aee4acdb39f r20.2 hz21 r30.1 tn.2 tm.1 tm.2 hz69 | omega))
            have r71 : Int32.toInt 15 = 15 := by decide
            have pq72 : (V65 1 1).toInt = ((V 1 1)).toInt := congrArg Int32.toInt ((ajV65 1 1 rfl).trans ((ajV52 1 1 rfl).trans ((ajV38 1 1 rfl).trans (ajV28 1 1 rfl))))
            refine gA_int (gA_runV (As := [.int 15, .int z70]) (rest := []) (ci := 1) (q0 := 1) hx hb hml hown hg hP hD hK hS hA hnw hgk (x_put l D ks H.size ad kk V65 L66 Z 15 z70 (b) hMV65 (by decide) (show b < 2 from by first | exact om_f940a4667dd6 hb2 | first | omega | ((try (have i_t49 := Imp.go t49 (imp_a (rgz46.1) (rgz46.2) (f56)))); (try (have i_t26 := Imp.go t26 (imp_a (rgz23.1) (rgz23.2) (f32)))); omega) | ((try (have i_t64 := Imp.go t64 (by omega))); (try (have i_t51 := Imp.go t51 (by omega))); (try (have i_t49 := Imp.go t49 (by omega))); (try (have i_t37 := Imp.go t37 (by omega))); first | omega | ((try (have i_t27 := Imp.go t27 (by omega))); (try (have i_t26 := Imp.go t26 (by omega))); (try (have i_cd := Imp.go cd (by omega))); (try (have i_cd := Imp.go cd (by omega))); first | omega | ((try (have i_t26 := Imp.go t26 (by omega))); (try (have i_t27 := Imp.go t27 (by omega))); (try (have i_t37 := Imp.go t37 (by omega))); (try (have i_t49 := Imp.go t49 (by omega))); (try (have i_t51 := Imp.go t51 (by omega))); (try (have i_t64 := Imp.go t64 (by omega))); omega)))) (show (V65 1 1).toInt = (b : Int) from by first | exact om_adf531c77a0d rbk pq72 | first | omega | ((try (have i_t49 := Imp.go t49 (imp_a (rgz46.1) (rgz46.2) (f56)))); (try (have i_t26 := Imp.go t26 (imp_a (rgz23.1) (rgz23.2) (f32)))); omega) | ((try (have i_t64 := Imp.go t64 (by omega))); (try (have i_t51 := Imp.go t51 (by omega))); (try (have i_t49 := Imp.go t49 (by omega))); (try (have i_t37 := Imp.go t37 (by omega))); first | omega | ((try (have i_t27 := Imp.go t27 (by omega))); (try (have i_t26 := Imp.go t26 (by omega))); (try (have i_cd := Imp.go cd (by omega))); (try (have i_cd := Imp.go cd (by omega))); first | omega | ((try (have i_t26 := Imp.go t26 (by omega))); (try (have i_t27 := Imp.go t27 (by omega))); (try (have i_t37 := Imp.go t37 (by omega))); (try (have i_t49 := Imp.go t49 (by omega))); (try (have i_t51 := Imp.go t51 (by omega))); (try (have i_t64 := Imp.go t64 (by omega))); omega)))) t62 (Imp.mk (fun hp => absurd hp (by decide))) (Imp.mk (fun _ => (show 0 ≤ z70.toInt ∧ z70.toInt ≤ 159 from by first | exact om_06dd162e2c38 r20.2 hz21 r30.1 hz69 hz70 ((Imp.go t26 (imp_a (rgz23.1) (rgz23.2) (f32))).2) ((Imp.go t49 (imp_a (rgz46.1) (rgz46.2) (f56))).1) ((Imp.go t49 (imp_a (rgz46.1) (rgz46.2) (f56))).2) | first | omega | ((try (have i_t49 := Imp.go t49 (imp_a (rgz46.1) (rgz46.2) (f56)))); (try (have i_t26 := Imp.go t26 (imp_a (rgz23.1) (rgz23.2) (f32)))); omega) | ((try (have i_t64 := Imp.go t64 (by omega))); (try (have i_t51 := Imp.go t51 (by omega))); (try (have i_t49 := Imp.go t49 (by omega))); (try (have i_t37 := Imp.go t37 (by omega))); first | omega | ((try (have i_t27 := Imp.go t27 (by omega))); (try (have i_t26 := Imp.go t26 (by omega))); (try (have i_cd := Imp.go cd (by omega))); (try (have i_cd := Imp.go cd (by omega))); first | omega | ((try (have i_t26 := Imp.go t26 (by omega))); (try (have i_t27 := Imp.go t27 (by omega))); (try (have i_t37 := Imp.go t37 (by omega))); (try (have i_t49 := Imp.go t49 (by omega))); (try (have i_t51 := Imp.go t51 (by omega))); (try (have i_t64 := Imp.go t64 (by omega))); omega)))))) (Imp.mk (fun hp => have hp : (Int32.toInt 15) = 13 ∨ (Int32.toInt 15) = 14 := hp; (show z70.toInt = 0 from by first | omega | ((try (have i_t49 := Imp.go t49 (imp_a (rgz46.1) (rgz46.2) (f56)))); (try (have i_t26 := Imp.go t26 (imp_a (rgz23.1) (rgz23.2) (f32)))); omega) | ((try (have i_t64 := Imp.go t64 (by omega))); (try (have i_t51 := Imp.go t51 (by omega))); (try (have i_t49 := Imp.go t49 (by omega))); (try (have i_t37 := Imp.go t37 (by omega))); first | omega | ((try (have i_t27 := Imp.go t27 (by omega))); (try (have i_t26 := Imp.go t26 (by omega))); (try (have i_cd := Imp.go cd (by omega))); (try (have i_cd := Imp.go cd (by omega))); first | omega | ((try (have i_t26 := Imp.go t26 (by omega))); (try (have i_t27 := Imp.go t27 (by omega))); (try (have i_t37 := Imp.go t37 (by omega))); (try (have i_t49 := Imp.go t49 (by omega))); (try (have i_t51 := Imp.go t51 (by omega))); (try (have i_t64 := Imp.go t64 (by omega))); omega))))))) w975 w977 w26 w162 w978 rfl xgReader hdV_yX1_put ⟨(by show 1 + 1 ≤ 10 * dd + 11; (first | exact om_76644d12f753 rg_p0.2 y1 | omega)), (by show 8 + (3 + 11) + (21) ≤ 300 * dd + 290; (first | exact om_9205c02eda4d rg_p0.2 y1 | omega))⟩ rfl hl.1 rfl (Nat.le_of_ble_eq_true rfl) dX1_readOf_78 ⟨Nat.le_of_ble_eq_true rfl, Nat.le_of_ble_eq_true rfl⟩) hP hD hK hS hA (fun z73 u74 H locs w75 hP hD hK hS => ?_)
            obtain ⟨V79, L80⟩ := u74
            obtain ⟨hMV79, ajV79, axL80, fyV79, rgz73, t76, t77, t78⟩ := w75
            have axL80 : L66 = L80 := Eq.symm axL80
            subst axL80
            have hP : va_P D vwCl (xw ad kk V79 L66 Z) H := hP
            have hD : va_D A (xw ad kk V79 L66 Z) := hD
            have hMV79 : rgd bX V79 := hMV79
            have ajV79 : agr [] [42, 48] V65 V79 := ajV79
            have agV79 : agr [(1, 3), (1, 6), (1, 8), (6, 8), (6, 9), (6, 10)] [42, 43, 44, 48] V V79 := agV65.tr ajV79 (by decide) (by decide)
            have fwV79 : frX (xR b) V V79 := frX.tr fwV65 (fyV79)
            have rgz73 : 1 ≤ z73.toInt ∧ z73.toInt ≤ 1 := rgz73
            have t76 : Imp ((Int32.toInt 15) = 13 ∨ (Int32.toInt 15) = 14) (jp V79 b (V65 42 b).toInt.toNat) := t76
            have t77 : CD V79 b := t77
            have t78 : px V65 V79 b := t78
            have pq81 : (V79 1 3).toInt = ((V65 1 3)).toInt := congrArg Int32.toInt (ajV79 1 3 rfl)
            have px82 : px V V38 b := px.tr (px.rf : px V V b) (px.ag (show agr [(1, 3), (1, 8), (6, 8), (6, 9), (6, 10)] [] V V38 from (agr.tr (agr.tr agr.rf ajV28 (by decide) (by decide)) ajV38 (by decide) (by decide))) (fun _ => rfl) (fun _ => rfl) (fun _ => rfl))
            have px83 : px V V52 b := px.tr px82 t50
            have px84 : px V V65 b := px.tr px83 t63
            have px85 : px V V79 b := px.tr px84 t78
            exact W.zret (v := z73) hx hb hr (nb_ok (by omega)) (fun t ht hW => ⟨⟨z73, (V79, L66), rfl, ⟨hMV79, agV79, alL66, fwV79, (show 0 ≤ z73.toInt ∧ z73.toInt ≤ 1 from by first | exact om_1e6c034e3eac rgz73.1 rgz73.2 | first | omega | ((try (have i_t49 := Imp.go t49 (imp_a (rgz46.1) (rgz46.2) (f56)))); (try (have i_t26 := Imp.go t26 (imp_a (rgz23.1) (rgz23.2) (f32)))); omega) | ((try (have i_t64 := Imp.go t64 (by omega))); (try (have i_t51 := Imp.go t51 (by omega))); (try (have i_t49 := Imp.go t49 (by omega))); (try (have i_t37 := Imp.go t37 (by omega))); first | omega | ((try (have i_t27 := Imp.go t27 (by omega))); (try (have i_t26 := Imp.go t26 (by omega))); (try (have i_cd := Imp.go cd (by omega))); (try (have i_cd := Imp.go cd (by omega))); first | omega | ((try (have i_t26 := Imp.go t26 (by omega))); (try (have i_t27 := Imp.go t27 (by omega))); (try (have i_t37 := Imp.go t37 (by omega))); (try (have i_t49 := Imp.go t49 (by omega))); (try (have i_t51 := Imp.go t51 (by omega))); (try (have i_t64 := Imp.go t64 (by omega))); omega)))), t77, px85, (Imp.mk (fun hp => have hp : z73.toInt = 0 := hp; (show 1 ≤ (V79 1 3).toInt from by first | omega | ((try (have i_t49 := Imp.go t49 (imp_a (rgz46.1) (rgz46.2) (f56)))); (try (have i_t26 := Imp.go t26 (imp_a (rgz23.1) (rgz23.2) (f32)))); omega) | ((try (have i_t64 := Imp.go t64 (by omega))); (try (have i_t51 := Imp.go t51 (by omega))); (try (have i_t49 := Imp.go t49 (by omega))); (try (have i_t37 := Imp.go t37 (by omega))); first | omega | ((try (have i_t27 := Imp.go t27 (by omega))); (try (have i_t26 := Imp.go t26 (by omega))); (try (have i_cd := Imp.go cd (by omega))); (try (have i_cd := Imp.go cd (by omega))); first | omega | ((try (have i_t26 := Imp.go t26 (by omega))); (try (have i_t27 := Imp.go t27 (by omega))); (try (have i_t37 := Imp.go t37 (by omega))); (try (have i_t49 := Imp.go t49 (by omega))); (try (have i_t51 := Imp.go t51 (by omega))); (try (have i_t64 := Imp.go t64 (by omega))); omega))))))⟩, by rw [ht]; exact hP, va_K.moved hW.alike hK, hD⟩, hS.F ht⟩) hS.2.2 dX1_readOf_81
          · skip
            have f86 : z59.toInt = 0 := b_eq rfl (by decide) c67
            refine lv_iconst (v := 0) hx hb dX1_readOf_67 (by decide) ?_
            have px87 : px V V38 b := px.tr (px.rf : px V V b) (px.ag (show agr [(1, 3), (1, 8), (6, 8), (6, 9), (6, 10)] [] V V38 from (agr.tr (agr.tr agr.rf ajV28 (by decide) (by decide)) ajV38 (by decide) (by decide))) (fun _ => rfl) (fun _ => rfl) (fun _ => rfl))
            have px88 : px V V52 b := px.tr px87 t50
            have px89 : px V V65 b := px.tr px88 t63
            exact W.zret (v := 0) hx hb hr rfl (fun t ht hW => ⟨⟨0, (V65, L66), rfl, ⟨hMV65, agV65, alL66, fwV65, (by decide), t62, px89, (Imp.mk (fun _ => (show 1 ≤ (V65 1 3).toInt from by first | exact om_f8d8213eda45 ((Imp.go t64 (f86))) | first | omega | ((try (have i_t64 := Imp.go t64 (f86))); (try (have i_t49 := Imp.go t49 (imp_a (rgz46.1) (rgz46.2) (f56)))); (try (have i_t26 := Imp.go t26 (imp_a (rgz23.1) (rgz23.2) (f32)))); omega) | ((try (have i_t64 := Imp.go t64 (by omega))); (try (have i_t51 := Imp.go t51 (by omega))); (try (have i_t49 := Imp.go t49 (by omega))); (try (have i_t37 := Imp.go t37 (by omega))); first | omega | ((try (have i_t27 := Imp.go t27 (by omega))); (try (have i_t26 := Imp.go t26 (by omega))); (try (have i_cd := Imp.go cd (by omega))); (try (have i_cd := Imp.go cd (by omega))); first | omega | ((try (have i_t26 := Imp.go t26 (by omega))); (try (have i_t27 := Imp.go t27 (by omega))); (try (have i_t37 := Imp.go t37 (by omega))); (try (have i_t49 := Imp.go t49 (by omega))); (try (have i_t51 := Imp.go t51 (by omega))); (try (have i_t64 := Imp.go t64 (by omega))); omega))))))⟩, by rw [ht]; exact hP, va_K.moved hW.alike hK, hD⟩, hS.F ht⟩) hS.2.2 dX1_readOf_68
        · skip
          have f90 : z46.toInt = 0 := b_eq rfl (by decide) c55
          refine lv_iconst (v := 0) hx hb dX1_readOf_52 (by decide) ?_
          have cd91 : CD V52 b := ⟨CB.ag cd.1 (show agr [(1, 3), (1, 6), (1, 8), (6, 8), (6, 9), (6, 10)] [43, 44] V V52 from (agr.tr (agr.tr (agr.tr agr.rf ajV28 (by decide) (by decide)) ajV38 (by decide) (by decide)) ajV52 (by decide) (by decide))) (fun _ => rfl) (fun _ => rfl), CO.ag cd.2 (show agr [(1, 3), (1, 6), (1, 8), (6, 8), (6, 9), (6, 10)] [43, 44] V V52 from (agr.tr (agr.tr (agr.tr agr.rf ajV28 (by decide) (by decide)) ajV38 (by decide) (by decide)) ajV52 (by decide) (by decide))) (fun _ => rfl) (fun _ => rfl)⟩
          have px92 : px V V38 b := px.tr (px.rf : px V V b) (px.ag (show agr [(1, 3), (1, 8), (6, 8), (6, 9), (6, 10)] [] V V38 from (agr.tr (agr.tr agr.rf ajV28 (by decide) (by decide)) ajV38 (by decide) (by decide))) (fun _ => rfl) (fun _ => rfl) (fun _ => rfl))
          have px93 : px V V52 b := px.tr px92 t50
          exact W.zret (v := 0) hx hb hr rfl (fun t ht hW => ⟨⟨0, (V52, L53), rfl, ⟨hMV52, agV52, alL53, fwV52, (by decide), cd91, px93, (Imp.mk (fun _ => (show 1 ≤ (V52 1 3).toInt from by first | exact om_f8d8213eda45 ((Imp.go t51 (f90))) | first | omega | ((try (have i_t51 := Imp.go t51 (f90))); (try (have i_t26 := Imp.go t26 (imp_a (rgz23.1) (rgz23.2) (f32)))); omega) | ((try (have i_t51 := Imp.go t51 (by omega))); (try (have i_t49 := Imp.go t49 (by omega))); (try (have i_t37 := Imp.go t37 (by omega))); (try (have i_t27 := Imp.go t27 (by omega))); first | omega | ((try (have i_t26 := Imp.go t26 (by omega))); (try (have i_cd := Imp.go cd (by omega))); (try (have i_cd := Imp.go cd (by omega))); (try (have i_t26 := Imp.go t26 (by omega))); first | omega | ((try (have i_t27 := Imp.go t27 (by omega))); (try (have i_t37 := Imp.go t37 (by omega))); (try (have i_t49 := Imp.go t49 (by omega))); (try (have i_t51 := Imp.go t51 (by omega))); omega))))))⟩, by rw [ht]; exact hP, va_K.moved hW.alike hK, hD⟩, hS.F ht⟩) hS.2.2 dX1_readOf_53
    · skip
      have f94 : z23.toInt = 0 := b_eq rfl (by decide) c31
      refine lv_iconst (v := 0) hx hb dX1_readOf_28 (by decide) ?_
      have cd95 : CD V28 b := ⟨CB.ag cd.1 (show agr [(1, 3), (1, 8), (6, 8), (6, 9), (6, 10)] [] V V28 from (agr.tr agr.rf ajV28 (by decide) (by decide))) (fun _ => rfl) (fun _ => rfl), CO.ag cd.2 (show agr [(1, 3), (1, 8), (6, 8), (6, 9), (6, 10)] [] V V28 from (agr.tr agr.rf ajV28 (by decide) (by decide))) (fun _ => rfl) (fun _ => rfl)⟩
      have px96 : px V V28 b := px.tr (px.rf : px V V b) (px.ag (show agr [(1, 3), (1, 8), (6, 8), (6, 9), (6, 10)] [] V V28 from (agr.tr agr.rf ajV28 (by decide) (by decide))) (fun _ => rfl) (fun _ => rfl) (fun _ => rfl))
      exact W.zret (v := 0) hx hb hr rfl (fun t ht hW => ⟨⟨0, (V28, L29), rfl, ⟨hMV28, agV28, alL29, fwV28, (by decide), cd95, px96, (Imp.mk (fun _ => (show 1 ≤ (V28 1 3).toInt from by first | exact om_f8d8213eda45 ((Imp.go t27 (f94))) | first | omega | ((try (have i_t27 := Imp.go t27 (by omega))); (try (have i_t26 := Imp.go t26 (by omega))); (try (have i_cd := Imp.go cd (by omega))); (try (have i_cd := Imp.go cd (by omega))); (try (have i_t26 := Imp.go t26 (by omega))); (try (have i_t27 := Imp.go t27 (by omega))); omega))))⟩, by rw [ht]; exact hP, va_K.moved hW.alike hK, hD⟩, hS.F ht⟩) hS.2.2 dX1_readOf_29
set_option maxHeartbeats 4000000 in
set_option maxRecDepth 100000 in
theorem x_readPick {l : Launch} {D : va_G} {ks : KS} {dd : Nat} (hk_x_readExpression : K_x_readExpression l D ks dd) : K_x_readPick l D ks dd := by
  intro sz ad kk V L Z p0 b hMV rg_p0 hb2 rbk cd y1
  refine g_met (q_x_readPick D ks ad kk V L Z p0 b) (by decide) (Nat.le_of_ble_eq_true rfl) ?_
  intro p e s m below meth c A ls H locs hx hb hr hml hown hg hlocks hin hnw hgk hP hK hD hS hA hl
  have hown : s.vm.findClass RX1 = some m.cls := hown
  have hl : lv_has ls 4 [(0, .ref (ad 1)), (1, .int p0)] := hl
  have hP : va_P D vwCl (xw ad kk V L Z) H := hP
  have hD : va_D A (xw ad kk V L Z) := hD
  have hK : va_K D vwCl (xty kk Z) s := hK
  have agV : agr [(1, 3), (1, 6), (1, 8), (6, 8), (6, 9), (6, 10)] [42, 43, 44, 48] V V := agr.rf
  have alL : agL [6, 44] L L := agL.rf
  have fwV : frX (xR b) V V := frX.rf
  have r1 : (-1) ≤ ((V 1 1)).toInt ∧ ((V 1 1)).toInt ≤ 1 := hMV 1 1
  refine lv_aload_n hx hb dX1_readPick_0 rfl (lv_at hl 0 rfl) ?_
  refine lv_bipush (v := 40) hx hb dX1_readPick_1 (by decide) ?_
  have r2 : Int32.toInt 40 = 40 := by decide
  refine gA_int (gA_runV (As := [.int 40]) (rest := []) (ci := 1) (q0 := 1) hx hb hml hown hg hP hD hK hS hA hnw hgk (x_take l D ks H.size ad kk V L Z 40 hMV ) w893 w895 w10 w162 w896 rfl xgReader hdV_yX1_take ⟨(by show 1 + 1 ≤ 10 * dd + 10; (first | exact om_162fc0655431 rg_p0.2 y1 | omega)), (by show 8 + (2 + 11) + (21) ≤ 300 * dd + 265; (first | exact om_cb5b29a579d3 rg_p0.2 y1 | omega))⟩ rfl hl.1 rfl (Nat.le_of_ble_eq_true rfl) dX1_readPick_3 ⟨Nat.le_of_ble_eq_true rfl, Nat.le_of_ble_eq_true rfl⟩) hP hD hK hS hA (fun z3 u4 H locs w5 hP hD hK hS => ?_)
  obtain ⟨V7, L8⟩ := u4
  obtain ⟨hMV7, ajV7, axL8, rgz3, t6⟩ := w5
  have alL8 : agL [6, 44] L L8 := agL.tr alL axL8 (by decide)
  have hP : va_P D vwCl (xw ad kk V7 L8 Z) H := hP
  have hD : va_D A (xw ad kk V7 L8 Z) := hD
  have hMV7 : rgd bX V7 := hMV7
  have ajV7 : agr [(1, 3), (6, 8), (6, 9), (6, 10)] [] V V7 := ajV7
  have agV7 : agr [(1, 3), (1, 6), (1, 8), (6, 8), (6, 9), (6, 10)] [42, 43, 44, 48] V V7 := agV.tr ajV7 (by decide) (by decide)
  have fwV7 : frX (xR b) V V7 := frX.tr fwV (frX.ag ajV7 (by decide) (by decide))
  have rgz3 : 0 ≤ z3.toInt ∧ z3.toInt ≤ 1 := rgz3
  have t6 : Imp (z3.toInt = 0) (1 ≤ (V7 1 3).toInt) := t6
  refine lv_if_eq (tgt := 28) hx hb dX1_readPick_6 (by decide) (fun c9 => ?_) (fun c9 => ?_)
  · skip
    have f10 : z3.toInt = 0 := b_eq rfl (by decide) c9
    refine lv_iconst (v := 0) hx hb dX1_readPick_28 (by decide) ?_
    have cd11 : CD V7 b := ⟨CB.ag cd.1 (show agr [(1, 3), (6, 8), (6, 9), (6, 10)] [] V V7 from (agr.tr agr.rf ajV7 (by decide) (by decide))) (fun _ => rfl) (fun _ => rfl), CO.ag cd.2 (show agr [(1, 3), (6, 8), (6, 9), (6, 10)] [] V V7 from (agr.tr agr.rf ajV7 (by decide) (by decide))) (fun _ => rfl) (fun _ => rfl)⟩
    have px12 : px V V7 b := px.tr (px.rf : px V V b) (px.ag (show agr [(1, 3), (6, 8), (6, 9), (6, 10)] [] V V7 from (agr.tr agr.rf ajV7 (by decide) (by decide))) (fun _ => rfl) (fun _ => rfl) (fun _ => rfl))
    exact W.zret (v := 0) hx hb hr rfl (fun t ht hW => ⟨⟨0, (V7, L8), rfl, ⟨hMV7, agV7, alL8, fwV7, (by decide), cd11, px12, (Imp.mk (fun _ => (show 1 ≤ (V7 1 3).toInt from by first | exact om_f8d8213eda45 ((Imp.go t6 (f10))) | first | omega | ((try (have i_t6 := Imp.go t6 (by omega))); (try (have i_cd := Imp.go cd (by omega))); (try (have i_cd := Imp.go cd (by omega))); (try (have i_t6 := Imp.go t6 (by omega))); omega))))⟩, by rw [ht]; exact hP, va_K.moved hW.alike hK, hD⟩, hS.F ht⟩) hS.2.2 dX1_readPick_29
  · skip
    have f13 : z3.toInt ≠ 0 := b_neq rfl (by decide) c9
    refine lv_aload_n hx hb dX1_readPick_9 rfl (lv_at hl 0 rfl) ?_
    refine lv_iload_n hx hb dX1_readPick_10 rfl (lv_at hl 1 rfl) ?_
    refine lv_iconst (v := 1) hx hb dX1_readPick_11 (by decide) ?_
    refine lv_iadd hx hb dX1_readPick_12 ?_
    refine lv_topi (fun z14 ez14 => ?_)
    have hz14 : z14.toInt = p0.toInt + 1 := i_add ez14 rfl (by decide) (by (first | exact om_7833cbc177ca rg_p0.1 rg_p0.2 | omega))
    have pq15 : (V7 1 1).toInt = ((V 1 1)).toInt := congrArg Int32.toInt (ajV7 1 1 rfl)
    have cd16 : CD V7 b := ⟨CB.ag cd.1 (show agr [(1, 3), (6, 8), (6, 9), (6, 10)] [] V V7 from (agr.tr agr.rf ajV7 (by decide) (by decide))) (fun _ => rfl) (fun _ => rfl), CO.ag cd.2 (show agr [(1, 3), (6, 8), (6, 9), (6, 10)] [] V V7 from (agr.tr agr.rf ajV7 (by decide) (by decide))) (fun _ => rfl) (fun _ => rfl)⟩
    refine gA_int (gA_runV (As := [.int z14]) (rest := []) (ci := 1) (q0 := 1) hx hb hml hown hg hP hD hK hS hA hnw hgk (hk_x_readExpression H.size ad kk V7 L8 Z z14 (b) hMV7 (by first | exact om_b66aae6510dc rg_p0.1 rg_p0.2 hz14 | first | omega | ((try (have i_t6 := Imp.go t6 (by omega))); (try (have i_cd := Imp.go cd (by omega))); (try (have i_cd := Imp.go cd (by omega))); (try (have i_t6 := Imp.go t6 (by omega))); omega)) (show b < 2 from by first | exact om_f940a4667dd6 hb2 | first | omega | ((try (have i_t6 := Imp.go t6 (by omega))); (try (have i_cd := Imp.go cd (by omega))); (try (have i_cd := Imp.go cd (by omega))); (try (have i_t6 := Imp.go t6 (by omega))); omega)) (show (V7 1 1).toInt = (b : Int) from by first | exact om_adf531c77a0d rbk pq15 | first | omega | ((try (have i_t6 := Imp.go t6 (by omega))); (try (have i_cd := Imp.go cd (by omega))); (try (have i_cd := Imp.go cd (by omega))); (try (have i_t6 := Imp.go t6 (by omega))); omega)) cd16 (show 8 - z14.toInt ≤ (dd : Int) from by first | exact om_2dee3eb3e2cf y1 hz14 | first | omega | ((try (have i_t6 := Imp.go t6 (by omega))); (try (have i_cd := Imp.go cd (by omega))); (try (have i_cd := Imp.go cd (by omega))); (try (have i_t6 := Imp.go t6 (by omega))); omega))) w951 w953 w21 w162 w954 rfl xgReader hdV_yX1_readExpression ⟨(by show 10 * dd + 9 + 1 ≤ 10 * dd + 10; (first | exact om_5cb1365e39a9 | omega)), (by show 8 + (3 + 11) + (300 * dd + 240) ≤ 300 * dd + 265; (first | exact om_31bfa1b830a4 | omega))⟩ rfl hl.1 rfl (Nat.le_of_ble_eq_true rfl) dX1_readPick_13 ⟨Nat.le_of_ble_eq_true rfl, Nat.le_of_ble_eq_true rfl⟩) hP hD hK hS hA (fun z17 u18 H locs w19 hP hD hK hS => ?_)
    obtain ⟨V23, L24⟩ := u18
    obtain ⟨hMV23, ajV23, axL24, fyV23, rgz17, t20, t21, t22⟩ := w19
    have alL24 : agL [6, 44] L L24 := agL.tr alL8 axL24 (by decide)
    have hP : va_P D vwCl (xw ad kk V23 L24 Z) H := hP
    have hD : va_D A (xw ad kk V23 L24 Z) := hD
    have hMV23 : rgd bX V23 := hMV23
    have ajV23 : agr [(1, 3), (1, 6), (1, 8), (6, 8), (6, 9), (6, 10)] [42, 43, 44, 48] V7 V23 := ajV23
    have agV23 : agr [(1, 3), (1, 6), (1, 8), (6, 8), (6, 9), (6, 10)] [42, 43, 44, 48] V V23 := agV7.tr ajV23 (by decide) (by decide)
    have fwV23 : frX (xR b) V V23 := frX.tr fwV7 (fyV23)
    have rgz17 : 0 ≤ z17.toInt ∧ z17.toInt ≤ 1 := rgz17
    have t20 : CD V23 b := t20
    have t21 : px V7 V23 b := t21
    have t22 : Imp (z17.toInt = 0) (1 ≤ (V23 1 3).toInt) := t22
    refine lv_if_eq (tgt := 28) hx hb dX1_readPick_16 (by decide) (fun c25 => ?_) (fun c25 => ?_)
    · skip
      have f26 : z17.toInt = 0 := b_eq rfl (by decide) c25
      refine lv_iconst (v := 0) hx hb dX1_readPick_28 (by decide) ?_
      have px27 : px V V7 b := px.tr (px.rf : px V V b) (px.ag (show agr [(1, 3), (6, 8), (6, 9), (6, 10)] [] V V7 from (agr.tr agr.rf ajV7 (by decide) (by decide))) (fun _ => rfl) (fun _ => rfl) (fun _ => rfl))
      have px28 : px V V23 b := px.tr px27 t21
      exact W.zret (v := 0) hx hb hr rfl (fun t ht hW => ⟨⟨0, (V23, L24), rfl, ⟨hMV23, agV23, alL24, fwV23, (by decide), t20, px28, (Imp.mk (fun _ => (show 1 ≤ (V23 1 3).toInt from by first | exact om_f8d8213eda45 ((Imp.go t22 (f26))) | first | omega | ((try (have i_t22 := Imp.go t22 (by omega))); (try (have i_t6 := Imp.go t6 (by omega))); (try (have i_cd := Imp.go cd (by omega))); (try (have i_cd := Imp.go cd (by omega))); (try (have i_t6 := Imp.go t6 (by omega))); (try (have i_t22 := Imp.go t22 (by omega))); omega))))⟩, by rw [ht]; exact hP, va_K.moved hW.alike hK, hD⟩, hS.F ht⟩) hS.2.2 dX1_readPick_29
    · skip
      have f29 : z17.toInt ≠ 0 := b_neq rfl (by decide) c25
      refine lv_aload_n hx hb dX1_readPick_19 rfl (lv_at hl 0 rfl) ?_
      refine lv_bipush (v := 44) hx hb dX1_readPick_20 (by decide) ?_
      have r30 : Int32.toInt 44 = 44 := by decide
      refine gA_int (gA_runV (As := [.int 44]) (rest := []) (ci := 1) (q0 := 1) hx hb hml hown hg hP hD hK hS hA hnw hgk (x_take l D ks H.size ad kk V23 L24 Z 44 hMV23 ) w893 w895 w10 w162 w896 rfl xgReader hdV_yX1_take ⟨(by show 1 + 1 ≤ 10 * dd + 10; (first | exact om_162fc0655431 rg_p0.2 y1 | omega)), (by show 8 + (2 + 11) + (21) ≤ 300 * dd + 265; (first | exact om_cb5b29a579d3 rg_p0.2 y1 | omega))⟩ rfl hl.1 rfl (Nat.le_of_ble_eq_true rfl) dX1_readPick_22 ⟨Nat.le_of_ble_eq_true rfl, Nat.le_of_ble_eq_true rfl⟩) hP hD hK hS hA (fun z31 u32 H locs w33 hP hD hK hS => ?_)
      obtain ⟨V35, L36⟩ := u32
      obtain ⟨hMV35, ajV35, axL36, rgz31, t34⟩ := w33
      have alL36 : agL [6, 44] L L36 := agL.tr alL24 axL36 (by decide)
      have hP : va_P D vwCl (xw ad kk V35 L36 Z) H := hP
      have hD : va_D A (xw ad kk V35 L36 Z) := hD
      have hMV35 : rgd bX V35 := hMV35
      have ajV35 : agr [(1, 3), (6, 8), (6, 9), (6, 10)] [] V23 V35 := ajV35
      have agV35 : agr [(1, 3), (1, 6), (1, 8), (6, 8), (6, 9), (6, 10)] [42, 43, 44, 48] V V35 := agV23.tr ajV35 (by decide) (by decide)
      have fwV35 : frX (xR b) V V35 := frX.tr fwV23 (frX.ag ajV35 (by decide) (by decide))
      have rgz31 : 0 ≤ z31.toInt ∧ z31.toInt ≤ 1 := rgz31
      have t34 : Imp (z31.toInt = 0) (1 ≤ (V35 1 3).toInt) := t34
      refine lv_if_ne (tgt := 30) hx hb dX1_readPick_25 (by decide) (fun c37 => ?_) (fun c37 => ?_)
      · skip
        have f38 : z31.toInt ≠ 0 := b_neq rfl (by decide) c37
        refine lv_aload_n hx hb dX1_readPick_30 rfl (lv_at hl 0 rfl) ?_
        refine va_get (D := D) (ci := 1) (v := rfN ad 38 (V35 1 1)) (fs := (xfReader ad V35 L36 Z)) (C := RX1) (T := TX1) (N := 9) hx hb hg inX1 hown hK hP 1 xgReader rfl 1 (by decide) (hg _ w305) (fun _ h9 => h9) rfl dX1_readPick_31 ?_
        have pq39 : (V35 1 1).toInt = ((V 1 1)).toInt := congrArg Int32.toInt ((ajV35 1 1 rfl).trans ((ajV23 1 1 rfl).trans (ajV7 1 1 rfl)))
        refine g_topv (v := .ref (ad (38 + b))) (rfN_r (by first | omega | ((try (have i_t34 := Imp.go t34 (by omega))); (try (have i_t22 := Imp.go t22 (by omega))); (try (have i_t6 := Imp.go t6 (by omega))); (try (have i_cd := Imp.go cd (by omega))); first | omega | ((try (have i_cd := Imp.go cd (by omega))); (try (have i_t6 := Imp.go t6 (by omega))); (try (have i_t22 := Imp.go t22 (by omega))); (try (have i_t34 := Imp.go t34 (by omega))); omega)))) ?_
        refine va_getN (D := D) (ci := 0) (v := .int (V35 42 b)) (fs := (xfBook ad V35 b)) (C := RX0) (T := TX0) (N := 13) hx hb hg inX0 hown hK hP (38 + b) (xgBook hb2) rfl 12 (by decide) (hnw.use 630 n630 rfl) (fun _ h9 => h9) rfl dX1_readPick_34 ?_
        refine g_top (v := (V23 42 b)) (ajV35 42 b rfl) ?_
        have r40 : 0 ≤ ((V23 42 b)).toInt ∧ ((V23 42 b)).toInt ≤ 8200 := hMV23 42 b
        refine lv_iconst (v := 1) hx hb dX1_readPick_37 (by decide) ?_
        refine lv_iadd hx hb dX1_readPick_38 ?_
        refine lv_topi (fun z41 ez41 => ?_)
        have hz41 : z41.toInt = ((V23 42 b)).toInt + 1 := i_add ez41 rfl (by decide) (by (first | exact om_45b01acb040a r40.1 r40.2 | omega))
        refine lv_istore_n (lv' := [(2, .int z41), (0, .ref (ad 1)), (1, .int p0)]) hx hb dX1_readPick_39 rfl hl (by decide) rfl (fun ls hl => ?_)
        refine lv_aload_n hx hb dX1_readPick_40 rfl (lv_at hl 1 rfl) ?_
        refine lv_bipush (v := 13) hx hb dX1_readPick_41 (by decide) ?_
        refine lv_iconst (v := 0) hx hb dX1_readPick_43 (by decide) ?_
        have r42 : Int32.toInt 13 = 13 := by decide
        have r43 : Int32.toInt 0 = 0 := by decide
        have cd44 : CD V35 b := ⟨CB.ag t20.1 (show agr [(1, 3), (6, 8), (6, 9), (6, 10)] [] V23 V35 from (agr.tr agr.rf ajV35 (by decide) (by decide))) (fun _ => rfl) (fun _ => rfl), CO.ag t20.2 (show agr [(1, 3), (6, 8), (6, 9), (6, 10)] [] V23 V35 from (agr.tr agr.rf ajV35 (by decide) (by decide))) (fun _ => rfl) (fun _ => rfl)⟩
        refine gA_int (gA_runV (As := [.int 13, .int 0]) (rest := []) (ci := 1) (q0 := 1) hx hb hml hown hg hP hD hK hS hA hnw hgk (x_put l D ks H.size ad kk V35 L36 Z 13 0 (b) hMV35 (by decide) (show b < 2 from by first | exact om_f940a4667dd6 hb2 | first | omega | ((try (have i_t34 := Imp.go t34 (by omega))); (try (have i_t22 := Imp.go t22 (by omega))); (try (have i_t6 := Imp.go t6 (by omega))); (try (have i_cd := Imp.go cd (by omega))); first | omega | ((try (have i_cd := Imp.go cd (by omega))); (try (have i_t6 := Imp.go t6 (by omega))); (try (have i_t22 := Imp.go t22 (by omega))); (try (have i_t34 := Imp.go t34 (by omega))); omega))) (show (V35 1 1).toInt = (b : Int) from by first | exact om_adf531c77a0d rbk pq39 | first | omega | ((try (have i_t34 := Imp.go t34 (by omega))); (try (have i_t22 := Imp.go t22 (by omega))); (try (have i_t6 := Imp.go t6 (by omega))); (try (have i_cd := Imp.go cd (by omega))); first | omega | ((try (have i_cd := Imp.go cd (by omega))); (try (have i_t6 := Imp.go t6 (by omega))); (try (have i_t22 := Imp.go t22 (by omega))); (try (have i_t34 := Imp.go t34 (by omega))); omega))) cd44 (Imp.mk (fun hp => absurd hp (by decide))) (Imp.mk (fun hp => absurd hp (by decide))) (Imp.mk (fun hp => have hp : (Int32.toInt 13) = 13 ∨ (Int32.toInt 13) = 14 := hp; (show (Int32.toInt 0) = 0 from by first | exact om_b66ba74381d5 r43 | first | omega | ((try (have i_t34 := Imp.go t34 (by omega))); (try (have i_t22 := Imp.go t22 (by omega))); (try (have i_t6 := Imp.go t6 (by omega))); (try (have i_cd := Imp.go cd (by omega))); first | omega | ((try (have i_cd := Imp.go cd (by omega))); (try (have i_t6 := Imp.go t6 (by omega))); (try (have i_t22 := Imp.go t22 (by omega))); (try (have i_t34 := Imp.go t34 (by omega))); omega)))))) w975 w977 w26 w162 w978 rfl xgReader hdV_yX1_put ⟨(by show 1 + 1 ≤ 10 * dd + 10; (first | exact om_162fc0655431 rg_p0.2 y1 | omega)), (by show 8 + (3 + 11) + (21) ≤ 300 * dd + 265; (first | exact om_33a318b92054 rg_p0.2 y1 | omega))⟩ rfl hl.1 rfl (Nat.le_of_ble_eq_true rfl) dX1_readPick_44 ⟨Nat.le_of_ble_eq_true rfl, Nat.le_of_ble_eq_true rfl⟩) hP hD hK hS hA (fun z45 u46 H locs w47 hP hD hK hS => ?_)
        obtain ⟨V51, L52⟩ := u46
        obtain ⟨hMV51, ajV51, axL52, fyV51, rgz45, t48, t49, t50⟩ := w47
        have axL52 : L36 = L52 := Eq.symm axL52
        subst axL52
        have hP : va_P D vwCl (xw ad kk V51 L36 Z) H := hP
        have hD : va_D A (xw ad kk V51 L36 Z) := hD
        have hMV51 : rgd bX V51 := hMV51
        have ajV51 : agr [] [42, 48] V35 V51 := ajV51
        have agV51 : agr [(1, 3), (1, 6), (1, 8), (6, 8), (6, 9), (6, 10)] [42, 43, 44, 48] V V51 := agV35.tr ajV51 (by decide) (by decide)
        have fwV51 : frX (xR b) V V51 := frX.tr fwV35 (fyV51)
        have rgz45 : 1 ≤ z45.toInt ∧ z45.toInt ≤ 1 := rgz45
        have t48 : Imp ((Int32.toInt 13) = 13 ∨ (Int32.toInt 13) = 14) (jp V51 b (V35 42 b).toInt.toNat) := t48
        have t49 : CD V51 b := t49
        have t50 : px V35 V51 b := t50
        have jp53 := Imp.go t48 (by decide)
        have cl54 : 0 ≤ (V35 42 b).toInt ∧ (V35 42 b).toInt ≤ 8200 := hMV35 42 b
        refine lv_pop hx hb dX1_readPick_47 rfl ?_
        refine lv_aload_n hx hb dX1_readPick_48 rfl (lv_at hl 1 rfl) ?_
        refine lv_iload_n hx hb dX1_readPick_49 rfl (lv_at hl 2 rfl) ?_
        refine lv_iconst (v := 1) hx hb dX1_readPick_50 (by decide) ?_
        refine lv_iadd hx hb dX1_readPick_51 ?_
        refine lv_topi (fun z55 ez55 => ?_)
        have hz55 : z55.toInt = p0.toInt + 1 := i_add ez55 rfl (by decide) (by (first | exact om_7833cbc177ca rg_p0.1 rg_p0.2 | omega))
        have pq56 : (V51 1 1).toInt = ((V 1 1)).toInt := congrArg Int32.toInt ((ajV51 1 1 rfl).trans ((ajV35 1 1 rfl).trans ((ajV23 1 1 rfl).trans (ajV7 1 1 rfl))))
        refine gA_int (gA_runV (As := [.int z55]) (rest := []) (ci := 1) (q0 := 1) hx hb hml hown hg hP hD hK hS hA hnw hgk (hk_x_readExpression H.size ad kk V51 L36 Z z55 (b) hMV51 (by first | exact om_b66aae6510dc rg_p0.1 rg_p0.2 hz55 | first | omega | ((try (have i_t34 := Imp.go t34 (by omega))); (try (have i_t22 := Imp.go t22 (by omega))); (try (have i_t6 := Imp.go t6 (by omega))); (try (have i_cd := Imp.go cd (by omega))); first | omega | ((try (have i_cd := Imp.go cd (by omega))); (try (have i_t6 := Imp.go t6 (by omega))); (try (have i_t22 := Imp.go t22 (by omega))); (try (have i_t34 := Imp.go t34 (by omega))); omega))) (show b < 2 from by first | exact om_f940a4667dd6 hb2 | first | omega | ((try (have i_t34 := Imp.go t34 (by omega))); (try (have i_t22 := Imp.go t22 (by omega))); (try (have i_t6 := Imp.go t6 (by omega))); (try (have i_cd := Imp.go cd (by omega))); first | omega | ((try (have i_cd := Imp.go cd (by omega))); (try (have i_t6 := Imp.go t6 (by omega))); (try (have i_t22 := Imp.go t22 (by omega))); (try (have i_t34 := Imp.go t34 (by omega))); omega))) (show (V51 1 1).toInt = (b : Int) from by first | exact om_adf531c77a0d rbk pq56 | first | omega | ((try (have i_t34 := Imp.go t34 (by omega))); (try (have i_t22 := Imp.go t22 (by omega))); (try (have i_t6 := Imp.go t6 (by omega))); (try (have i_cd := Imp.go cd (by omega))); first | omega | ((try (have i_cd := Imp.go cd (by omega))); (try (have i_t6 := Imp.go t6 (by omega))); (try (have i_t22 := Imp.go t22 (by omega))); (try (have i_t34 := Imp.go t34 (by omega))); omega))) t49 (show 8 - z55.toInt ≤ (dd : Int) from by first | exact om_2dee3eb3e2cf y1 hz55 | first | omega | ((try (have i_t34 := Imp.go t34 (by omega))); (try (have i_t22 := Imp.go t22 (by omega))); (try (have i_t6 := Imp.go t6 (by omega))); (try (have i_cd := Imp.go cd (by omega))); first | omega | ((try (have i_cd := Imp.go cd (by omega))); (try (have i_t6 := Imp.go t6 (by omega))); (try (have i_t22 := Imp.go t22 (by omega))); (try (have i_t34 := Imp.go t34 (by omega))); omega)))) w951 w953 w21 w162 w954 rfl xgReader hdV_yX1_readExpression ⟨(by show 10 * dd + 9 + 1 ≤ 10 * dd + 10; (first | exact om_5cb1365e39a9 | omega)), (by show 8 + (3 + 11) + (300 * dd + 240) ≤ 300 * dd + 265; (first | exact om_31bfa1b830a4 | omega))⟩ rfl hl.1 rfl (Nat.le_of_ble_eq_true rfl) dX1_readPick_52 ⟨Nat.le_of_ble_eq_true rfl, Nat.le_of_ble_eq_true rfl⟩) hP hD hK hS hA (fun z57 u58 H locs w59 hP hD hK hS => ?_)
        obtain ⟨V63, L64⟩ := u58
        obtain ⟨hMV63, ajV63, axL64, fyV63, rgz57, t60, t61, t62⟩ := w59
        have alL64 : agL [6, 44] L L64 := agL.tr alL36 axL64 (by decide)
        have hP : va_P D vwCl (xw ad kk V63 L64 Z) H := hP
        have hD : va_D A (xw ad kk V63 L64 Z) := hD
        have hMV63 : rgd bX V63 := hMV63
        have ajV63 : agr [(1, 3), (1, 6), (1, 8), (6, 8), (6, 9), (6, 10)] [42, 43, 44, 48] V51 V63 := ajV63
        have agV63 : agr [(1, 3), (1, 6), (1, 8), (6, 8), (6, 9), (6, 10)] [42, 43, 44, 48] V V63 := agV51.tr ajV63 (by decide) (by decide)
        have fwV63 : frX (xR b) V V63 := frX.tr fwV51 (fyV63)
        have rgz57 : 0 ≤ z57.toInt ∧ z57.toInt ≤ 1 := rgz57
        have t60 : CD V63 b := t60
        have t61 : px V51 V63 b := t61
        have t62 : Imp (z57.toInt = 0) (1 ≤ (V63 1 3).toInt) := t62
        refine lv_if_eq (tgt := 67) hx hb dX1_readPick_55 (by decide) (fun c65 => ?_) (fun c65 => ?_)
        · skip
          have f66 : z57.toInt = 0 := b_eq rfl (by decide) c65
          refine lv_iconst (v := 0) hx hb dX1_readPick_67 (by decide) ?_
          have px67 : px V V7 b := px.tr (px.rf : px V V b) (px.ag (show agr [(1, 3), (6, 8), (6, 9), (6, 10)] [] V V7 from (agr.tr agr.rf ajV7 (by decide) (by decide))) (fun _ => rfl) (fun _ => rfl) (fun _ => rfl))
          have px68 : px V V23 b := px.tr px67 t21
          have px69 : px V V35 b := px.tr px68 (px.ag (show agr [(1, 3), (6, 8), (6, 9), (6, 10)] [] V23 V35 from (agr.tr agr.rf ajV35 (by decide) (by decide))) (fun _ => rfl) (fun _ => rfl) (fun _ => rfl))
          have px70 : px V V51 b := px.tr px69 t50
          have px71 : px V V63 b := px.tr px70 t61
          exact W.zret (v := 0) hx hb hr rfl (fun t ht hW => ⟨⟨0, (V63, L64), rfl, ⟨hMV63, agV63, alL64, fwV63, (by decide), t60, px71, (Imp.mk (fun _ => (show 1 ≤ (V63 1 3).toInt from by first | exact om_f8d8213eda45 ((Imp.go t62 (f66))) | first | omega | ((try (have i_t62 := Imp.go t62 (f66))); omega) | ((try (have i_t62 := Imp.go t62 (by omega))); (try (have i_t34 := Imp.go t34 (by omega))); (try (have i_t22 := Imp.go t22 (by omega))); (try (have i_t6 := Imp.go t6 (by omega))); first | omega | ((try (have i_cd := Imp.go cd (by omega))); (try (have i_cd := Imp.go cd (by omega))); (try (have i_t6 := Imp.go t6 (by omega))); (try (have i_t22 := Imp.go t22 (by omega))); (try (have i_t34 := Imp.go t34 (by omega))); (try (have i_t62 := Imp.go t62 (by omega))); omega)))))⟩, by rw [ht]; exact hP, va_K.moved hW.alike hK, hD⟩, hS.F ht⟩) hS.2.2 dX1_readPick_68
        · skip
          have f72 : z57.toInt ≠ 0 := b_neq rfl (by decide) c65
          refine lv_aload_n hx hb dX1_readPick_58 rfl (lv_at hl 1 rfl) ?_
          refine lv_bipush (v := 44) hx hb dX1_readPick_59 (by decide) ?_
          refine gA_int (gA_runV (As := [.int 44]) (rest := []) (ci := 1) (q0 := 1) hx hb hml hown hg hP hD hK hS hA hnw hgk (x_take l D ks H.size ad kk V63 L64 Z 44 hMV63 ) w893 w895 w10 w162 w896 rfl xgReader hdV_yX1_take ⟨(by show 1 + 1 ≤ 10 * dd + 10; (first | exact om_162fc0655431 rg_p0.2 y1 | omega)), (by show 8 + (2 + 11) + (21) ≤ 300 * dd + 265; (first | exact om_cb5b29a579d3 rg_p0.2 y1 | omega))⟩ rfl hl.1 rfl (Nat.le_of_ble_eq_true rfl) dX1_readPick_61 ⟨Nat.le_of_ble_eq_true rfl, Nat.le_of_ble_eq_true rfl⟩) hP hD hK hS hA (fun z73 u74 H locs w75 hP hD hK hS => ?_)
          obtain ⟨V77, L78⟩ := u74
          obtain ⟨hMV77, ajV77, axL78, rgz73, t76⟩ := w75
          have alL78 : agL [6, 44] L L78 := agL.tr alL64 axL78 (by decide)
          have hP : va_P D vwCl (xw ad kk V77 L78 Z) H := hP
          have hD : va_D A (xw ad kk V77 L78 Z) := hD
          have hMV77 : rgd bX V77 := hMV77
          have ajV77 : agr [(1, 3), (6, 8), (6, 9), (6, 10)] [] V63 V77 := ajV77
          have agV77 : agr [(1, 3), (1, 6), (1, 8), (6, 8), (6, 9), (6, 10)] [42, 43, 44, 48] V V77 := agV63.tr ajV77 (by decide) (by decide)
          have fwV77 : frX (xR b) V V77 := frX.tr fwV63 (frX.ag ajV77 (by decide) (by decide))
          have rgz73 : 0 ≤ z73.toInt ∧ z73.toInt ≤ 1 := rgz73
          have t76 : Imp (z73.toInt = 0) (1 ≤ (V77 1 3).toInt) := t76
          refine lv_if_ne (tgt := 69) hx hb dX1_readPick_64 (by decide) (fun c79 => ?_) (fun c79 => ?_)
          · skip
            have f80 : z73.toInt ≠ 0 := b_neq rfl (by decide) c79
            refine lv_aload_n hx hb dX1_readPick_69 rfl (lv_at hl 1 rfl) ?_
            refine va_get (D := D) (ci := 1) (v := rfN ad 38 (V77 1 1)) (fs := (xfReader ad V77 L78 Z)) (C := RX1) (T := TX1) (N := 9) hx hb hg inX1 hown hK hP 1 xgReader rfl 1 (by decide) (hg _ w305) (fun _ h9 => h9) rfl dX1_readPick_70 ?_
            have pq81 : (V77 1 1).toInt = ((V 1 1)).toInt := congrArg Int32.toInt ((ajV77 1 1 rfl).trans ((ajV63 1 1 rfl).trans ((ajV51 1 1 rfl).trans ((ajV35 1 1 rfl).trans ((ajV23 1 1 rfl).trans (ajV7 1 1 rfl))))))
            refine g_topv (v := .ref (ad (38 + b))) (rfN_r (by first | omega | ((try (have i_t76 := Imp.go t76 (by omega))); (try (have i_t62 := Imp.go t62 (by omega))); (try (have i_t34 := Imp.go t34 (by omega))); (try (have i_t22 := Imp.go t22 (by omega))); first | omega | ((try (have i_t6 := Imp.go t6 (by omega))); (try (have i_cd := Imp.go cd (by omega))); (try (have i_cd := Imp.go cd (by omega))); (try (have i_t6 := Imp.go t6 (by omega))); first | omega | ((try (have i_t22 := Imp.go t22 (by omega))); (try (have i_t34 := Imp.go t34 (by omega))); (try (have i_t62 := Imp.go t62 (by omega))); (try (have i_t76 := Imp.go t76 (by omega))); omega))))) ?_
            refine va_getN (D := D) (ci := 0) (v := .int (V77 42 b)) (fs := (xfBook ad V77 b)) (C := RX0) (T := TX0) (N := 13) hx hb hg inX0 hown hK hP (38 + b) (xgBook hb2) rfl 12 (by decide) (hnw.use 630 n630 rfl) (fun _ h9 => h9) rfl dX1_readPick_73 ?_
            refine g_top (v := (V63 42 b)) (ajV77 42 b rfl) ?_
            have r82 : 0 ≤ ((V63 42 b)).toInt ∧ ((V63 42 b)).toInt ≤ 8200 := hMV63 42 b
            refine lv_iconst (v := 1) hx hb dX1_readPick_76 (by decide) ?_
            refine lv_iadd hx hb dX1_readPick_77 ?_
            refine lv_topi (fun z83 ez83 => ?_)
            have hz83 : z83.toInt = ((V63 42 b)).toInt + 1 := i_add ez83 rfl (by decide) (by (first | exact om_45b01acb040a r82.1 r82.2 | omega))
            refine lv_istore_n (lv' := [(3, .int z83), (2, .int z41), (0, .ref (ad 1)), (1, .int p0)]) hx hb dX1_readPick_78 rfl hl (by decide) rfl (fun ls hl => ?_)
            refine lv_aload_n hx hb dX1_readPick_79 rfl (lv_at hl 2 rfl) ?_
            refine lv_bipush (v := 14) hx hb dX1_readPick_80 (by decide) ?_
            refine lv_iconst (v := 0) hx hb dX1_readPick_82 (by decide) ?_
            have r84 : Int32.toInt 14 = 14 := by decide
            have cd85 : CD V77 b := ⟨CB.ag t60.1 (show agr [(1, 3), (6, 8), (6, 9), (6, 10)] [] V63 V77 from (agr.tr agr.rf ajV77 (by decide) (by decide))) (fun _ => rfl) (fun _ => rfl), CO.ag t60.2 (show agr [(1, 3), (6, 8), (6, 9), (6, 10)] [] V63 V77 from (agr.tr agr.rf ajV77 (by decide) (by decide))) (fun _ => rfl) (fun _ => rfl)⟩
            refine gA_int (gA_runV (As := [.int 14, .int 0]) (rest := []) (ci := 1) (q0 := 1) hx hb hml hown hg hP hD hK hS hA hnw hgk (x_put l D ks H.size ad kk V77 L78 Z 14 0 (b) hMV77 (by decide) (show b < 2 from by first | exact om_f940a4667dd6 hb2 | first | omega | ((try (have i_t76 := Imp.go t76 (by omega))); (try (have i_t62 := Imp.go t62 (by omega))); (try (have i_t34 := Imp.go t34 (by omega))); (try (have i_t22 := Imp.go t22 (by omega))); first | omega | ((try (have i_t6 := Imp.go t6 (by omega))); (try (have i_cd := Imp.go cd (by omega))); (try (have i_cd := Imp.go cd (by omega))); (try (have i_t6 := Imp.go t6 (by omega))); first | omega | ((try (have i_t22 := Imp.go t22 (by omega))); (try (have i_t34 := Imp.go t34 (by omega))); (try (have i_t62 := Imp.go t62 (by omega))); (try (have i_t76 := Imp.go t76 (by omega))); omega)))) (show (V77 1 1).toInt = (b : Int) from by first | exact om_adf531c77a0d rbk pq81 | first | omega | ((try (have i_t76 := Imp.go t76 (by omega))); (try (have i_t62 := Imp.go t62 (by omega))); (try (have i_t34 := Imp.go t34 (by omega))); (try (have i_t22 := Imp.go t22 (by omega))); first | omega | ((try (have i_t6 := Imp.go t6 (by omega))); (try (have i_cd := Imp.go cd (by omega))); (try (have i_cd := Imp.go cd (by omega))); (try (have i_t6 := Imp.go t6 (by omega))); first | omega | ((try (have i_t22 := Imp.go t22 (by omega))); (try (have i_t34 := Imp.go t34 (by omega))); (try (have i_t62 := Imp.go t62 (by omega))); (try (have i_t76 := Imp.go t76 (by omega))); omega)))) cd85 (Imp.mk (fun hp => absurd hp (by decide))) (Imp.mk (fun hp => absurd hp (by decide))) (Imp.mk (fun hp => have hp : (Int32.toInt 14) = 13 ∨ (Int32.toInt 14) = 14 := hp; (show (Int32.toInt 0) = 0 from by first | exact om_b66ba74381d5 r43 | first | omega | ((try (have i_t76 := Imp.go t76 (by omega))); (try (have i_t62 := Imp.go t62 (by omega))); (try (have i_t34 := Imp.go t34 (by omega))); (try (have i_t22 := Imp.go t22 (by omega))); first | omega | ((try (have i_t6 := Imp.go t6 (by omega))); (try (have i_cd := Imp.go cd (by omega))); (try (have i_cd := Imp.go cd (by omega))); (try (have i_t6 := Imp.go t6 (by omega))); first | omega | ((try (have i_t22 := Imp.go t22 (by omega))); (try (have i_t34 := Imp.go t34 (by omega))); (try (have i_t62 := Imp.go t62 (by omega))); (try (have i_t76 := Imp.go t76 (by omega))); omega))))))) w975 w977 w26 w162 w978 rfl xgReader hdV_yX1_put ⟨(by show 1 + 1 ≤ 10 * dd + 10; (first | exact om_162fc0655431 rg_p0.2 y1 | omega)), (by show 8 + (3 + 11) + (21) ≤ 300 * dd + 265; (first | exact om_33a318b92054 rg_p0.2 y1 | omega))⟩ rfl hl.1 rfl (Nat.le_of_ble_eq_true rfl) dX1_readPick_83 ⟨Nat.le_of_ble_eq_true rfl, Nat.le_of_ble_eq_true rfl⟩) hP hD hK hS hA (fun z86 u87 H locs w88 hP hD hK hS => ?_)
            obtain ⟨V92, L93⟩ := u87
            obtain ⟨hMV92, ajV92, axL93, fyV92, rgz86, t89, t90, t91⟩ := w88
            have axL93 : L78 = L93 := Eq.symm axL93
            subst axL93
            have hP : va_P D vwCl (xw ad kk V92 L78 Z) H := hP
            have hD : va_D A (xw ad kk V92 L78 Z) := hD
            have hMV92 : rgd bX V92 := hMV92
            have ajV92 : agr [] [42, 48] V77 V92 := ajV92
            have agV92 : agr [(1, 3), (1, 6), (1, 8), (6, 8), (6, 9), (6, 10)] [42, 43, 44, 48] V V92 := agV77.tr ajV92 (by decide) (by decide)
            have fwV92 : frX (xR b) V V92 := frX.tr fwV77 (fyV92)
            have rgz86 : 1 ≤ z86.toInt ∧ z86.toInt ≤ 1 := rgz86
            have t89 : Imp ((Int32.toInt 14) = 13 ∨ (Int32.toInt 14) = 14) (jp V92 b (V77 42 b).toInt.toNat) := t89
            have t90 : CD V92 b := t90
            have t91 : px V77 V92 b := t91
            have jp94 := Imp.go t89 (by decide)
            have cl95 : 0 ≤ (V77 42 b).toInt ∧ (V77 42 b).toInt ≤ 8200 := hMV77 42 b
            refine lv_pop hx hb dX1_readPick_86 rfl ?_
            refine lv_aload_n hx hb dX1_readPick_87 rfl (lv_at hl 2 rfl) ?_
            refine va_get (D := D) (ci := 1) (v := rfN ad 38 (V92 1 1)) (fs := (xfReader ad V92 L78 Z)) (C := RX1) (T := TX1) (N := 9) hx hb hg inX1 hown hK hP 1 xgReader rfl 1 (by decide) (hg _ w305) (fun _ h9 => h9) rfl dX1_readPick_88 ?_
            have pq96 : (V92 1 1).toInt = ((V 1 1)).toInt := congrArg Int32.toInt ((ajV92 1 1 rfl).trans ((ajV77 1 1 rfl).trans ((ajV63 1 1 rfl).trans ((ajV51 1 1 rfl).trans ((ajV35 1 1 rfl).trans ((ajV23 1 1 rfl).trans (ajV7 1 1 rfl)))))))
            refine g_topv (v := .ref (ad (38 + b))) (rfN_r (by first | omega | ((try (have i_t76 := Imp.go t76 (by omega))); (try (have i_t62 := Imp.go t62 (by omega))); (try (have i_t34 := Imp.go t34 (by omega))); (try (have i_t22 := Imp.go t22 (by omega))); first | omega | ((try (have i_t6 := Imp.go t6 (by omega))); (try (have i_cd := Imp.go cd (by omega))); (try (have i_cd := Imp.go cd (by omega))); (try (have i_t6 := Imp.go t6 (by omega))); first | omega | ((try (have i_t22 := Imp.go t22 (by omega))); (try (have i_t34 := Imp.go t34 (by omega))); (try (have i_t62 := Imp.go t62 (by omega))); (try (have i_t76 := Imp.go t76 (by omega))); omega))))) ?_
            refine lv_iload_n hx hb dX1_readPick_91 rfl (lv_at hl 1 rfl) ?_
            refine lv_aload_n hx hb dX1_readPick_92 rfl (lv_at hl 2 rfl) ?_
            refine va_get (D := D) (ci := 1) (v := rfN ad 38 (V92 1 1)) (fs := (xfReader ad V92 L78 Z)) (C := RX1) (T := TX1) (N := 9) hx hb hg inX1 hown hK hP 1 xgReader rfl 1 (by decide) (hg _ w305) (fun _ h9 => h9) rfl dX1_readPick_93 ?_
            refine g_topv (v := .ref (ad (38 + b))) (rfN_r (by first | omega | ((try (have i_t76 := Imp.go t76 (by omega))); (try (have i_t62 := Imp.go t62 (by omega))); (try (have i_t34 := Imp.go t34 (by omega))); (try (have i_t22 := Imp.go t22 (by omega))); first | omega | ((try (have i_t6 := Imp.go t6 (by omega))); (try (have i_cd := Imp.go cd (by omega))); (try (have i_cd := Imp.go cd (by omega))); (try (have i_t6 := Imp.go t6 (by omega))); first | omega | ((try (have i_t22 := Imp.go t22 (by omega))); (try (have i_t34 := Imp.go t34 (by omega))); (try (have i_t62 := Imp.go t62 (by omega))); (try (have i_t76 := Imp.go t76 (by omega))); omega))))) ?_
            refine va_getN (D := D) (ci := 0) (v := .int (V92 42 b)) (fs := (xfBook ad V92 b)) (C := RX0) (T := TX0) (N := 13) hx hb hg inX0 hown hK hP (38 + b) (xgBook hb2) rfl 12 (by decide) (hnw.use 630 n630 rfl) (fun _ h9 => h9) rfl dX1_readPick_96 ?_
            have r97 : 0 ≤ ((V92 42 b)).toInt ∧ ((V92 42 b)).toInt ≤ 8200 := hMV92 42 b
            refine gA_void (gA_runV (As := [.int z41, .int (V92 42 b)]) (rest := []) (ci := 0) (q0 := (38 + b)) hx hb hml hown hg hP hD hK hS hA hnw hgk (x_patch l D ks H.size ad kk V92 L78 Z z41 (V92 42 b) (b) hMV92 (show b < 2 from by first | exact om_f940a4667dd6 hb2 | first | omega | ((try (have i_t76 := Imp.go t76 (by omega))); (try (have i_t62 := Imp.go t62 (by omega))); (try (have i_t34 := Imp.go t34 (by omega))); (try (have i_t22 := Imp.go t22 (by omega))); first | omega | ((try (have i_t6 := Imp.go t6 (by omega))); (try (have i_cd := Imp.go cd (by omega))); (try (have i_cd := Imp.go cd (by omega))); (try (have i_t6 := Imp.go t6 (by omega))); first | omega | ((try (have i_t22 := Imp.go t22 (by omega))); (try (have i_t34 := Imp.go t34 (by omega))); (try (have i_t62 := Imp.go t62 (by omega))); (try (have i_t76 := Imp.go t76 (by omega))); omega))))) w987 w988 w989 w167 w990 rfl (xgBook hb2) hdV_yX0_patch ⟨(by show 0 + 1 ≤ 10 * dd + 10; (first | exact om_d42bae854ac7 rg_p0.2 y1 | omega)), (by show 8 + (3 + 11) + (0) ≤ 300 * dd + 265; (first | exact om_0f7fda923432 rg_p0.2 y1 | omega))⟩ rfl hl.1 rfl (Nat.le_of_ble_eq_true rfl) dX1_readPick_99 ⟨Nat.le_of_ble_eq_true rfl, Nat.le_of_ble_eq_true rfl⟩) hP hD hK hS hA (fun u99 H locs w100 hP hD hK hS => ?_)
            obtain ⟨V102, L103⟩ := u99
            obtain ⟨hMV102, ajV102, axL103, fyV102, t101⟩ := w100
            have axL103 : L78 = L103 := Eq.symm axL103
            subst axL103
            have hP : va_P D vwCl (xw ad kk V102 L78 Z) H := hP
            have hD : va_D A (xw ad kk V102 L78 Z) := hD
            have hMV102 : rgd bX V102 := hMV102
            have ajV102 : agr [] [48] V92 V102 := ajV102
            have agV102 : agr [(1, 3), (1, 6), (1, 8), (6, 8), (6, 9), (6, 10)] [42, 43, 44, 48] V V102 := agV92.tr ajV102 (by decide) (by decide)
            have fwV102 : frX (xR b) V V102 := frX.tr fwV92 (fyV102)
            have t101 : (z41.toInt < 0 ∨ 8200 ≤ z41.toInt) ∧ V102 = V92 ∨ (0 ≤ z41.toInt ∧ z41.toInt < 8200 ∧ V102 = up2 V92 48 (8200 * b + Int32.toNatClampNeg z41) (V92 42 b)) := t101
            have px104 : px V V7 b := px.tr (px.rf : px V V b) (px.ag (show agr [(1, 3), (6, 8), (6, 9), (6, 10)] [] V V7 from (agr.tr agr.rf ajV7 (by decide) (by decide))) (fun _ => rfl) (fun _ => rfl) (fun _ => rfl))
            have px105 : px V V23 b := px.tr px104 t21
            have px106 : px V V35 b := px.tr px105 (px.ag (show agr [(1, 3), (6, 8), (6, 9), (6, 10)] [] V23 V35 from (agr.tr agr.rf ajV35 (by decide) (by decide))) (fun _ => rfl) (fun _ => rfl) (fun _ => rfl))
            have px107 : px V V51 b := px.tr px106 t50
            have px108 : px V V63 b := px.tr px107 t61
            have px109 : px V V77 b := px.tr px108 (px.ag (show agr [(1, 3), (6, 8), (6, 9), (6, 10)] [] V63 V77 from (agr.tr agr.rf ajV77 (by decide) (by decide))) (fun _ => rfl) (fun _ => rfl) (fun _ => rfl))
            have px110 : px V V92 b := px.tr px109 t91
            have cl111 : 0 ≤ (V92 42 b).toInt ∧ (V92 42 b).toInt ≤ 8200 := hMV92 42 b
            have cl112 : 0 ≤ (V 42 b).toInt ∧ (V 42 b).toInt ≤ 8200 := hMV 42 b
            have px113 : px V51 V63 b := px.tr (px.rf : px V51 V51 b) t61
            have px114 : px V51 V77 b := px.tr px113 (px.ag (show agr [(1, 3), (6, 8), (6, 9), (6, 10)] [] V63 V77 from (agr.tr agr.rf ajV77 (by decide) (by decide))) (fun _ => rfl) (fun _ => rfl) (fun _ => rfl))
            have px115 : px V51 V92 b := px.tr px114 t91
            have jp116 := jp.up jp53 px115.1
            have px117 : px V V7 b := px.tr (px.rf : px V V b) (px.ag (show agr [(1, 3), (6, 8), (6, 9), (6, 10)] [] V V7 from (agr.tr agr.rf ajV7 (by decide) (by decide))) (fun _ => rfl) (fun _ => rfl) (fun _ => rfl))
            have px118 : px V V23 b := px.tr px117 t21
            have px119 : px V V35 b := px.tr px118 (px.ag (show agr [(1, 3), (6, 8), (6, 9), (6, 10)] [] V23 V35 from (agr.tr agr.rf ajV35 (by decide) (by decide))) (fun _ => rfl) (fun _ => rfl) (fun _ => rfl))
            have cz120 := px119.1.1
            have pq121 : (V35 42 b).toInt = ((V23 42 b)).toInt := congrArg Int32.toInt (ajV35 42 b rfl)
            have pt : ptX V92 V102 b z41 (V92 42 b) := t101
            have cd122 : CD V102 b := pt.cd t90 (a := (V35 42 b).toInt.toNat) jp116 (by omega) (by omega) (by omega)
            have px123 : px V V102 b := ⟨pt.px px110.1 (by omega), (ajV102 43 _ rfl).trans px110.2⟩
            have cl124 : 0 ≤ (V51 42 b).toInt ∧ (V51 42 b).toInt ≤ 8200 := hMV51 42 b
            have px125 : px V51 V63 b := px.tr (px.rf : px V51 V51 b) t61
            have px126 : px V51 V77 b := px.tr px125 (px.ag (show agr [(1, 3), (6, 8), (6, 9), (6, 10)] [] V63 V77 from (agr.tr agr.rf ajV77 (by decide) (by decide))) (fun _ => rfl) (fun _ => rfl) (fun _ => rfl))
            have cz8 := px126.1.1
            have pq127 : (V77 42 b).toInt = ((V63 42 b)).toInt := congrArg Int32.toInt (ajV77 42 b rfl)
            have r128 : 0 ≤ ((V51 42 b)).toInt ∧ ((V51 42 b)).toInt ≤ 8200 := hMV51 42 b
            have px129 : px V35 V51 b := px.tr (px.rf : px V35 V35 b) t50
            have cz9 := px129.1.1
            have jp130 : jp V102 b (V77 42 b).toInt.toNat := pt.jp jp116 jp94 (by omega) (by omega) (fun h9 => by have h8 := (jp53 h9).1; omega)
            refine lv_aload_n hx hb dX1_readPick_102 rfl (lv_at hl 2 rfl) ?_
            refine lv_iload_n hx hb dX1_readPick_103 rfl (lv_at hl 3 rfl) ?_
            refine lv_iconst (v := 1) hx hb dX1_readPick_104 (by decide) ?_
            refine lv_iadd hx hb dX1_readPick_105 ?_
            refine lv_topi (fun z131 ez131 => ?_)
            have hz131 : z131.toInt = p0.toInt + 1 := i_add ez131 rfl (by decide) (by (first | exact om_7833cbc177ca rg_p0.1 rg_p0.2 | omega))
            have pq132 : (V102 1 1).toInt = ((V 1 1)).toInt := congrArg Int32.toInt ((ajV102 1 1 rfl).trans ((ajV92 1 1 rfl).trans ((ajV77 1 1 rfl).trans ((ajV63 1 1 rfl).trans ((ajV51 1 1 rfl).trans ((ajV35 1 1 rfl).trans ((ajV23 1 1 rfl).trans (ajV7 1 1 rfl))))))))
            refine gA_int (gA_runV (As := [.int z131]) (rest := []) (ci := 1) (q0 := 1) hx hb hml hown hg hP hD hK hS hA hnw hgk (hk_x_readExpression H.size ad kk V102 L78 Z z131 (b) hMV102 (by first | exact om_b66aae6510dc rg_p0.1 rg_p0.2 hz131 | first | omega | ((try (have i_t76 := Imp.go t76 (by omega))); (try (have i_t62 := Imp.go t62 (by omega))); (try (have i_t34 := Imp.go t34 (by omega))); (try (have i_t22 := Imp.go t22 (by omega))); first | omega | ((try (have i_t6 := Imp.go t6 (by omega))); (try (have i_cd := Imp.go cd (by omega))); (try (have i_cd := Imp.go cd (by omega))); (try (have i_t6 := Imp.go t6 (by omega))); first | omega | ((try (have i_t22 := Imp.go t22 (by omega))); (try (have i_t34 := Imp.go t34 (by omega))); (try (have i_t62 := Imp.go t62 (by omega))); (try (have i_t76 := Imp.go t76 (by omega))); omega)))) (show b < 2 from by first | exact om_f940a4667dd6 hb2 | first | omega | ((try (have i_t76 := Imp.go t76 (by omega))); (try (have i_t62 := Imp.go t62 (by omega))); (try (have i_t34 := Imp.go t34 (by omega))); (try (have i_t22 := Imp.go t22 (by omega))); first | omega | ((try (have i_t6 := Imp.go t6 (by omega))); (try (have i_cd := Imp.go cd (by omega))); (try (have i_cd := Imp.go cd (by omega))); (try (have i_t6 := Imp.go t6 (by omega))); first | omega | ((try (have i_t22 := Imp.go t22 (by omega))); (try (have i_t34 := Imp.go t34 (by omega))); (try (have i_t62 := Imp.go t62 (by omega))); (try (have i_t76 := Imp.go t76 (by omega))); omega)))) (show (V102 1 1).toInt = (b : Int) from by first | exact om_adf531c77a0d rbk pq132 | first | omega | ((try (have i_t76 := Imp.go t76 (by omega))); (try (have i_t62 := Imp.go t62 (by omega))); (try (have i_t34 := Imp.go t34 (by omega))); (try (have i_t22 := Imp.go t22 (by omega))); first | omega | ((try (have i_t6 := Imp.go t6 (by omega))); (try (have i_cd := Imp.go cd (by omega))); (try (have i_cd := Imp.go cd (by omega))); (try (have i_t6 := Imp.go t6 (by omega))); first | omega | ((try (have i_t22 := Imp.go t22 (by omega))); (try (have i_t34 := Imp.go t34 (by omega))); (try (have i_t62 := Imp.go t62 (by omega))); (try (have i_t76 := Imp.go t76 (by omega))); omega)))) cd122 (show 8 - z131.toInt ≤ (dd : Int) from by first | exact om_2dee3eb3e2cf y1 hz131 | first | omega | ((try (have i_t76 := Imp.go t76 (by omega))); (try (have i_t62 := Imp.go t62 (by omega))); (try (have i_t34 := Imp.go t34 (by omega))); (try (have i_t22 := Imp.go t22 (by omega))); first | omega | ((try (have i_t6 := Imp.go t6 (by omega))); (try (have i_cd := Imp.go cd (by omega))); (try (have i_cd := Imp.go cd (by omega))); (try (have i_t6 := Imp.go t6 (by omega))); first | omega | ((try (have i_t22 := Imp.go t22 (by omega))); (try (have i_t34 := Imp.go t34 (by omega))); (try (have i_t62 := Imp.go t62 (by omega))); (try (have i_t76 := Imp.go t76 (by omega))); omega))))) w951 w953 w21 w162 w954 rfl xgReader hdV_yX1_readExpression ⟨(by show 10 * dd + 9 + 1 ≤ 10 * dd + 10; (first | exact om_5cb1365e39a9 | omega)), (by show 8 + (3 + 11) + (300 * dd + 240) ≤ 300 * dd + 265; (first | exact om_31bfa1b830a4 | omega))⟩ rfl hl.1 rfl (Nat.le_of_ble_eq_true rfl) dX1_readPick_106 ⟨Nat.le_of_ble_eq_true rfl, Nat.le_of_ble_eq_true rfl⟩) hP hD hK hS hA (fun z133 u134 H locs w135 hP hD hK hS => ?_)
            obtain ⟨V139, L140⟩ := u134
            obtain ⟨hMV139, ajV139, axL140, fyV139, rgz133, t136, t137, t138⟩ := w135
            have alL140 : agL [6, 44] L L140 := agL.tr alL78 axL140 (by decide)
            have hP : va_P D vwCl (xw ad kk V139 L140 Z) H := hP
            have hD : va_D A (xw ad kk V139 L140 Z) := hD
            have hMV139 : rgd bX V139 := hMV139
            have ajV139 : agr [(1, 3), (1, 6), (1, 8), (6, 8), (6, 9), (6, 10)] [42, 43, 44, 48] V102 V139 := ajV139
            have agV139 : agr [(1, 3), (1, 6), (1, 8), (6, 8), (6, 9), (6, 10)] [42, 43, 44, 48] V V139 := agV102.tr ajV139 (by decide) (by decide)
            have fwV139 : frX (xR b) V V139 := frX.tr fwV102 (fyV139)
            have rgz133 : 0 ≤ z133.toInt ∧ z133.toInt ≤ 1 := rgz133
            have t136 : CD V139 b := t136
            have t137 : px V102 V139 b := t137
            have t138 : Imp (z133.toInt = 0) (1 ≤ (V139 1 3).toInt) := t138
            refine lv_if_eq (tgt := 121) hx hb dX1_readPick_109 (by decide) (fun c141 => ?_) (fun c141 => ?_)
            · skip
              have f142 : z133.toInt = 0 := b_eq rfl (by decide) c141
              refine lv_iconst (v := 0) hx hb dX1_readPick_121 (by decide) ?_
              have px143 : px V V139 b := px.tr px123 t137
              exact W.zret (v := 0) hx hb hr rfl (fun t ht hW => ⟨⟨0, (V139, L140), rfl, ⟨hMV139, agV139, alL140, fwV139, (by decide), t136, px143, (Imp.mk (fun _ => (show 1 ≤ (V139 1 3).toInt from by first | exact om_f8d8213eda45 ((Imp.go t138 (f142))) | first | omega | ((try (have i_t138 := Imp.go t138 (f142))); omega) | ((try (have i_t138 := Imp.go t138 (by omega))); (try (have i_t76 := Imp.go t76 (by omega))); (try (have i_t62 := Imp.go t62 (by omega))); (try (have i_t34 := Imp.go t34 (by omega))); first | omega | ((try (have i_t22 := Imp.go t22 (by omega))); (try (have i_t6 := Imp.go t6 (by omega))); (try (have i_cd := Imp.go cd (by omega))); (try (have i_cd := Imp.go cd (by omega))); first | omega | ((try (have i_t6 := Imp.go t6 (by omega))); (try (have i_t22 := Imp.go t22 (by omega))); (try (have i_t34 := Imp.go t34 (by omega))); (try (have i_t62 := Imp.go t62 (by omega))); (try (have i_t76 := Imp.go t76 (by omega))); (try (have i_t138 := Imp.go t138 (by omega))); omega))))))⟩, by rw [ht]; exact hP, va_K.moved hW.alike hK, hD⟩, hS.F ht⟩) hS.2.2 dX1_readPick_122
            · skip
              have f144 : z133.toInt ≠ 0 := b_neq rfl (by decide) c141
              refine lv_aload_n hx hb dX1_readPick_112 rfl (lv_at hl 2 rfl) ?_
              refine lv_bipush (v := 41) hx hb dX1_readPick_113 (by decide) ?_
              have r145 : Int32.toInt 41 = 41 := by decide
              refine gA_int (gA_runV (As := [.int 41]) (rest := []) (ci := 1) (q0 := 1) hx hb hml hown hg hP hD hK hS hA hnw hgk (x_take l D ks H.size ad kk V139 L140 Z 41 hMV139 ) w893 w895 w10 w162 w896 rfl xgReader hdV_yX1_take ⟨(by show 1 + 1 ≤ 10 * dd + 10; (first | exact om_162fc0655431 rg_p0.2 y1 | omega)), (by show 8 + (2 + 11) + (21) ≤ 300 * dd + 265; (first | exact om_cb5b29a579d3 rg_p0.2 y1 | omega))⟩ rfl hl.1 rfl (Nat.le_of_ble_eq_true rfl) dX1_readPick_115 ⟨Nat.le_of_ble_eq_true rfl, Nat.le_of_ble_eq_true rfl⟩) hP hD hK hS hA (fun z146 u147 H locs w148 hP hD hK hS => ?_)
              obtain ⟨V150, L151⟩ := u147
              obtain ⟨hMV150, ajV150, axL151, rgz146, t149⟩ := w148
              have alL151 : agL [6, 44] L L151 := agL.tr alL140 axL151 (by decide)
              have hP : va_P D vwCl (xw ad kk V150 L151 Z) H := hP
              have hD : va_D A (xw ad kk V150 L151 Z) := hD
              have hMV150 : rgd bX V150 := hMV150
              have ajV150 : agr [(1, 3), (6, 8), (6, 9), (6, 10)] [] V139 V150 := ajV150
              have agV150 : agr [(1, 3), (1, 6), (1, 8), (6, 8), (6, 9), (6, 10)] [42, 43, 44, 48] V V150 := agV139.tr ajV150 (by decide) (by decide)
              have fwV150 : frX (xR b) V V150 := frX.tr fwV139 (frX.ag ajV150 (by decide) (by decide))
              have rgz146 : 0 ≤ z146.toInt ∧ z146.toInt ≤ 1 := rgz146
              have t149 : Imp (z146.toInt = 0) (1 ≤ (V150 1 3).toInt) := t149
              refine lv_if_ne (tgt := 123) hx hb dX1_readPick_118 (by decide) (fun c152 => ?_) (fun c152 => ?_)
              · skip
                have f153 : z146.toInt ≠ 0 := b_neq rfl (by decide) c152
                refine lv_aload_n hx hb dX1_readPick_123 rfl (lv_at hl 2 rfl) ?_
                refine va_get (D := D) (ci := 1) (v := rfN ad 38 (V150 1 1)) (fs := (xfReader ad V150 L151 Z)) (C := RX1) (T := TX1) (N := 9) hx hb hg inX1 hown hK hP 1 xgReader rfl 1 (by decide) (hg _ w305) (fun _ h9 => h9) rfl dX1_readPick_124 ?_
                have pq154 : (V150 1 1).toInt = ((V 1 1)).toInt := congrArg Int32.toInt ((ajV150 1 1 rfl).trans ((ajV139 1 1 rfl).trans ((ajV102 1 1 rfl).trans ((ajV92 1 1 rfl).trans ((ajV77 1 1 rfl).trans ((ajV63 1 1 rfl).trans ((ajV51 1 1 rfl).trans ((ajV35 1 1 rfl).trans ((ajV23 1 1 rfl).trans (ajV7 1 1 rfl))))))))))
                refine g_topv (v := .ref (ad (38 + b))) (rfN_r (by first | omega | ((try (have i_t149 := Imp.go t149 (by omega))); (try (have i_t138 := Imp.go t138 (by omega))); (try (have i_t76 := Imp.go t76 (by omega))); (try (have i_t62 := Imp.go t62 (by omega))); first | omega | ((try (have i_t34 := Imp.go t34 (by omega))); (try (have i_t22 := Imp.go t22 (by omega))); (try (have i_t6 := Imp.go t6 (by omega))); (try (have i_cd := Imp.go cd (by omega))); first | omega | ((try (have i_cd := Imp.go cd (by omega))); (try (have i_t6 := Imp.go t6 (by omega))); (try (have i_t22 := Imp.go t22 (by omega))); (try (have i_t34 := Imp.go t34 (by omega))); (try (have i_t62 := Imp.go t62 (by omega))); (try (have i_t76 := Imp.go t76 (by omega))); (try (have i_t138 := Imp.go t138 (by omega))); (try (have i_t149 := Imp.go t149 (by omega))); omega))))) ?_
                refine lv_iload_n hx hb dX1_readPick_127 rfl (lv_at hl 0 rfl) ?_
                refine lv_aload_n hx hb dX1_readPick_128 rfl (lv_at hl 2 rfl) ?_
                refine va_get (D := D) (ci := 1) (v := rfN ad 38 (V150 1 1)) (fs := (xfReader ad V150 L151 Z)) (C := RX1) (T := TX1) (N := 9) hx hb hg inX1 hown hK hP 1 xgReader rfl 1 (by decide) (hg _ w305) (fun _ h9 => h9) rfl dX1_readPick_129 ?_
                refine g_topv (v := .ref (ad (38 + b))) (rfN_r (by first | omega | ((try (have i_t149 := Imp.go t149 (by omega))); (try (have i_t138 := Imp.go t138 (by omega))); (try (have i_t76 := Imp.go t76 (by omega))); (try (have i_t62 := Imp.go t62 (by omega))); first | omega | ((try (have i_t34 := Imp.go t34 (by omega))); (try (have i_t22 := Imp.go t22 (by omega))); (try (have i_t6 := Imp.go t6 (by omega))); (try (have i_cd := Imp.go cd (by omega))); first | omega | ((try (have i_cd := Imp.go cd (by omega))); (try (have i_t6 := Imp.go t6 (by omega))); (try (have i_t22 := Imp.go t22 (by omega))); (try (have i_t34 := Imp.go t34 (by omega))); (try (have i_t62 := Imp.go t62 (by omega))); (try (have i_t76 := Imp.go t76 (by omega))); (try (have i_t138 := Imp.go t138 (by omega))); (try (have i_t149 := Imp.go t149 (by omega))); omega))))) ?_
                refine va_getN (D := D) (ci := 0) (v := .int (V150 42 b)) (fs := (xfBook ad V150 b)) (C := RX0) (T := TX0) (N := 13) hx hb hg inX0 hown hK hP (38 + b) (xgBook hb2) rfl 12 (by decide) (hnw.use 630 n630 rfl) (fun _ h9 => h9) rfl dX1_readPick_132 ?_
                refine g_top (v := (V139 42 b)) (ajV150 42 b rfl) ?_
                have r155 : 0 ≤ ((V139 42 b)).toInt ∧ ((V139 42 b)).toInt ≤ 8200 := hMV139 42 b
                refine gA_void (gA_runV (As := [.int z83, .int (V139 42 b)]) (rest := []) (ci := 0) (q0 := (38 + b)) hx hb hml hown hg hP hD hK hS hA hnw hgk (x_patch l D ks H.size ad kk V150 L151 Z z83 (V139 42 b) (b) hMV150 (show b < 2 from by first | exact om_f940a4667dd6 hb2 | first | omega | ((try (have i_t149 := Imp.go t149 (by omega))); (try (have i_t138 := Imp.go t138 (by omega))); (try (have i_t76 := Imp.go t76 (by omega))); (try (have i_t62 := Imp.go t62 (by omega))); first | omega | ((try (have i_t34 := Imp.go t34 (by omega))); (try (have i_t22 := Imp.go t22 (by omega))); (try (have i_t6 := Imp.go t6 (by omega))); (try (have i_cd := Imp.go cd (by omega))); first | omega | ((try (have i_cd := Imp.go cd (by omega))); (try (have i_t6 := Imp.go t6 (by omega))); (try (have i_t22 := Imp.go t22 (by omega))); (try (have i_t34 := Imp.go t34 (by omega))); (try (have i_t62 := Imp.go t62 (by omega))); (try (have i_t76 := Imp.go t76 (by omega))); (try (have i_t138 := Imp.go t138 (by omega))); (try (have i_t149 := Imp.go t149 (by omega))); omega))))) w987 w988 w989 w167 w990 rfl (xgBook hb2) hdV_yX0_patch ⟨(by show 0 + 1 ≤ 10 * dd + 10; (first | exact om_d42bae854ac7 rg_p0.2 y1 | omega)), (by show 8 + (3 + 11) + (0) ≤ 300 * dd + 265; (first | exact om_0f7fda923432 rg_p0.2 y1 | omega))⟩ rfl hl.1 rfl (Nat.le_of_ble_eq_true rfl) dX1_readPick_135 ⟨Nat.le_of_ble_eq_true rfl, Nat.le_of_ble_eq_true rfl⟩) hP hD hK hS hA (fun u157 H locs w158 hP hD hK hS => ?_)
                obtain ⟨V160, L161⟩ := u157
                obtain ⟨hMV160, ajV160, axL161, fyV160, t159⟩ := w158
                have axL161 : L151 = L161 := Eq.symm axL161
                subst axL161
                have hP : va_P D vwCl (xw ad kk V160 L151 Z) H := hP
                have hD : va_D A (xw ad kk V160 L151 Z) := hD
                have hMV160 : rgd bX V160 := hMV160
                have ajV160 : agr [] [48] V150 V160 := ajV160
                have agV160 : agr [(1, 3), (1, 6), (1, 8), (6, 8), (6, 9), (6, 10)] [42, 43, 44, 48] V V160 := agV150.tr ajV160 (by decide) (by decide)
                have fwV160 : frX (xR b) V V160 := frX.tr fwV150 (fyV160)
                have t159 : (z83.toInt < 0 ∨ 8200 ≤ z83.toInt) ∧ V160 = V150 ∨ (0 ≤ z83.toInt ∧ z83.toInt < 8200 ∧ V160 = up2 V150 48 (8200 * b + Int32.toNatClampNeg z83) (V139 42 b)) := t159
                have cd162 : CD V150 b := ⟨CB.ag t136.1 (show agr [(1, 3), (6, 8), (6, 9), (6, 10)] [] V139 V150 from (agr.tr agr.rf ajV150 (by decide) (by decide))) (fun _ => rfl) (fun _ => rfl), CO.ag t136.2 (show agr [(1, 3), (6, 8), (6, 9), (6, 10)] [] V139 V150 from (agr.tr agr.rf ajV150 (by decide) (by decide))) (fun _ => rfl) (fun _ => rfl)⟩
                have px163 : px V V139 b := px.tr px123 t137
                have px164 : px V V150 b := px.tr px163 (px.ag (show agr [(1, 3), (6, 8), (6, 9), (6, 10)] [] V139 V150 from (agr.tr agr.rf ajV150 (by decide) (by decide))) (fun _ => rfl) (fun _ => rfl) (fun _ => rfl))
                have cl165 : 0 ≤ (V150 42 b).toInt ∧ (V150 42 b).toInt ≤ 8200 := hMV150 42 b
                have px166 : px V102 V139 b := px.tr (px.rf : px V102 V102 b) t137
                have px167 : px V102 V150 b := px.tr px166 (px.ag (show agr [(1, 3), (6, 8), (6, 9), (6, 10)] [] V139 V150 from (agr.tr agr.rf ajV150 (by decide) (by decide))) (fun _ => rfl) (fun _ => rfl) (fun _ => rfl))
                have jp168 := jp.up jp130 px167.1
                have px169 : px V V7 b := px.tr (px.rf : px V V b) (px.ag (show agr [(1, 3), (6, 8), (6, 9), (6, 10)] [] V V7 from (agr.tr agr.rf ajV7 (by decide) (by decide))) (fun _ => rfl) (fun _ => rfl) (fun _ => rfl))
                have px170 : px V V23 b := px.tr px169 t21
                have px171 : px V V35 b := px.tr px170 (px.ag (show agr [(1, 3), (6, 8), (6, 9), (6, 10)] [] V23 V35 from (agr.tr agr.rf ajV35 (by decide) (by decide))) (fun _ => rfl) (fun _ => rfl) (fun _ => rfl))
                have px172 : px V V51 b := px.tr px171 t50
                have px173 : px V V63 b := px.tr px172 t61
                have px174 : px V V77 b := px.tr px173 (px.ag (show agr [(1, 3), (6, 8), (6, 9), (6, 10)] [] V63 V77 from (agr.tr agr.rf ajV77 (by decide) (by decide))) (fun _ => rfl) (fun _ => rfl) (fun _ => rfl))
                have cz175 := px174.1.1
                have pq176 : (V150 42 b).toInt = ((V139 42 b)).toInt := congrArg Int32.toInt (ajV150 42 b rfl)
                have pt : ptX V150 V160 b z83 (V139 42 b) := t159
                have cd177 : CD V160 b := pt.cd cd162 (a := (V77 42 b).toInt.toNat) jp168 (by omega) (by omega) (by omega)
                have px178 : px V V160 b := ⟨pt.px px164.1 (by omega), (ajV160 43 _ rfl).trans px164.2⟩
                refine lv_iconst (v := 1) hx hb dX1_readPick_138 (by decide) ?_
                have pq179 : (V160 1 3).toInt = ((V150 1 3)).toInt := congrArg Int32.toInt (ajV160 1 3 rfl)
                exact W.zret (v := 1) hx hb hr rfl (fun t ht hW => ⟨⟨1, (V160, L151), rfl, ⟨hMV160, agV160, alL151, fwV160, (by decide), cd177, px178, (Imp.mk (fun hp => absurd hp (by decide)))⟩, by rw [ht]; exact hP, va_K.moved hW.alike hK, hD⟩, hS.F ht⟩) hS.2.2 dX1_readPick_139
              · skip
                have f180 : z146.toInt = 0 := b_eq rfl (by decide) c152
                refine lv_iconst (v := 0) hx hb dX1_readPick_121 (by decide) ?_
                have cd181 : CD V150 b := ⟨CB.ag t136.1 (show agr [(1, 3), (6, 8), (6, 9), (6, 10)] [] V139 V150 from (agr.tr agr.rf ajV150 (by decide) (by decide))) (fun _ => rfl) (fun _ => rfl), CO.ag t136.2 (show agr [(1, 3), (6, 8), (6, 9), (6, 10)] [] V139 V150 from (agr.tr agr.rf ajV150 (by decide) (by decide))) (fun _ => rfl) (fun _ => rfl)⟩
                have px182 : px V V139 b := px.tr px123 t137
                have px183 : px V V150 b := px.tr px182 (px.ag (show agr [(1, 3), (6, 8), (6, 9), (6, 10)] [] V139 V150 from (agr.tr agr.rf ajV150 (by decide) (by decide))) (fun _ => rfl) (fun _ => rfl) (fun _ => rfl))
                exact W.zret (v := 0) hx hb hr rfl (fun t ht hW => ⟨⟨0, (V150, L151), rfl, ⟨hMV150, agV150, alL151, fwV150, (by decide), cd181, px183, (Imp.mk (fun _ => (show 1 ≤ (V150 1 3).toInt from by first | exact om_f8d8213eda45 ((Imp.go t149 (f180))) | first | omega | ((try (have i_t149 := Imp.go t149 (f180))); omega) | ((try (have i_t149 := Imp.go t149 (by omega))); (try (have i_t138 := Imp.go t138 (by omega))); (try (have i_t76 := Imp.go t76 (by omega))); (try (have i_t62 := Imp.go t62 (by omega))); first | omega | ((try (have i_t34 := Imp.go t34 (by omega))); (try (have i_t22 := Imp.go t22 (by omega))); (try (have i_t6 := Imp.go t6 (by omega))); (try (have i_cd := Imp.go cd (by omega))); first | omega | ((try (have i_cd := Imp.go cd (by omega))); (try (have i_t6 := Imp.go t6 (by omega))); (try (have i_t22 := Imp.go t22 (by omega))); (try (have i_t34 := Imp.go t34 (by omega))); first | omega | ((try (have i_t62 := Imp.go t62 (by omega))); (try (have i_t76 := Imp.go t76 (by omega))); (try (have i_t138 := Imp.go t138 (by omega))); (try (have i_t149 := Imp.go t149 (by omega))); omega)))))))⟩, by rw [ht]; exact hP, va_K.moved hW.alike hK, hD⟩, hS.F ht⟩) hS.2.2 dX1_readPick_122
          · skip
            have f184 : z73.toInt = 0 := b_eq rfl (by decide) c79
            refine lv_iconst (v := 0) hx hb dX1_readPick_67 (by decide) ?_
            have cd185 : CD V77 b := ⟨CB.ag t60.1 (show agr [(1, 3), (6, 8), (6, 9), (6, 10)] [] V63 V77 from (agr.tr agr.rf ajV77 (by decide) (by decide))) (fun _ => rfl) (fun _ => rfl), CO.ag t60.2 (show agr [(1, 3), (6, 8), (6, 9), (6, 10)] [] V63 V77 from (agr.tr agr.rf ajV77 (by decide) (by decide))) (fun _ => rfl) (fun _ => rfl)⟩
            have px186 : px V V7 b := px.tr (px.rf : px V V b) (px.ag (show agr [(1, 3), (6, 8), (6, 9), (6, 10)] [] V V7 from (agr.tr agr.rf ajV7 (by decide) (by decide))) (fun _ => rfl) (fun _ => rfl) (fun _ => rfl))
            have px187 : px V V23 b := px.tr px186 t21
            have px188 : px V V35 b := px.tr px187 (px.ag (show agr [(1, 3), (6, 8), (6, 9), (6, 10)] [] V23 V35 from (agr.tr agr.rf ajV35 (by decide) (by decide))) (fun _ => rfl) (fun _ => rfl) (fun _ => rfl))
            have px189 : px V V51 b := px.tr px188 t50
            have px190 : px V V63 b := px.tr px189 t61
            have px191 : px V V77 b := px.tr px190 (px.ag (show agr [(1, 3), (6, 8), (6, 9), (6, 10)] [] V63 V77 from (agr.tr agr.rf ajV77 (by decide) (by decide))) (fun _ => rfl) (fun _ => rfl) (fun _ => rfl))
            exact W.zret (v := 0) hx hb hr rfl (fun t ht hW => ⟨⟨0, (V77, L78), rfl, ⟨hMV77, agV77, alL78, fwV77, (by decide), cd185, px191, (Imp.mk (fun _ => (show 1 ≤ (V77 1 3).toInt from by first | exact om_f8d8213eda45 ((Imp.go t76 (f184))) | first | omega | ((try (have i_t76 := Imp.go t76 (f184))); omega) | ((try (have i_t76 := Imp.go t76 (by omega))); (try (have i_t62 := Imp.go t62 (by omega))); (try (have i_t34 := Imp.go t34 (by omega))); (try (have i_t22 := Imp.go t22 (by omega))); first | omega | ((try (have i_t6 := Imp.go t6 (by omega))); (try (have i_cd := Imp.go cd (by omega))); (try (have i_cd := Imp.go cd (by omega))); (try (have i_t6 := Imp.go t6 (by omega))); first | omega | ((try (have i_t22 := Imp.go t22 (by omega))); (try (have i_t34 := Imp.go t34 (by omega))); (try (have i_t62 := Imp.go t62 (by omega))); (try (have i_t76 := Imp.go t76 (by omega))); omega))))))⟩, by rw [ht]; exact hP, va_K.moved hW.alike hK, hD⟩, hS.F ht⟩) hS.2.2 dX1_readPick_68
      · skip
        have f192 : z31.toInt = 0 := b_eq rfl (by decide) c37
        refine lv_iconst (v := 0) hx hb dX1_readPick_28 (by decide) ?_
        have cd193 : CD V35 b := ⟨CB.ag t20.1 (show agr [(1, 3), (6, 8), (6, 9), (6, 10)] [] V23 V35 from (agr.tr agr.rf ajV35 (by decide) (by decide))) (fun _ => rfl) (fun _ => rfl), CO.ag t20.2 (show agr [(1, 3), (6, 8), (6, 9), (6, 10)] [] V23 V35 from (agr.tr agr.rf ajV35 (by decide) (by decide))) (fun _ => rfl) (fun _ => rfl)⟩
        have px194 : px V V7 b := px.tr (px.rf : px V V b) (px.ag (show agr [(1, 3), (6, 8), (6, 9), (6, 10)] [] V V7 from (agr.tr agr.rf ajV7 (by decide) (by decide))) (fun _ => rfl) (fun _ => rfl) (fun _ => rfl))
        have px195 : px V V23 b := px.tr px194 t21
        have px196 : px V V35 b := px.tr px195 (px.ag (show agr [(1, 3), (6, 8), (6, 9), (6, 10)] [] V23 V35 from (agr.tr agr.rf ajV35 (by decide) (by decide))) (fun _ => rfl) (fun _ => rfl) (fun _ => rfl))
        exact W.zret (v := 0) hx hb hr rfl (fun t ht hW => ⟨⟨0, (V35, L36), rfl, ⟨hMV35, agV35, alL36, fwV35, (by decide), cd193, px196, (Imp.mk (fun _ => (show 1 ≤ (V35 1 3).toInt from by first | exact om_f8d8213eda45 ((Imp.go t34 (f192))) | first | omega | ((try (have i_t34 := Imp.go t34 (f192))); omega) | ((try (have i_t34 := Imp.go t34 (by omega))); (try (have i_t22 := Imp.go t22 (by omega))); (try (have i_t6 := Imp.go t6 (by omega))); (try (have i_cd := Imp.go cd (by omega))); first | omega | ((try (have i_cd := Imp.go cd (by omega))); (try (have i_t6 := Imp.go t6 (by omega))); (try (have i_t22 := Imp.go t22 (by omega))); (try (have i_t34 := Imp.go t34 (by omega))); omega)))))⟩, by rw [ht]; exact hP, va_K.moved hW.alike hK, hD⟩, hS.F ht⟩) hS.2.2 dX1_readPick_29
theorem K_xpart {l : Launch} {D : va_G} {ks : KS} : ∀ dd, K_x_readPart l D ks dd
  | 0 => x_readPart (fun d9 h => absurd h (by omega)) (fun d9 h => absurd h (by omega)) (fun d9 h => absurd h (by omega)) (fun d9 h => absurd h (by omega)) (fun d9 h => absurd h (by omega))
  | d + 1 => by
    have k1 := K_xpart (l := l) (D := D) (ks := ks) d
    have k4 := x_readExpression (x_readSum (x_readProduct k1))
    have kw := x_readWithin k4
    refine x_readPart (fun d9 h => ?_) (fun d9 h => ?_) (fun d9 h => ?_) (fun d9 h => ?_) (fun d9 h => ?_)
    all_goals (have e : d9 = d := by omega)
    all_goals subst e
    · exact k4
    · exact k1
    · exact x_readPick k4
    · exact x_readOf kw
    · exact kw
theorem K_xexpr {l : Launch} {D : va_G} {ks : KS} (dd : Nat) : K_x_readExpression l D ks dd := x_readExpression (x_readSum (x_readProduct (K_xpart dd)))
end
section
/-! the class's tables: every E begins at an order -/
def sOK (V : Vf) (b : Nat) (s : Int) : Prop := s = -1 ∨ gs V b s
theorem sOK.up {V W : Vf} {b : Nat} {s : Int} (h : sOK V b s) (p : p0x V W b) : sOK W b s := by
  rcases h with h | h
  · exact Or.inl h
  · exact Or.inr (h.up p)
def TX (V : Vf) (b : Nat) : Prop := (∀ c : Nat, (c : Int) < (V 43 (5 * b + 2)).toInt → sOK V b (V 56 (24 * b + c)).toInt ∧ sOK V b (V 57 (24 * b + c)).toInt ∧ ∀ m, m < 20 → sOK V b (V 61 (20 * (24 * b + c) + m)).toInt) ∧ (∀ w : Nat, (w : Int) < (V 41 b).toInt → gs V b (V 66 (12 * b + w)).toInt) ∧ (∀ a : Nat, (a : Int) < (V 41 b).toInt → (V 47 (12 * b + a)).toInt < (V 41 b).toInt)
theorem TX.ag {fs : List (Nat × Nat)} {cs : List Nat} {V W : Vf} {b : Nat} (h : TX V b) (a : agr fs cs V W) (p : px V W b) (q56 : ∀ k, wrL fs cs 56 k = false) (q57 : ∀ k, wrL fs cs 57 k = false) (q61 : ∀ k, wrL fs cs 61 k = false) (q41 : ∀ k, wrL fs cs 41 k = false) (q66 : ∀ k, wrL fs cs 66 k = false) (q47 : ∀ k, wrL fs cs 47 k = false) : TX W b := by
  refine ⟨fun c hc => ?_, fun w hw => ?_, fun x hx => ?_⟩
  · rw [p.2] at hc
    have z := h.1 c hc
    rw [a _ _ (q56 _), a _ _ (q57 _)]
    refine ⟨z.1.up p.1, z.2.1.up p.1, fun m hm => ?_⟩
    rw [a _ _ (q61 _)]
    exact (z.2.2 m hm).up p.1
  · rw [a _ _ (q41 _)] at hw
    rw [a _ _ (q66 _)]
    exact (h.2.1 w hw).up p.1
  · rw [a _ _ (q41 _)] at hx ⊢
    rw [a _ _ (q47 _)]
    exact h.2.2 x hx
/-- one of the starts is set -/
theorem TX.st {V W : Vf} {b c k : Nat} {x : Int32} (h : TX V b) (e : W = up2 V c k x) (hc : c = 56 ∨ c = 57 ∨ c = 61) (g : gs V b x.toInt) : TX W b := by
  have o : ∀ c' k', c' ≠ c → W c' k' = V c' k' := fun c' k' hn => up2_o e hn
  have p : p0x V W b := ⟨by rw [o 42 b (by omega)]; exact Int.le_refl _, fun k' _ => o 48 _ (by omega)⟩
  have one : ∀ c' k', sOK V b (V c' k').toInt → sOK W b (W c' k').toInt := fun c' k' z => by
    by_cases hq : c' = c
    · subst hq
      by_cases hk : k' = k
      · subst hk
        rw [up2_s e]
        exact Or.inr (g.up p)
      · rw [up2_k e hk]
        exact z.up p
    · rw [o c' k' hq]
      exact z.up p
  refine ⟨fun c' hc' => ?_, fun w hw => ?_, fun y hy => ?_⟩
  · rw [o 43 _ (by omega)] at hc'
    have z := h.1 c' hc'
    exact ⟨one _ _ z.1, one _ _ z.2.1, fun m hm => one _ _ (z.2.2 m hm)⟩
  · rw [o 41 _ (by omega)] at hw
    rw [o 66 _ (by omega)]
    exact (h.2.1 w hw).up p
  · rw [o 41 _ (by omega)] at hy ⊢
    rw [o 47 _ (by omega)]
    exact h.2.2 y hy
/-- a component is told -/
theorem TX.add {V W : Vf} {b n : Nat} (h : TX V b) (hn : (n : Int) = (V 43 (5 * b + 2)).toInt) (h43 : (W 43 (5 * b + 2)).toInt ≤ (V 43 (5 * b + 2)).toInt + 1) (p : p0x V W b) (e56 : ∀ q, ¬ q = 24 * b + n → W 56 q = V 56 q) (e57 : ∀ q, ¬ q = 24 * b + n → W 57 q = V 57 q) (e61 : ∀ q, ¬ (20 * (24 * b + n) ≤ q ∧ q < 20 * (24 * b + n) + 20) → W 61 q = V 61 q) (n56 : (W 56 (24 * b + n)).toInt = -1) (n57 : (W 57 (24 * b + n)).toInt = -1) (n61 : ∀ m : Nat, (m : Int) < 20 → (W 61 (20 * (24 * b + n) + m)).toInt = -1) (e41 : W 41 b = V 41 b) (e66 : ∀ k, W 66 k = V 66 k) (e47 : ∀ k, W 47 k = V 47 k) : TX W b := by
  refine ⟨fun c hc => ?_, fun w hw => ?_, fun y hy => ?_⟩
  · by_cases hq : c = n
    · subst hq
      exact ⟨Or.inl n56, Or.inl n57, fun m hm => Or.inl (n61 m (by omega))⟩
    · have z := h.1 c (by omega)
      rw [e56 _ (by omega), e57 _ (by omega)]
      refine ⟨z.1.up p, z.2.1.up p, fun m hm => ?_⟩
      rw [e61 _ (by omega)]
      exact (z.2.2 m hm).up p
  · rw [e41] at hw
    rw [e66]
    exact (h.2.1 w hw).up p
  · rw [e41] at hy ⊢
    rw [e47]
    exact h.2.2 y hy
/-- a wrap is told -/
theorem TX.wrap {V W : Vf} {b n : Nat} (h : TX V b) (hn : (n : Int) = (V 41 b).toInt) (n41 : (W 41 b).toInt = (V 41 b).toInt + 1) (p : px V W b) (e56 : ∀ q, W 56 q = V 56 q) (e57 : ∀ q, W 57 q = V 57 q) (e61 : ∀ q, W 61 q = V 61 q) (e66 : ∀ q, ¬ q = 12 * b + n → W 66 q = V 66 q) (g : gs V b (W 66 (12 * b + n)).toInt) (e47 : ∀ a : Nat, (a : Int) ≤ (n : Int) → (W 47 (12 * b + a)).toInt ≤ (n : Int)) : TX W b := by
  refine ⟨fun c hc => ?_, fun w hw => ?_, fun y hy => ?_⟩
  · rw [p.2] at hc
    have z := h.1 c hc
    rw [e56, e57]
    refine ⟨z.1.up p.1, z.2.1.up p.1, fun m hm => ?_⟩
    rw [e61]
    exact (z.2.2 m hm).up p.1
  · by_cases hq : w = n
    · subst hq
      exact g.up p.1
    · rw [e66 _ (by omega)]
      exact (h.2.1 w (by omega)).up p.1
  · have := e47 y (by omega)
    omega


abbrev r_x_addWrap2 : Room := { frames := 0, cells := 0, slots := 0, locals := 0 }
abbrev q_x_addWrap2 (D : va_G) (ks : KS) (ad : Nat → Nat) (kk : Nat → ClassId) (V : Vf) (L : Lf) (Z : XZ) (p0 : Int32) (p1 : Int32) (p2 : Int32) (p3 : Int32) (p4 : Int32) (b : Nat) (A : Nat → Prop) : Array Value → State → Outcome → State → Prop := va_Qv (fun (u : Vf × Lf) => rgd bX u.1 ∧ agr [] [41, 47, 62, 63, 64, 65, 66] V u.1 ∧ u.2 = L ∧ frX (xR b) V u.1 ∧ (Imp ((V 41 b).toInt < 12) ((u.1 41 b).toInt = (V 41 b).toInt + 1)) ∧ (Imp ((V 41 b).toInt < 12) (∀ a : Nat, (a : Int) ≤ (V 41 b).toInt → (u.1 47 (12 * b + a)).toInt ≤ (V 41 b).toInt)) ∧ (Imp ((V 41 b).toInt < 12) (∀ q : Nat, ¬ q = 12 * b + Int32.toNatClampNeg (V 41 b) → u.1 66 q = V 66 q)) ∧ (Imp ((V 41 b).toInt < 12) (u.1 66 (12 * b + Int32.toNatClampNeg (V 41 b)) = p4))) (fun u t => gq D A (xw ad kk u.1 u.2 Z) (xty kk Z) t) A
set_option maxHeartbeats 4000000 in
set_option maxRecDepth 100000 in
theorem x_addWrap2 (l : Launch) (D : va_G) (ks : KS) (sz : Nat) (ad : Nat → Nat) (kk : Nat → ClassId) (V : Vf) (L : Lf) (Z : XZ) (p0 : Int32) (p1 : Int32) (p2 : Int32) (p3 : Int32) (p4 : Int32) (b : Nat) (hMV : rgd bX V) (rg_p4 : 0 ≤ p4.toInt ∧ p4.toInt ≤ 8200) (hb2 : b < 2) (tw : (∀ a : Nat, (a : Int) < (V 41 b).toInt → (V 47 (12 * b + a)).toInt < (V 41 b).toInt))  : Met l yX0_addWrap (Cond.code yX0_addWrap cX0_addWrap 8 none :: GW) r_x_addWrap2 (va_Pc [.ref (ad (38 + b)), .int p0, .int p1, .int p2, .int p3, .int p4] (gp D ks (xw ad kk V L Z) (xty kk Z) sz)) (q_x_addWrap2 D ks ad kk V L Z p0 p1 p2 p3 p4 b (va_A (xw ad kk V L Z) sz)) 0 0 (va_A (xw ad kk V L Z) sz) := by
  refine g_met (q_x_addWrap2 D ks ad kk V L Z p0 p1 p2 p3 p4 b) (by decide) (Nat.le_of_ble_eq_true rfl) ?_
  intro p e s m below meth c A ls H locs hx hb hr hml hown hg hlocks hin hnw hgk hP hK hD hS hA hl
  have hown : s.vm.findClass RX0 = some m.cls := hown
  have hl : lv_has ls 8 [(0, .ref (ad (38 + b))), (1, .int p0), (2, .int p1), (3, .int p2), (4, .int p3), (5, .int p4)] := hl
  have hP : va_P D vwCl (xw ad kk V L Z) H := hP
  have hD : va_D A (xw ad kk V L Z) := hD
  have hK : va_K D vwCl (xty kk Z) s := hK
  have agV : agr [] [41, 47, 62, 63, 64, 65, 66] V V := agr.rf
  have fwV : frX (xR b) V V := frX.rf
  refine lv_aload_n hx hb dX0_addWrap_0 rfl (lv_at hl 0 rfl) ?_
  refine va_get (D := D) (ci := 0) (v := .int (V 41 b)) (fs := (xfBook ad V b)) (C := RX0) (T := TX0) (N := 13) hx hb hg inX0 hown hK hP (38 + b) (xgBook hb2) rfl 11 (by decide) (hg _ w625) (fun _ h9 => h9) rfl dX0_addWrap_1 ?_
  have r1 : 0 ≤ ((V 41 b)).toInt ∧ ((V 41 b)).toInt ≤ 12 := hMV 41 b
  refine lv_bipush (v := 12) hx hb dX0_addWrap_4 (by decide) ?_
  refine lv_icmp_lt (tgt := 10) hx hb dX0_addWrap_6 (by decide) (fun c2 => ?_) (fun c2 => ?_)
  · skip
    have f3 : ((V 41 b)).toInt < 12 := b_lt rfl (by decide) c2
    refine lv_aload_n hx hb dX0_addWrap_10 rfl (lv_at hl 0 rfl) ?_
    refine va_get (D := D) (ci := 0) (v := .ref (ad (66 + b))) (fs := (xfBook ad V b)) (C := RX0) (T := TX0) (N := 13) hx hb hg inX0 hown hK hP (38 + b) (xgBook hb2) rfl 8 (by decide) (hg _ w619) (fun _ h9 => h9) rfl dX0_addWrap_11 ?_
    refine lv_aload_n hx hb dX0_addWrap_14 rfl (lv_at hl 0 rfl) ?_
    refine va_get (D := D) (ci := 0) (v := .int (V 41 b)) (fs := (xfBook ad V b)) (C := RX0) (T := TX0) (N := 13) hx hb hg inX0 hown hK hP (38 + b) (xgBook hb2) rfl 11 (by decide) (hg _ w625) (fun _ h9 => h9) rfl dX0_addWrap_15 ?_
    have il4 : b < 2 := by first | exact om_f940a4667dd6 hb2 | first | omega | ((try (have i_tw := Imp.go tw (by omega))); omega)
    refine va_aldq (D := D) (i := (V 41 b)) hx hb hK hP (66 + b) (59 + b) (xgwrapsA il4) (xtwrapsA il4) (i_in (a := ((V 41 b)).toInt) rfl (by first | exact om_d4ab6ce6d2bb r1.1 f3 | first | omega | ((try (have i_tw := Imp.go tw (by omega))); omega))) dX0_addWrap_18 ?_
    have kc5 := i_clamp (x := (V 41 b)) rfl (by first | exact om_eafa9039069c r1.1 | first | omega | ((try (have i_tw := Imp.go tw (by omega))); omega))
    refine g_topv (v := .ref (ad (312 + (12 * b + (Int32.toNatClampNeg (V 41 b)))))) (congrArg va_rf (if_pos (by first | omega | ((try (have i_tw := Imp.go tw (by omega))); omega)))) ?_
    have il6 : (12 * b + (Int32.toNatClampNeg (V 41 b))) < 24 := by first | exact om_29112faea521 hb2 f3 kc5 | first | omega | ((try (have i_tw := Imp.go tw (by omega))); omega)
    refine lv_astore (lv' := [(6, .ref (ad (312 + (12 * b + (Int32.toNatClampNeg (V 41 b)))))), (0, .ref (ad (38 + b))), (1, .int p0), (2, .int p1), (3, .int p2), (4, .int p3), (5, .int p4)]) hx hb dX0_addWrap_19 hl (by decide) rfl (fun ls hl => ?_)
    refine lv_aload hx hb dX0_addWrap_21 (lv_at hl 0 rfl) ?_
    refine lv_iload_n hx hb dX0_addWrap_23 rfl (lv_at hl 2 rfl) ?_
    refine va_putN (D := D) (ci := 10) (v := .int p0) (ty := tyX10 0) (fs := (xfWrap V (12 * b + (Int32.toNatClampNeg (V 41 b))))) (C := RX10) (T := TX10) (N := 5) hx hb hg inX10 tyX10 tyX10_ok nmX10 hown hK hP hD hS (312 + (12 * b + (Int32.toNatClampNeg (V 41 b)))) (xgWrap il6) rfl 0 (by decide) (hnw.use 575 n575 rfl) (fun _ h9 => h9) rfl (tyX10_ok 0 (by decide)) rfl rfl (Nat.le_of_ble_eq_true rfl) dX0_addWrap_24 (fun H locs hP hD hS => ?_)
    obtain ⟨V7, hV7⟩ : ∃ z, z = up2 V 62 (12 * b + (Int32.toNatClampNeg (V 41 b))) p0 := ⟨_, rfl⟩
    have ew8 : (xw ad kk V L Z).set (312 + (12 * b + (Int32.toNatClampNeg (V 41 b)))) ((ad (312 + (12 * b + (Int32.toNatClampNeg (V 41 b))))), .inr (10, (xfWrap V (12 * b + (Int32.toNatClampNeg (V 41 b)))).set 0 (.int p0))) = xw ad kk V7 L Z := by rw [hV7]; exact xpWrap_type il6
    have hP : va_P D vwCl (xw ad kk V7 L Z) H := by rw [← ew8]; exact hP
    have hD : va_D A (xw ad kk V7 L Z) := by rw [← ew8]; exact hD
    have hMV7 : rgd bX V7 := hMV.put hV7 (i_full _)
    have agV7 : agr [] [41, 47, 62, 63, 64, 65, 66] V V7 := agV.up hV7 rfl
    have fwV7 : frX (xR b) V V7 := frX.up fwV hV7 (Or.inr ⟨(by show 12 * b ≤ (12 * b + (Int32.toNatClampNeg (V 41 b))); first | exact om_bc4eeef16aa3 | first | omega | ((try (have i_tw := Imp.go tw (by omega))); omega)), (by show (12 * b + (Int32.toNatClampNeg (V 41 b))) < 12 * b + 12; first | exact om_5a4487e59699 f3 kc5 | first | omega | ((try (have i_tw := Imp.go tw (by omega))); omega))⟩)
    refine lv_aload hx hb dX0_addWrap_27 (lv_at hl 0 rfl) ?_
    refine lv_iload_n hx hb dX0_addWrap_29 rfl (lv_at hl 3 rfl) ?_
    refine va_putN (D := D) (ci := 10) (v := .int p1) (ty := tyX10 1) (fs := (xfWrap V7 (12 * b + (Int32.toNatClampNeg (V 41 b))))) (C := RX10) (T := TX10) (N := 5) hx hb hg inX10 tyX10 tyX10_ok nmX10 hown hK hP hD hS (312 + (12 * b + (Int32.toNatClampNeg (V 41 b)))) (xgWrap il6) rfl 1 (by decide) (hnw.use 576 n576 rfl) (fun _ h9 => h9) rfl (tyX10_ok 1 (by decide)) rfl rfl (Nat.le_of_ble_eq_true rfl) dX0_addWrap_30 (fun H locs hP hD hS => ?_)
    obtain ⟨V9, hV9⟩ : ∃ z, z = up2 V7 63 (12 * b + (Int32.toNatClampNeg (V 41 b))) p1 := ⟨_, rfl⟩
    have ew10 : (xw ad kk V7 L Z).set (312 + (12 * b + (Int32.toNatClampNeg (V 41 b)))) ((ad (312 + (12 * b + (Int32.toNatClampNeg (V 41 b))))), .inr (10, (xfWrap V7 (12 * b + (Int32.toNatClampNeg (V 41 b)))).set 1 (.int p1))) = xw ad kk V9 L Z := by rw [hV9]; exact xpWrap_method il6
    have hP : va_P D vwCl (xw ad kk V9 L Z) H := by rw [← ew10]; exact hP
    have hD : va_D A (xw ad kk V9 L Z) := by rw [← ew10]; exact hD
    have hMV9 : rgd bX V9 := hMV7.put hV9 (i_full _)
    have agV9 : agr [] [41, 47, 62, 63, 64, 65, 66] V V9 := agV7.up hV9 rfl
    have fwV9 : frX (xR b) V V9 := frX.up fwV7 hV9 (Or.inr ⟨(by show 12 * b ≤ (12 * b + (Int32.toNatClampNeg (V 41 b))); first | exact om_bc4eeef16aa3 | first | omega | ((try (have i_tw := Imp.go tw (by omega))); omega)), (by show (12 * b + (Int32.toNatClampNeg (V 41 b))) < 12 * b + 12; first | exact om_5a4487e59699 f3 kc5 | first | omega | ((try (have i_tw := Imp.go tw (by omega))); omega))⟩)
    refine lv_aload hx hb dX0_addWrap_33 (lv_at hl 0 rfl) ?_
    refine lv_iload_n hx hb dX0_addWrap_35 rfl (lv_at hl 4 rfl) ?_
    refine va_putN (D := D) (ci := 10) (v := .int p2) (ty := tyX10 2) (fs := (xfWrap V9 (12 * b + (Int32.toNatClampNeg (V 41 b))))) (C := RX10) (T := TX10) (N := 5) hx hb hg inX10 tyX10 tyX10_ok nmX10 hown hK hP hD hS (312 + (12 * b + (Int32.toNatClampNeg (V 41 b)))) (xgWrap il6) rfl 2 (by decide) (hnw.use 577 n577 rfl) (fun _ h9 => h9) rfl (tyX10_ok 2 (by decide)) rfl rfl (Nat.le_of_ble_eq_true rfl) dX0_addWrap_36 (fun H locs hP hD hS => ?_)
    obtain ⟨V11, hV11⟩ : ∃ z, z = up2 V9 64 (12 * b + (Int32.toNatClampNeg (V 41 b))) p2 := ⟨_, rfl⟩
    have ew12 : (xw ad kk V9 L Z).set (312 + (12 * b + (Int32.toNatClampNeg (V 41 b)))) ((ad (312 + (12 * b + (Int32.toNatClampNeg (V 41 b))))), .inr (10, (xfWrap V9 (12 * b + (Int32.toNatClampNeg (V 41 b)))).set 2 (.int p2))) = xw ad kk V11 L Z := by rw [hV11]; exact xpWrap_number il6
    have hP : va_P D vwCl (xw ad kk V11 L Z) H := by rw [← ew12]; exact hP
    have hD : va_D A (xw ad kk V11 L Z) := by rw [← ew12]; exact hD
    have hMV11 : rgd bX V11 := hMV9.put hV11 (i_full _)
    have agV11 : agr [] [41, 47, 62, 63, 64, 65, 66] V V11 := agV9.up hV11 rfl
    have fwV11 : frX (xR b) V V11 := frX.up fwV9 hV11 (Or.inr ⟨(by show 12 * b ≤ (12 * b + (Int32.toNatClampNeg (V 41 b))); first | exact om_bc4eeef16aa3 | first | omega | ((try (have i_tw := Imp.go tw (by omega))); omega)), (by show (12 * b + (Int32.toNatClampNeg (V 41 b))) < 12 * b + 12; first | exact om_5a4487e59699 f3 kc5 | first | omega | ((try (have i_tw := Imp.go tw (by omega))); omega))⟩)
    refine lv_aload hx hb dX0_addWrap_39 (lv_at hl 0 rfl) ?_
    refine lv_iload hx hb dX0_addWrap_41 (lv_at hl 5 rfl) ?_
    refine va_putN (D := D) (ci := 10) (v := .int p3) (ty := tyX10 3) (fs := (xfWrap V11 (12 * b + (Int32.toNatClampNeg (V 41 b))))) (C := RX10) (T := TX10) (N := 5) hx hb hg inX10 tyX10 tyX10_ok nmX10 hown hK hP hD hS (312 + (12 * b + (Int32.toNatClampNeg (V 41 b)))) (xgWrap il6) rfl 3 (by decide) (hnw.use 578 n578 rfl) (fun _ h9 => h9) rfl (tyX10_ok 3 (by decide)) rfl rfl (Nat.le_of_ble_eq_true rfl) dX0_addWrap_43 (fun H locs hP hD hS => ?_)
    obtain ⟨V13, hV13⟩ : ∃ z, z = up2 V11 65 (12 * b + (Int32.toNatClampNeg (V 41 b))) p3 := ⟨_, rfl⟩
    have ew14 : (xw ad kk V11 L Z).set (312 + (12 * b + (Int32.toNatClampNeg (V 41 b)))) ((ad (312 + (12 * b + (Int32.toNatClampNeg (V 41 b))))), .inr (10, (xfWrap V11 (12 * b + (Int32.toNatClampNeg (V 41 b)))).set 3 (.int p3))) = xw ad kk V13 L Z := by rw [hV13]; exact xpWrap_phase il6
    have hP : va_P D vwCl (xw ad kk V13 L Z) H := by rw [← ew14]; exact hP
    have hD : va_D A (xw ad kk V13 L Z) := by rw [← ew14]; exact hD
    have hMV13 : rgd bX V13 := hMV11.put hV13 (i_full _)
    have agV13 : agr [] [41, 47, 62, 63, 64, 65, 66] V V13 := agV11.up hV13 rfl
    have fwV13 : frX (xR b) V V13 := frX.up fwV11 hV13 (Or.inr ⟨(by show 12 * b ≤ (12 * b + (Int32.toNatClampNeg (V 41 b))); first | exact om_bc4eeef16aa3 | first | omega | ((try (have i_tw := Imp.go tw (by omega))); omega)), (by show (12 * b + (Int32.toNatClampNeg (V 41 b))) < 12 * b + 12; first | exact om_5a4487e59699 f3 kc5 | first | omega | ((try (have i_tw := Imp.go tw (by omega))); omega))⟩)
    refine lv_aload hx hb dX0_addWrap_46 (lv_at hl 0 rfl) ?_
    refine lv_iload hx hb dX0_addWrap_48 (lv_at hl 6 rfl) ?_
    refine va_putN (D := D) (ci := 10) (v := .int p4) (ty := tyX10 4) (fs := (xfWrap V13 (12 * b + (Int32.toNatClampNeg (V 41 b))))) (C := RX10) (T := TX10) (N := 5) hx hb hg inX10 tyX10 tyX10_ok nmX10 hown hK hP hD hS (312 + (12 * b + (Int32.toNatClampNeg (V 41 b)))) (xgWrap il6) rfl 4 (by decide) (hnw.use 580 n580 rfl) (fun _ h9 => h9) rfl (tyX10_ok 4 (by decide)) rfl rfl (Nat.le_of_ble_eq_true rfl) dX0_addWrap_50 (fun H locs hP hD hS => ?_)
    obtain ⟨V15, hV15⟩ : ∃ z, z = up2 V13 66 (12 * b + (Int32.toNatClampNeg (V 41 b))) p4 := ⟨_, rfl⟩
    have ew16 : (xw ad kk V13 L Z).set (312 + (12 * b + (Int32.toNatClampNeg (V 41 b)))) ((ad (312 + (12 * b + (Int32.toNatClampNeg (V 41 b))))), .inr (10, (xfWrap V13 (12 * b + (Int32.toNatClampNeg (V 41 b)))).set 4 (.int p4))) = xw ad kk V15 L Z := by rw [hV15]; exact xpWrap_start il6
    have hP : va_P D vwCl (xw ad kk V15 L Z) H := by rw [← ew16]; exact hP
    have hD : va_D A (xw ad kk V15 L Z) := by rw [← ew16]; exact hD
    have hMV15 : rgd bX V15 := hMV13.put hV15 (show 0 ≤ p4.toInt ∧ p4.toInt ≤ 8200 from by first | exact om_827712d37f0f rg_p4.1 rg_p4.2 | first | omega | ((try (have i_tw := Imp.go tw (by omega))); omega))
    have agV15 : agr [] [41, 47, 62, 63, 64, 65, 66] V V15 := agV13.up hV15 rfl
    have fwV15 : frX (xR b) V V15 := frX.up fwV13 hV15 (Or.inr ⟨(by show 12 * b ≤ (12 * b + (Int32.toNatClampNeg (V 41 b))); first | exact om_bc4eeef16aa3 | first | omega | ((try (have i_tw := Imp.go tw (by omega))); omega)), (by show (12 * b + (Int32.toNatClampNeg (V 41 b))) < 12 * b + 12; first | exact om_5a4487e59699 f3 kc5 | first | omega | ((try (have i_tw := Imp.go tw (by omega))); omega))⟩)
    refine lv_aload_n hx hb dX0_addWrap_53 rfl (lv_at hl 1 rfl) ?_
    refine va_get (D := D) (ci := 0) (v := .int (V15 41 b)) (fs := (xfBook ad V15 b)) (C := RX0) (T := TX0) (N := 13) hx hb hg inX0 hown hK hP (38 + b) (xgBook hb2) rfl 11 (by decide) (hg _ w625) (fun _ h9 => h9) rfl dX0_addWrap_54 ?_
    refine g_top (v := (V 41 b)) ((up2_o hV15 (by decide)).trans ((up2_o hV13 (by decide)).trans ((up2_o hV11 (by decide)).trans ((up2_o hV9 (by decide)).trans (up2_o hV7 (by decide)))))) ?_
    refine lv_istore (lv' := [(7, .int (V 41 b)), (6, .ref (ad (312 + (12 * b + (Int32.toNatClampNeg (V 41 b)))))), (0, .ref (ad (38 + b))), (1, .int p0), (2, .int p1), (3, .int p2), (4, .int p3), (5, .int p4)]) hx hb dX0_addWrap_57 hl (by decide) rfl (fun ls hl => ?_)
    have lp19 : ∀ (fulp19 : Nat) (y17 : Int32) (V18 : Vf) (H : Heap) (locs : List Loc) (ls : Array Slot), 0 ≤ y17.toInt ∧ y17.toInt ≤ 11 → y17.toInt ≤ (V 41 b).toInt → 0 ≤ y17.toInt → (∀ a : Nat, (a : Int) ≤ (V 41 b).toInt → (a : Int) ≠ y17.toInt → (V18 47 (12 * b + a)).toInt < (V 41 b).toInt) → y17.toInt < (fulp19 : Int) → agr [] [47] V15 V18 → rgd bX V18 → frX (xR b) V V18 → va_P D vwCl (xw ad kk V18 L Z) H → va_D A (xw ad kk V18 L Z) → va_S A s.heap H locs → lv_has ls 8 [(7, .int y17), (6, .ref (ad (312 + (12 * b + (Int32.toNatClampNeg (V 41 b)))))), (0, .ref (ad (38 + b))), (1, .int p0), (2, .int p1), (3, .int p2), (4, .int p3), (5, .int p4)] → W p l e r_x_addWrap2 s m ([.ref (ad (38 + b)), .int p0, .int p1, .int p2, .int p3, .int p4] : List Value).toArray below meth c H locs 0 0 (MQ below (q_x_addWrap2 D ks ad kk V L Z p0 p1 p2 p3 p4 b A) ([.ref (ad (38 + b)), .int p0, .int p1, .int p2, .int p3, .int p4] : List Value).toArray s 0 0 A) (F0 m 59 ls []) := by
      intro fulp19
      induction fulp19 with
      | zero =>
        intro y17 V18 H locs ls klp19_0 xlp19_0 xlp19_1 xlp19_2 hn ajV18 hMV18 fwV18 hP hD hS hl
        exfalso; (first | exact om_21e89d3d06d7 klp19_0.1 hn | omega)
      | succ fulp19 ihlp19 =>
        intro y17 V18 H locs ls klp19_0 xlp19_0 xlp19_1 xlp19_2 hn ajV18 hMV18 fwV18 hP hD hS hl
        have agV18 : agr [] [41, 47, 62, 63, 64, 65, 66] V V18 := agV15.tr ajV18 (by decide) (by decide)
        refine lv_iload hx hb dX0_addWrap_59 (lv_at hl 0 rfl) ?_
        refine lv_if_le (tgt := 107) hx hb dX0_addWrap_61 (by decide) (fun c20 => ?_) (fun c20 => ?_)
        · skip
          have f21 : y17.toInt ≤ 0 := b_le rfl (by decide) c20
          refine lv_aload_n hx hb dX0_addWrap_107 rfl (lv_at hl 2 rfl) ?_
          refine va_get (D := D) (ci := 0) (v := .ref (ad (68 + b))) (fs := (xfBook ad V18 b)) (C := RX0) (T := TX0) (N := 13) hx hb hg inX0 hown hK hP (38 + b) (xgBook hb2) rfl 9 (by decide) (hg _ w621) (fun _ h9 => h9) rfl dX0_addWrap_108 ?_
          refine lv_iload hx hb dX0_addWrap_111 (lv_at hl 0 rfl) ?_
          refine lv_aload_n hx hb dX0_addWrap_113 rfl (lv_at hl 2 rfl) ?_
          refine va_get (D := D) (ci := 0) (v := .int (V18 41 b)) (fs := (xfBook ad V18 b)) (C := RX0) (T := TX0) (N := 13) hx hb hg inX0 hown hK hP (38 + b) (xgBook hb2) rfl 11 (by decide) (hg _ w625) (fun _ h9 => h9) rfl dX0_addWrap_114 ?_
          refine g_top (v := (V 41 b)) ((ajV18 41 b rfl).trans ((up2_o hV15 (by decide)).trans ((up2_o hV13 (by decide)).trans ((up2_o hV11 (by decide)).trans ((up2_o hV9 (by decide)).trans (up2_o hV7 (by decide))))))) ?_
          have il22 : b < 2 := by first | exact om_f940a4667dd6 hb2 | first | omega | ((try (have i_tw := Imp.go tw (by omega))); omega)
          refine va_iast (D := D) (i := y17) (x := (V 41 b)) hx hb hK hP hD hS (68 + b) (61 + b) (xgwrapOrder il22) (xtwrapOrder il22) (i_in (a := y17.toInt) rfl (by first | exact om_992dabb1eca5 klp19_0.1 f21 | first | omega | ((try (have i_tw := Imp.go tw (by omega))); omega))) dX0_addWrap_117 (fun H locs hP hD hS => ?_)
          have kc23 := i_clamp (x := y17) rfl (by first | exact om_eafa9039069c klp19_0.1 | first | omega | ((try (have i_tw := Imp.go tw (by omega))); omega))
          have kl24 : (Int32.toNatClampNeg y17) < 12 := by first | exact om_0e62abf75189 f21 kc23 | first | omega | ((try (have i_tw := Imp.go tw (by omega))); omega)
          obtain ⟨V25, hV25⟩ : ∃ z, z = up2 V18 47 (12 * b + (Int32.toNatClampNeg y17)) (V 41 b) := ⟨_, rfl⟩
          have ew26 : (xw ad kk V18 L Z).set (68 + b) ((ad (68 + b)), .inl ((kk (68 + b)), 12, .inl (upd (fun q => if q < 12 then V18 47 (12 * b + q) else 0) (Int32.toNatClampNeg y17) (V 41 b)))) = xw ad kk V25 L Z := by rw [hV25]; exact xpwrapOrder il22 kl24
          have hP : va_P D vwCl (xw ad kk V25 L Z) H := by rw [← ew26]; exact hP
          have hD : va_D A (xw ad kk V25 L Z) := by rw [← ew26]; exact hD
          have hMV25 : rgd bX V25 := hMV18.put hV25 (show 0 ≤ ((V 41 b)).toInt ∧ ((V 41 b)).toInt ≤ 11 from by first | exact om_08e1aa59793b r1.1 f3 | first | omega | ((try (have i_tw := Imp.go tw (by omega))); omega))
          have agV25 : agr [] [41, 47, 62, 63, 64, 65, 66] V V25 := agV18.up hV25 rfl
          have fwV25 : frX (xR b) V V25 := frX.up fwV18 hV25 (Or.inr ⟨(by show 12 * b ≤ (12 * b + (Int32.toNatClampNeg y17)); first | exact om_fdad02d66478 klp19_0.1 kc23 | first | omega | ((try (have i_tw := Imp.go tw (by omega))); omega)), (by show (12 * b + (Int32.toNatClampNeg y17)) < 12 * b + 12; first | exact om_9e3f6311c4ce f21 kc23 | first | omega | ((try (have i_tw := Imp.go tw (by omega))); omega))⟩)
          refine lv_aload_n hx hb dX0_addWrap_118 rfl (lv_at hl 2 rfl) ?_
          refine lv_dup hx hb dX0_addWrap_119 rfl ?_
          refine va_get (D := D) (ci := 0) (v := .int (V25 41 b)) (fs := (xfBook ad V25 b)) (C := RX0) (T := TX0) (N := 13) hx hb hg inX0 hown hK hP (38 + b) (xgBook hb2) rfl 11 (by decide) (hg _ w625) (fun _ h9 => h9) rfl dX0_addWrap_120 ?_
          refine g_top (v := (V 41 b)) ((up2_o hV25 (by decide)).trans ((ajV18 41 b rfl).trans ((up2_o hV15 (by decide)).trans ((up2_o hV13 (by decide)).trans ((up2_o hV11 (by decide)).trans ((up2_o hV9 (by decide)).trans (up2_o hV7 (by decide)))))))) ?_
          refine lv_iconst (v := 1) hx hb dX0_addWrap_123 (by decide) ?_
          refine lv_iadd hx hb dX0_addWrap_124 ?_
          refine lv_topi (fun z27 ez27 => ?_)
          have hz27 : z27.toInt = ((V 41 b)).toInt + 1 := i_add ez27 rfl (by decide) (by (first | exact om_4464765f026c r1.1 f3 | omega))
          refine va_put (D := D) (ci := 0) (v := .int z27) (ty := tyX0 11) (fs := (xfBook ad V25 b)) (C := RX0) (T := TX0) (N := 13) hx hb hg inX0 tyX0 tyX0_ok nmX0 hown hK hP hD hS (38 + b) (xgBook hb2) rfl 11 (by decide) (hg _ w625) (fun _ h9 => h9) rfl (tyX0_ok 11 (by decide)) rfl rfl (Nat.le_of_ble_eq_true rfl) dX0_addWrap_125 (fun H locs hP hD hS => ?_)
          obtain ⟨V28, hV28⟩ : ∃ z, z = up2 V25 41 b z27 := ⟨_, rfl⟩
          have ew29 : (xw ad kk V25 L Z).set (38 + b) ((ad (38 + b)), .inr (0, (xfBook ad V25 b).set 11 (.int z27))) = xw ad kk V28 L Z := by rw [hV28]; exact xpBook_wrapCount hb2
          have hP : va_P D vwCl (xw ad kk V28 L Z) H := by rw [← ew29]; exact hP
          have hD : va_D A (xw ad kk V28 L Z) := by rw [← ew29]; exact hD
          have hMV28 : rgd bX V28 := hMV25.put hV28 (show 0 ≤ z27.toInt ∧ z27.toInt ≤ 12 from by first | exact om_b1c60bcb684f r1.1 f3 hz27 | first | omega | ((try (have i_tw := Imp.go tw (by omega))); omega))
          have agV28 : agr [] [41, 47, 62, 63, 64, 65, 66] V V28 := agV25.up hV28 rfl
          have fwV28 : frX (xR b) V V28 := frX.up fwV25 hV28 (Or.inr ⟨(by show b ≤ b; first | exact om_36cf446a3c95 | first | omega | ((try (have i_tw := Imp.go tw (by omega))); omega)), (by show b < b + 1; first | exact om_0bb971ab4ffe | first | omega | ((try (have i_tw := Imp.go tw (by omega))); omega))⟩)
          have pq30 : (V28 41 b).toInt = z27.toInt := congrArg Int32.toInt (up2_s hV28)
          have k41 := i_clamp (x := V 41 b) rfl (by (first | exact om_eafa9039069c r1.1 | omega))
          have rp31 : Imp ((V 41 b).toInt < 12) (∀ a : Nat, (a : Int) ≤ (V 41 b).toInt → (V28 47 (12 * b + a)).toInt ≤ (V 41 b).toInt) := Imp.mk (fun _ a ha => by rw [up2_o hV28 (show ¬ 47 = 41 from by decide)]; rcases Decidable.em (12 * b + a = (12 * b + (Int32.toNatClampNeg y17))) with h9 | h9; (rw [h9, up2_s hV25]; omega); (rw [up2_k hV25 h9]; have h8 := xlp19_2 a ha (by omega); omega))
          have rp32 : Imp ((V 41 b).toInt < 12) (∀ q : Nat, ¬ q = 12 * b + Int32.toNatClampNeg (V 41 b) → V28 66 q = V 66 q) := Imp.mk (fun _ q hq => ((((((((up2_o hV28 (by decide)).trans (up2_o hV25 (by decide))).trans (ajV18 66 _ rfl)).trans (up2_k hV15 (by omega))).trans (up2_o hV13 (by decide))).trans (up2_o hV11 (by decide))).trans (up2_o hV9 (by decide))).trans (up2_o hV7 (by decide))))
          have rp33 : Imp ((V 41 b).toInt < 12) (V28 66 (12 * b + Int32.toNatClampNeg (V 41 b)) = p4) := Imp.mk (fun _ => ((((up2_o hV28 (by decide)).trans (up2_o hV25 (by decide))).trans (ajV18 66 _ rfl)).trans (up2_s hV15)))
          exact W.vret hx hb hr (fun t ht hW => ⟨⟨(V28, L), rfl, ⟨hMV28, agV28, rfl, fwV28, (Imp.mk (fun hp => have hp : (V 41 b).toInt < 12 := hp; (show (V28 41 b).toInt = (V 41 b).toInt + 1 from by first | exact om_689eeacb6d53 hz27 pq30 | first | omega | ((try (have i_tw := Imp.go tw (by omega))); omega)))), rp31, rp32, rp33⟩, by rw [ht]; exact hP, va_K.moved hW.alike hK, hD⟩, hS.F ht⟩) hS.2.2 dX0_addWrap_128
        · skip
          have f34 : 0 < y17.toInt := b_nle rfl (by decide) c20
          refine lv_aload_n hx hb dX0_addWrap_64 rfl (lv_at hl 2 rfl) ?_
          refine va_get (D := D) (ci := 0) (v := .ref (ad (66 + b))) (fs := (xfBook ad V18 b)) (C := RX0) (T := TX0) (N := 13) hx hb hg inX0 hown hK hP (38 + b) (xgBook hb2) rfl 8 (by decide) (hg _ w619) (fun _ h9 => h9) rfl dX0_addWrap_65 ?_
          refine lv_aload_n hx hb dX0_addWrap_68 rfl (lv_at hl 2 rfl) ?_
          refine va_get (D := D) (ci := 0) (v := .ref (ad (68 + b))) (fs := (xfBook ad V18 b)) (C := RX0) (T := TX0) (N := 13) hx hb hg inX0 hown hK hP (38 + b) (xgBook hb2) rfl 9 (by decide) (hg _ w621) (fun _ h9 => h9) rfl dX0_addWrap_69 ?_
          refine lv_iload hx hb dX0_addWrap_72 (lv_at hl 0 rfl) ?_
          refine lv_iconst (v := 1) hx hb dX0_addWrap_74 (by decide) ?_
          refine lv_isub hx hb dX0_addWrap_75 ?_
          refine lv_topi (fun z35 ez35 => ?_)
          have hz35 : z35.toInt = y17.toInt - 1 := i_sub ez35 rfl (by decide) (by (first | exact om_7f4f78fac172 f3 xlp19_0 f34 | omega))
          have il36 : b < 2 := by first | exact om_f940a4667dd6 hb2 | first | omega | ((try (have i_tw := Imp.go tw (by omega))); omega)
          refine va_iald (D := D) (i := z35) hx hb hK hP (68 + b) (61 + b) (xgwrapOrder il36) (xtwrapOrder il36) (i_in (a := z35.toInt) rfl (by first | exact om_f5d89ef8e173 f3 xlp19_0 f34 hz35 | first | omega | ((try (have i_tw := Imp.go tw (by omega))); omega))) dX0_addWrap_76 ?_
          have kc37 := i_clamp (x := z35) rfl (by first | exact om_9271d0948665 f34 hz35 | first | omega | ((try (have i_tw := Imp.go tw (by omega))); omega))
          refine g_top (v := V18 47 (12 * b + (Int32.toNatClampNeg z35))) (if_pos (by first | omega | ((try (have i_tw := Imp.go tw (by omega))); omega))) ?_
          have r38 : 0 ≤ ((V18 47 (12 * b + (Int32.toNatClampNeg z35)))).toInt ∧ ((V18 47 (12 * b + (Int32.toNatClampNeg z35)))).toInt ≤ 11 := hMV18 47 (12 * b + (Int32.toNatClampNeg z35))
          refine va_aldq (D := D) (i := (V18 47 (12 * b + (Int32.toNatClampNeg z35)))) hx hb hK hP (66 + b) (59 + b) (xgwrapsA il4) (xtwrapsA il4) (i_in (a := ((V18 47 (12 * b + (Int32.toNatClampNeg z35)))).toInt) rfl (by first | exact om_da83cce65d18 r38.1 r38.2 | first | omega | ((try (have i_tw := Imp.go tw (by omega))); omega))) dX0_addWrap_77 ?_
          have kc39 := i_clamp (x := (V18 47 (12 * b + (Int32.toNatClampNeg z35)))) rfl (by first | exact om_eafa9039069c r38.1 | first | omega | ((try (have i_tw := Imp.go tw (by omega))); omega))
          refine g_topv (v := .ref (ad (312 + (12 * b + (Int32.toNatClampNeg (V18 47 (12 * b + (Int32.toNatClampNeg z35)))))))) (congrArg va_rf (if_pos (by first | omega | ((try (have i_tw := Imp.go tw (by omega))); omega)))) ?_
          have il40 : (12 * b + (Int32.toNatClampNeg (V18 47 (12 * b + (Int32.toNatClampNeg z35))))) < 24 := by first | exact om_a98cd8d2da4e hb2 r38.2 kc39 | first | omega | ((try (have i_tw := Imp.go tw (by omega))); omega)
          refine va_getN (D := D) (ci := 10) (v := .int (V18 64 (12 * b + (Int32.toNatClampNeg (V18 47 (12 * b + (Int32.toNatClampNeg z35))))))) (fs := (xfWrap V18 (12 * b + (Int32.toNatClampNeg (V18 47 (12 * b + (Int32.toNatClampNeg z35))))))) (C := RX10) (T := TX10) (N := 5) hx hb hg inX10 hown hK hP (312 + (12 * b + (Int32.toNatClampNeg (V18 47 (12 * b + (Int32.toNatClampNeg z35)))))) (xgWrap il40) rfl 2 (by decide) (hnw.use 577 n577 rfl) (fun _ h9 => h9) rfl dX0_addWrap_78 ?_
          refine g_top (v := (V11 64 (12 * b + (Int32.toNatClampNeg (V18 47 (12 * b + (Int32.toNatClampNeg z35))))))) ((ajV18 64 (12 * b + (Int32.toNatClampNeg (V18 47 (12 * b + (Int32.toNatClampNeg z35))))) rfl).trans ((up2_o hV15 (by decide)).trans (up2_o hV13 (by decide)))) ?_
          refine lv_iload_n hx hb dX0_addWrap_81 rfl (lv_at hl 5 rfl) ?_
          refine lv_icmp_le (tgt := 107) hx hb dX0_addWrap_82 (by decide) (fun c41 => ?_) (fun c41 => ?_)
          · skip
            have f42 : ((V11 64 (12 * b + (Int32.toNatClampNeg (V18 47 (12 * b + (Int32.toNatClampNeg z35))))))).toInt ≤ p2.toInt := b_le rfl rfl c41
            refine lv_aload_n hx hb dX0_addWrap_107 rfl (lv_at hl 2 rfl) ?_
            refine va_get (D := D) (ci := 0) (v := .ref (ad (68 + b))) (fs := (xfBook ad V18 b)) (C := RX0) (T := TX0) (N := 13) hx hb hg inX0 hown hK hP (38 + b) (xgBook hb2) rfl 9 (by decide) (hg _ w621) (fun _ h9 => h9) rfl dX0_addWrap_108 ?_
            refine lv_iload hx hb dX0_addWrap_111 (lv_at hl 0 rfl) ?_
            refine lv_aload_n hx hb dX0_addWrap_113 rfl (lv_at hl 2 rfl) ?_
            refine va_get (D := D) (ci := 0) (v := .int (V18 41 b)) (fs := (xfBook ad V18 b)) (C := RX0) (T := TX0) (N := 13) hx hb hg inX0 hown hK hP (38 + b) (xgBook hb2) rfl 11 (by decide) (hg _ w625) (fun _ h9 => h9) rfl dX0_addWrap_114 ?_
            refine g_top (v := (V 41 b)) ((ajV18 41 b rfl).trans ((up2_o hV15 (by decide)).trans ((up2_o hV13 (by decide)).trans ((up2_o hV11 (by decide)).trans ((up2_o hV9 (by decide)).trans (up2_o hV7 (by decide))))))) ?_
            refine va_iast (D := D) (i := y17) (x := (V 41 b)) hx hb hK hP hD hS (68 + b) (61 + b) (xgwrapOrder il36) (xtwrapOrder il36) (i_in (a := y17.toInt) rfl (by first | exact om_e96f9555304e klp19_0.2 f34 | first | omega | ((try (have i_tw := Imp.go tw (by omega))); omega))) dX0_addWrap_117 (fun H locs hP hD hS => ?_)
            have kc43 := i_clamp (x := y17) rfl (by first | exact om_610a4af05d44 f34 | first | omega | ((try (have i_tw := Imp.go tw (by omega))); omega))
            have kl44 : (Int32.toNatClampNeg y17) < 12 := by first | exact om_004b84c8d7e3 klp19_0.2 kc43 | first | omega | ((try (have i_tw := Imp.go tw (by omega))); omega)
            obtain ⟨V45, hV45⟩ : ∃ z, z = up2 V18 47 (12 * b + (Int32.toNatClampNeg y17)) (V 41 b) := ⟨_, rfl⟩
            have ew46 : (xw ad kk V18 L Z).set (68 + b) ((ad (68 + b)), .inl ((kk (68 + b)), 12, .inl (upd (fun q => if q < 12 then V18 47 (12 * b + q) else 0) (Int32.toNatClampNeg y17) (V 41 b)))) = xw ad kk V45 L Z := by rw [hV45]; exact xpwrapOrder il36 kl44
            have hP : va_P D vwCl (xw ad kk V45 L Z) H := by rw [← ew46]; exact hP
            have hD : va_D A (xw ad kk V45 L Z) := by rw [← ew46]; exact hD
            have hMV45 : rgd bX V45 := hMV18.put hV45 (show 0 ≤ ((V 41 b)).toInt ∧ ((V 41 b)).toInt ≤ 11 from by first | exact om_ac45556e949d f3 xlp19_0 f34 | first | omega | ((try (have i_tw := Imp.go tw (by omega))); omega))
            have agV45 : agr [] [41, 47, 62, 63, 64, 65, 66] V V45 := agV18.up hV45 rfl
            have fwV45 : frX (xR b) V V45 := frX.up fwV18 hV45 (Or.inr ⟨(by show 12 * b ≤ (12 * b + (Int32.toNatClampNeg y17)); first | exact om_7de1662b5bb9 f34 kc43 | first | omega | ((try (have i_tw := Imp.go tw (by omega))); omega)), (by show (12 * b + (Int32.toNatClampNeg y17)) < 12 * b + 12; first | exact om_a546892b8cbc kl44 | first | omega | ((try (have i_tw := Imp.go tw (by omega))); omega))⟩)
            refine lv_aload_n hx hb dX0_addWrap_118 rfl (lv_at hl 2 rfl) ?_
            refine lv_dup hx hb dX0_addWrap_119 rfl ?_
            refine va_get (D := D) (ci := 0) (v := .int (V45 41 b)) (fs := (xfBook ad V45 b)) (C := RX0) (T := TX0) (N := 13) hx hb hg inX0 hown hK hP (38 + b) (xgBook hb2) rfl 11 (by decide) (hg _ w625) (fun _ h9 => h9) rfl dX0_addWrap_120 ?_
            refine g_top (v := (V 41 b)) ((up2_o hV45 (by decide)).trans ((ajV18 41 b rfl).trans ((up2_o hV15 (by decide)).trans ((up2_o hV13 (by decide)).trans ((up2_o hV11 (by decide)).trans ((up2_o hV9 (by decide)).trans (up2_o hV7 (by decide)))))))) ?_
            refine lv_iconst (v := 1) hx hb dX0_addWrap_123 (by decide) ?_
            refine lv_iadd hx hb dX0_addWrap_124 ?_
            refine lv_topi (fun z47 ez47 => ?_)
            have hz47 : z47.toInt = ((V 41 b)).toInt + 1 := i_add ez47 rfl (by decide) (by (first | exact om_03da05c7c545 f3 xlp19_0 f34 | omega))
            refine va_put (D := D) (ci := 0) (v := .int z47) (ty := tyX0 11) (fs := (xfBook ad V45 b)) (C := RX0) (T := TX0) (N := 13) hx hb hg inX0 tyX0 tyX0_ok nmX0 hown hK hP hD hS (38 + b) (xgBook hb2) rfl 11 (by decide) (hg _ w625) (fun _ h9 => h9) rfl (tyX0_ok 11 (by decide)) rfl rfl (Nat.le_of_ble_eq_true rfl) dX0_addWrap_125 (fun H locs hP hD hS => ?_)
            obtain ⟨V48, hV48⟩ : ∃ z, z = up2 V45 41 b z47 := ⟨_, rfl⟩
            have ew49 : (xw ad kk V45 L Z).set (38 + b) ((ad (38 + b)), .inr (0, (xfBook ad V45 b).set 11 (.int z47))) = xw ad kk V48 L Z := by rw [hV48]; exact xpBook_wrapCount hb2
            have hP : va_P D vwCl (xw ad kk V48 L Z) H := by rw [← ew49]; exact hP
            have hD : va_D A (xw ad kk V48 L Z) := by rw [← ew49]; exact hD
            have hMV48 : rgd bX V48 := hMV45.put hV48 (show 0 ≤ z47.toInt ∧ z47.toInt ≤ 12 from by first | exact om_371d5b098a1c f3 xlp19_0 f34 hz47 | first | omega | ((try (have i_tw := Imp.go tw (by omega))); omega))
            have agV48 : agr [] [41, 47, 62, 63, 64, 65, 66] V V48 := agV45.up hV48 rfl
            have fwV48 : frX (xR b) V V48 := frX.up fwV45 hV48 (Or.inr ⟨(by show b ≤ b; first | exact om_36cf446a3c95 | first | omega | ((try (have i_tw := Imp.go tw (by omega))); omega)), (by show b < b + 1; first | exact om_0bb971ab4ffe | first | omega | ((try (have i_tw := Imp.go tw (by omega))); omega))⟩)
            have pq50 : (V48 41 b).toInt = z47.toInt := congrArg Int32.toInt (up2_s hV48)
            have k41 := i_clamp (x := V 41 b) rfl (by (first | exact om_788bec03cc2a xlp19_0 f34 | omega))
            have rp51 : Imp ((V 41 b).toInt < 12) (∀ a : Nat, (a : Int) ≤ (V 41 b).toInt → (V48 47 (12 * b + a)).toInt ≤ (V 41 b).toInt) := Imp.mk (fun _ a ha => by rw [up2_o hV48 (show ¬ 47 = 41 from by decide)]; rcases Decidable.em (12 * b + a = (12 * b + (Int32.toNatClampNeg y17))) with h9 | h9; (rw [h9, up2_s hV45]; omega); (rw [up2_k hV45 h9]; have h8 := xlp19_2 a ha (by omega); omega))
            have rp52 : Imp ((V 41 b).toInt < 12) (∀ q : Nat, ¬ q = 12 * b + Int32.toNatClampNeg (V 41 b) → V48 66 q = V 66 q) := Imp.mk (fun _ q hq => ((((((((up2_o hV48 (by decide)).trans (up2_o hV45 (by decide))).trans (ajV18 66 _ rfl)).trans (up2_k hV15 (by omega))).trans (up2_o hV13 (by decide))).trans (up2_o hV11 (by decide))).trans (up2_o hV9 (by decide))).trans (up2_o hV7 (by decide))))
            have rp53 : Imp ((V 41 b).toInt < 12) (V48 66 (12 * b + Int32.toNatClampNeg (V 41 b)) = p4) := Imp.mk (fun _ => ((((up2_o hV48 (by decide)).trans (up2_o hV45 (by decide))).trans (ajV18 66 _ rfl)).trans (up2_s hV15)))
            exact W.vret hx hb hr (fun t ht hW => ⟨⟨(V48, L), rfl, ⟨hMV48, agV48, rfl, fwV48, (Imp.mk (fun hp => have hp : (V 41 b).toInt < 12 := hp; (show (V48 41 b).toInt = (V 41 b).toInt + 1 from by first | exact om_689eeacb6d53 hz47 pq50 | first | omega | ((try (have i_tw := Imp.go tw (by omega))); omega)))), rp51, rp52, rp53⟩, by rw [ht]; exact hP, va_K.moved hW.alike hK, hD⟩, hS.F ht⟩) hS.2.2 dX0_addWrap_128
          · skip
            have f54 : p2.toInt < ((V11 64 (12 * b + (Int32.toNatClampNeg (V18 47 (12 * b + (Int32.toNatClampNeg z35))))))).toInt := b_nle rfl rfl c41
            refine lv_aload_n hx hb dX0_addWrap_85 rfl (lv_at hl 2 rfl) ?_
            refine va_get (D := D) (ci := 0) (v := .ref (ad (68 + b))) (fs := (xfBook ad V18 b)) (C := RX0) (T := TX0) (N := 13) hx hb hg inX0 hown hK hP (38 + b) (xgBook hb2) rfl 9 (by decide) (hg _ w621) (fun _ h9 => h9) rfl dX0_addWrap_86 ?_
            refine lv_iload hx hb dX0_addWrap_89 (lv_at hl 0 rfl) ?_
            refine lv_aload_n hx hb dX0_addWrap_91 rfl (lv_at hl 2 rfl) ?_
            refine va_get (D := D) (ci := 0) (v := .ref (ad (68 + b))) (fs := (xfBook ad V18 b)) (C := RX0) (T := TX0) (N := 13) hx hb hg inX0 hown hK hP (38 + b) (xgBook hb2) rfl 9 (by decide) (hg _ w621) (fun _ h9 => h9) rfl dX0_addWrap_92 ?_
            refine lv_iload hx hb dX0_addWrap_95 (lv_at hl 0 rfl) ?_
            refine lv_iconst (v := 1) hx hb dX0_addWrap_97 (by decide) ?_
            refine lv_isub hx hb dX0_addWrap_98 ?_
            refine lv_topi (fun z55 ez55 => ?_)
            have hz55 : z55.toInt = y17.toInt - 1 := i_sub ez55 rfl (by decide) (by (first | exact om_d4dc5fc28acf klp19_0.2 f34 | omega))
            refine va_iald (D := D) (i := z55) hx hb hK hP (68 + b) (61 + b) (xgwrapOrder il36) (xtwrapOrder il36) (i_in (a := z55.toInt) rfl (by first | exact om_cb4190bf021a klp19_0.2 f34 hz55 | first | omega | ((try (have i_tw := Imp.go tw (by omega))); omega))) dX0_addWrap_99 ?_
            have kc56 := i_clamp (x := z55) rfl (by first | exact om_9271d0948665 f34 hz55 | first | omega | ((try (have i_tw := Imp.go tw (by omega))); omega))
            refine g_top (v := V18 47 (12 * b + (Int32.toNatClampNeg z55))) (if_pos (by first | omega | ((try (have i_tw := Imp.go tw (by omega))); omega))) ?_
            have r57 : 0 ≤ ((V18 47 (12 * b + (Int32.toNatClampNeg z55)))).toInt ∧ ((V18 47 (12 * b + (Int32.toNatClampNeg z55)))).toInt ≤ 11 := hMV18 47 (12 * b + (Int32.toNatClampNeg z55))
            have kz9 := i_clamp (x := z55) rfl (by (first | exact om_9271d0948665 f34 hz55 | omega))
            have k79 := i_clamp (x := y17) rfl (by (first | exact om_610a4af05d44 f34 | omega))
            have aw7 : (V18 47 (12 * b + (Int32.toNatClampNeg z55))).toInt < (V 41 b).toInt := xlp19_2 (Int32.toNatClampNeg z55) (by omega) (by omega)
            refine va_iast (D := D) (i := y17) (x := (V18 47 (12 * b + (Int32.toNatClampNeg z55)))) hx hb hK hP hD hS (68 + b) (61 + b) (xgwrapOrder il36) (xtwrapOrder il36) (i_in (a := y17.toInt) rfl (by first | exact om_e96f9555304e klp19_0.2 f34 | first | omega | ((try (have i_tw := Imp.go tw (by omega))); omega))) dX0_addWrap_100 (fun H locs hP hD hS => ?_)
            have kc58 := i_clamp (x := y17) rfl (by first | exact om_610a4af05d44 f34 | first | omega | ((try (have i_tw := Imp.go tw (by omega))); omega))
            have kl59 : (Int32.toNatClampNeg y17) < 12 := by first | exact om_004b84c8d7e3 klp19_0.2 k79 | first | omega | ((try (have i_tw := Imp.go tw (by omega))); omega)
            obtain ⟨V60, hV60⟩ : ∃ z, z = up2 V18 47 (12 * b + (Int32.toNatClampNeg y17)) (V18 47 (12 * b + (Int32.toNatClampNeg z55))) := ⟨_, rfl⟩
            have ew61 : (xw ad kk V18 L Z).set (68 + b) ((ad (68 + b)), .inl ((kk (68 + b)), 12, .inl (upd (fun q => if q < 12 then V18 47 (12 * b + q) else 0) (Int32.toNatClampNeg y17) (V18 47 (12 * b + (Int32.toNatClampNeg z55)))))) = xw ad kk V60 L Z := by rw [hV60]; exact xpwrapOrder il36 kl59
            have hP : va_P D vwCl (xw ad kk V60 L Z) H := by rw [← ew61]; exact hP
            have hD : va_D A (xw ad kk V60 L Z) := by rw [← ew61]; exact hD
            have hMV60 : rgd bX V60 := hMV18.put hV60 (show 0 ≤ ((V18 47 (12 * b + (Int32.toNatClampNeg z55)))).toInt ∧ ((V18 47 (12 * b + (Int32.toNatClampNeg z55)))).toInt ≤ 11 from by first | exact om_137426e8bfd2 f3 r57.1 aw7 | first | omega | ((try (have i_tw := Imp.go tw (by omega))); omega))
            have agV60 : agr [] [41, 47, 62, 63, 64, 65, 66] V V60 := agV18.up hV60 rfl
            have fwV60 : frX (xR b) V V60 := frX.up fwV18 hV60 (Or.inr ⟨(by show 12 * b ≤ (12 * b + (Int32.toNatClampNeg y17)); first | exact om_7de1662b5bb9 f34 k79 | first | omega | ((try (have i_tw := Imp.go tw (by omega))); omega)), (by show (12 * b + (Int32.toNatClampNeg y17)) < 12 * b + 12; first | exact om_a546892b8cbc kl59 | first | omega | ((try (have i_tw := Imp.go tw (by omega))); omega))⟩)
            obtain ⟨z62, ez62⟩ : ∃ y : Int32, y = y17 + (-1) := ⟨_, rfl⟩
            have hz62 : z62.toInt = y17.toInt + (-1) := i_add ez62 rfl (by decide) (by (first | exact om_2433073c4d98 f34 k79 kl59 | omega))
            refine lv_iinc (v := z62) (lv' := [(7, .int z62), (6, .ref (ad (312 + (12 * b + (Int32.toNatClampNeg (V 41 b)))))), (0, .ref (ad (38 + b))), (1, .int p0), (2, .int p1), (3, .int p2), (4, .int p3), (5, .int p4)]) hx hb dX0_addWrap_101 hl (k := 0) rfl (by rw [ez62]; rfl) (by decide) rfl (fun ls hl => ?_)
            refine lv_goto (tgt := 59) hx hb dX0_addWrap_104 (by decide) ?_
            exact ihlp19 z62 V60 H locs ls (by first | exact om_d03b8f4e00ac f34 k79 kl59 hz62 | first | omega | ((try (have i_tw := Imp.go tw (by omega))); omega)) (show z62.toInt ≤ (V 41 b).toInt from by first | exact om_e74f64d2f8f5 xlp19_0 hz62 | first | omega | ((try (have i_tw := Imp.go tw (by omega))); omega)) (show 0 ≤ z62.toInt from by first | exact om_8bedd7f35e90 f34 hz62 | first | omega | ((try (have i_tw := Imp.go tw (by omega))); omega)) (fun a h1 h2 => by rcases Decidable.em (12 * b + a = (12 * b + (Int32.toNatClampNeg y17))) with h9 | h9; (rw [h9, up2_s hV60]; exact aw7); (rw [up2_k hV60 h9]; exact xlp19_2 a h1 (by omega))) (by first | exact om_46f113951c8c hn hz62 | first | omega | ((try (have i_tw := Imp.go tw (by omega))); omega)) (agr.up (agr.tr agr.rf ajV18 (by decide) (by decide)) hV60 rfl) hMV60 fwV60 hP hD hS (lv_sub hl [0, 1, 2, 3, 4, 5, 6, 7] rfl)
    exact lp19 ((((V 41 b)).toInt + 1 : Int).toNat) (V 41 b) V15 H locs ls (by first | exact om_08e1aa59793b r1.1 f3 | first | omega | ((try (have i_tw := Imp.go tw (by omega))); omega)) (show ((V 41 b)).toInt ≤ (V 41 b).toInt from by first | exact om_5977f3d8a10f | first | omega | ((try (have i_tw := Imp.go tw (by omega))); omega)) (show 0 ≤ ((V 41 b)).toInt from by first | exact om_eafa9039069c r1.1 | first | omega | ((try (have i_tw := Imp.go tw (by omega))); omega)) (fun a h1 h2 => by rw [(show agr [] [62, 63, 64, 65, 66] V V15 from (agr.up (agr.up (agr.up (agr.up (agr.up agr.rf hV7 rfl) hV9 rfl) hV11 rfl) hV13 rfl) hV15 rfl)) 47 _ rfl]; exact tw a (by omega)) (by first | exact om_9011110baf36 | first | omega | ((try (have i_tw := Imp.go tw (by omega))); omega)) agr.rf hMV15 fwV15 hP hD hS (lv_sub hl [0, 1, 2, 3, 4, 5, 6, 7] rfl)
  · skip
    have f63 : 12 ≤ ((V 41 b)).toInt := b_nlt rfl (by decide) c2
    exact W.vret hx hb hr (fun t ht hW => ⟨⟨(V, L), rfl, ⟨hMV, agV, rfl, fwV, (Imp.mk (fun hp => have hp : (V 41 b).toInt < 12 := hp; (show (V 41 b).toInt = (V 41 b).toInt + 1 from by first | omega | ((try (have i_tw := Imp.go tw (by omega))); omega)))), (Imp.mk (fun hp => by exfalso; omega)), (Imp.mk (fun hp => by exfalso; omega)), (Imp.mk (fun hp => by exfalso; omega))⟩, by rw [ht]; exact hP, va_K.moved hW.alike hK, hD⟩, hS.F ht⟩) hS.2.2 dX0_addWrap_9
end
