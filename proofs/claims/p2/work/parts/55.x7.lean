/-! a jump's number is set -/
def ptX (V W : Vf) (b : Nat) (z x : Int32) : Prop := (z.toInt < 0 ∨ 8200 ≤ z.toInt) ∧ W = V ∨ (0 ≤ z.toInt ∧ z.toInt < 8200 ∧ W = up2 V 48 (8200 * b + Int32.toNatClampNeg z) x)
theorem ptX.cd {V W : Vf} {b a : Nat} {z x : Int32} (t : ptX V W b z x) (cd : CD V b) (j : jp V b a) (hz : z.toInt = (a : Int) + 1) (hx : x.toInt = (V 42 b).toInt) (h0 : 0 ≤ (V 42 b).toInt ∧ (V 42 b).toInt ≤ 8200) : CD W b := by
  rcases t with t | t
  · rw [t.2]
    exact cd
  · have k : Int32.toNatClampNeg z = a + 1 := by have := i_clamp (x := z) rfl t.1; omega
    have e := t.2.2
    rw [k] at e
    have jj := j (by omega)
    exact ⟨CB.pt cd.1 e jj.2.1 jj.2.2 hx h0.1 h0.2, CO.pt cd.2 e jj.2.1⟩
theorem ptX.px {V U W : Vf} {b : Nat} {z x : Int32} (t : ptX U W b z x) (p : p0x V U b) (hz : (V 42 b).toInt ≤ z.toInt) : p0x V W b := by
  rcases t with t | t
  · rw [t.2]
    exact p
  · exact p.pt t.2.2 (by have := i_clamp (x := z) rfl t.1; omega)
theorem ptX.jp {V W : Vf} {b a a2 : Nat} {z x : Int32} (t : ptX V W b z x) (j : jp V b a) (j2 : jp V b a2) (hz : z.toInt = (a : Int) + 1) (h12 : a ≤ a2) (hgt : a + 1 < 8200 → a < a2) : jp W b a2 := by
  rcases t with t | t
  · rw [t.2]
    exact j2
  · have k : Int32.toNatClampNeg z = a + 1 := by have := i_clamp (x := z) rfl t.1; omega
    have e := t.2.2
    rw [k] at e
    have jj := j (by omega)
    intro hp
    have q := j2 hp
    have hne : a < a2 := hgt (by omega)
    have e42 : W 42 b = V 42 b := up2_o e (by decide)
    have hn : ¬ a2 = a + 1 := by
      intro hq
      have hb : (bdp V b a2).1 = true := by
        have q2 := q.2.1
        rw [bdp_s] at q2
        cases hz2 : (bdp V b a2).1 with
        | false => rw [hz2] at q2; cases q2
        | true => rfl
      have := bd_ex V b a2 hb
      rw [hq, jj.2.1] at this
      cases this
    rw [e42, bd_pt e jj.2.1, up2_k e (by omega)]
    exact q

theorem w958 : Cond.code yX1_readSum cX1_readSum 4 (some .boolean) ∈ GW := gw_mem 958 (by decide +kernel) rfl
theorem w955 : Cond.methodLink RX1 210 yX1_readSum ∈ GW := gw_mem 955 (by decide +kernel) rfl
theorem w957 : Cond.instanceMethod yX1_readSum ∈ GW := gw_mem 957 (by decide +kernel) rfl
theorem w22 : Cond.selects RX1 yX1_readSum yX1_readSum ∈ GW := gw_mem 22 (by decide +kernel) rfl
theorem hdV_yX1_readSum : yX1_readSum.cls = RX1 ∧ yX1_readSum.cls ≠ "java/lang/invoke/MethodHandle" ∧ yX1_readSum.cls ≠ "java/lang/invoke/VarHandle" ∧ (parseMethodDescriptor yX1_readSum.desc).map (fun d => d.parameters.length) = some 1 := by decide +kernel
theorem w962 : Cond.code yX1_readProduct cX1_readProduct 3 (some .boolean) ∈ GW := gw_mem 962 (by decide +kernel) rfl
theorem w959 : Cond.methodLink RX1 213 yX1_readProduct ∈ GW := gw_mem 959 (by decide +kernel) rfl
theorem w961 : Cond.instanceMethod yX1_readProduct ∈ GW := gw_mem 961 (by decide +kernel) rfl
theorem w23 : Cond.selects RX1 yX1_readProduct yX1_readProduct ∈ GW := gw_mem 23 (by decide +kernel) rfl
theorem hdV_yX1_readProduct : yX1_readProduct.cls = RX1 ∧ yX1_readProduct.cls ≠ "java/lang/invoke/MethodHandle" ∧ yX1_readProduct.cls ≠ "java/lang/invoke/VarHandle" ∧ (parseMethodDescriptor yX1_readProduct.desc).map (fun d => d.parameters.length) = some 1 := by decide +kernel
theorem w966 : Cond.code yX1_readPart cX1_readPart 5 (some .boolean) ∈ GW := gw_mem 966 (by decide +kernel) rfl
theorem w963 : Cond.methodLink RX1 216 yX1_readPart ∈ GW := gw_mem 963 (by decide +kernel) rfl
theorem w965 : Cond.instanceMethod yX1_readPart ∈ GW := gw_mem 965 (by decide +kernel) rfl
theorem w24 : Cond.selects RX1 yX1_readPart yX1_readPart ∈ GW := gw_mem 24 (by decide +kernel) rfl
theorem hdV_yX1_readPart : yX1_readPart.cls = RX1 ∧ yX1_readPart.cls ≠ "java/lang/invoke/MethodHandle" ∧ yX1_readPart.cls ≠ "java/lang/invoke/VarHandle" ∧ (parseMethodDescriptor yX1_readPart.desc).map (fun d => d.parameters.length) = some 1 := by decide +kernel
theorem w896 : Cond.code yX1_take cX1_take 2 (some .boolean) ∈ GW := gw_mem 896 (by decide +kernel) rfl
theorem w893 : Cond.methodLink RX1 88 yX1_take ∈ GW := gw_mem 893 (by decide +kernel) rfl
theorem w895 : Cond.instanceMethod yX1_take ∈ GW := gw_mem 895 (by decide +kernel) rfl
theorem w10 : Cond.selects RX1 yX1_take yX1_take ∈ GW := gw_mem 10 (by decide +kernel) rfl
theorem hdV_yX1_take : yX1_take.cls = RX1 ∧ yX1_take.cls ≠ "java/lang/invoke/MethodHandle" ∧ yX1_take.cls ≠ "java/lang/invoke/VarHandle" ∧ (parseMethodDescriptor yX1_take.desc).map (fun d => d.parameters.length) = some 1 := by decide +kernel
theorem w954 : Cond.code yX1_readExpression cX1_readExpression 3 (some .boolean) ∈ GW := gw_mem 954 (by decide +kernel) rfl
theorem w951 : Cond.methodLink RX1 203 yX1_readExpression ∈ GW := gw_mem 951 (by decide +kernel) rfl
theorem w953 : Cond.instanceMethod yX1_readExpression ∈ GW := gw_mem 953 (by decide +kernel) rfl
theorem w21 : Cond.selects RX1 yX1_readExpression yX1_readExpression ∈ GW := gw_mem 21 (by decide +kernel) rfl
theorem hdV_yX1_readExpression : yX1_readExpression.cls = RX1 ∧ yX1_readExpression.cls ≠ "java/lang/invoke/MethodHandle" ∧ yX1_readExpression.cls ≠ "java/lang/invoke/VarHandle" ∧ (parseMethodDescriptor yX1_readExpression.desc).map (fun d => d.parameters.length) = some 1 := by decide +kernel
theorem w970 : Cond.code yX1_beginsPart cX1_beginsPart 1 (some .boolean) ∈ GW := gw_mem 970 (by decide +kernel) rfl
theorem w967 : Cond.methodLink RX1 219 yX1_beginsPart ∈ GW := gw_mem 967 (by decide +kernel) rfl
theorem w969 : Cond.instanceMethod yX1_beginsPart ∈ GW := gw_mem 969 (by decide +kernel) rfl
theorem w25 : Cond.selects RX1 yX1_beginsPart yX1_beginsPart ∈ GW := gw_mem 25 (by decide +kernel) rfl
theorem hdV_yX1_beginsPart : yX1_beginsPart.cls = RX1 ∧ yX1_beginsPart.cls ≠ "java/lang/invoke/MethodHandle" ∧ yX1_beginsPart.cls ≠ "java/lang/invoke/VarHandle" ∧ (parseMethodDescriptor yX1_beginsPart.desc).map (fun d => d.parameters.length) = some 0 := by decide +kernel
theorem w978 : Cond.code yX1_put cX1_put 3 (some .boolean) ∈ GW := gw_mem 978 (by decide +kernel) rfl
theorem w975 : Cond.methodLink RX1 225 yX1_put ∈ GW := gw_mem 975 (by decide +kernel) rfl
theorem w977 : Cond.instanceMethod yX1_put ∈ GW := gw_mem 977 (by decide +kernel) rfl
theorem w26 : Cond.selects RX1 yX1_put yX1_put ∈ GW := gw_mem 26 (by decide +kernel) rfl
theorem hdV_yX1_put : yX1_put.cls = RX1 ∧ yX1_put.cls ≠ "java/lang/invoke/MethodHandle" ∧ yX1_put.cls ≠ "java/lang/invoke/VarHandle" ∧ (parseMethodDescriptor yX1_put.desc).map (fun d => d.parameters.length) = some 2 := by decide +kernel
theorem w982 : Cond.code yX1_putAlone cX1_putAlone 2 (some .boolean) ∈ GW := gw_mem 982 (by decide +kernel) rfl
theorem w979 : Cond.methodLink RX1 228 yX1_putAlone ∈ GW := gw_mem 979 (by decide +kernel) rfl
theorem w981 : Cond.instanceMethod yX1_putAlone ∈ GW := gw_mem 981 (by decide +kernel) rfl
theorem w27 : Cond.selects RX1 yX1_putAlone yX1_putAlone ∈ GW := gw_mem 27 (by decide +kernel) rfl
theorem hdV_yX1_putAlone : yX1_putAlone.cls = RX1 ∧ yX1_putAlone.cls ≠ "java/lang/invoke/MethodHandle" ∧ yX1_putAlone.cls ≠ "java/lang/invoke/VarHandle" ∧ (parseMethodDescriptor yX1_putAlone.desc).map (fun d => d.parameters.length) = some 1 := by decide +kernel
theorem w934 : Cond.code yX1_takeSetting cX1_takeSetting 1 (some .boolean) ∈ GW := gw_mem 934 (by decide +kernel) rfl
theorem w931 : Cond.methodLink RX1 146 yX1_takeSetting ∈ GW := gw_mem 931 (by decide +kernel) rfl
theorem w933 : Cond.instanceMethod yX1_takeSetting ∈ GW := gw_mem 933 (by decide +kernel) rfl
theorem w17 : Cond.selects RX1 yX1_takeSetting yX1_takeSetting ∈ GW := gw_mem 17 (by decide +kernel) rfl
theorem hdV_yX1_takeSetting : yX1_takeSetting.cls = RX1 ∧ yX1_takeSetting.cls ≠ "java/lang/invoke/MethodHandle" ∧ yX1_takeSetting.cls ≠ "java/lang/invoke/VarHandle" ∧ (parseMethodDescriptor yX1_takeSetting.desc).map (fun d => d.parameters.length) = some 0 := by decide +kernel
theorem w909 : Cond.code yX1_takeNumber cX1_takeNumber 3 (some .boolean) ∈ GW := gw_mem 909 (by decide +kernel) rfl
theorem w906 : Cond.methodLink RX1 103 yX1_takeNumber ∈ GW := gw_mem 906 (by decide +kernel) rfl
theorem w908 : Cond.instanceMethod yX1_takeNumber ∈ GW := gw_mem 908 (by decide +kernel) rfl
theorem w12 : Cond.selects RX1 yX1_takeNumber yX1_takeNumber ∈ GW := gw_mem 12 (by decide +kernel) rfl
theorem hdV_yX1_takeNumber : yX1_takeNumber.cls = RX1 ∧ yX1_takeNumber.cls ≠ "java/lang/invoke/MethodHandle" ∧ yX1_takeNumber.cls ≠ "java/lang/invoke/VarHandle" ∧ (parseMethodDescriptor yX1_takeNumber.desc).map (fun d => d.parameters.length) = some 2 := by decide +kernel
theorem w986 : Cond.code yX1_readPick cX1_readPick 4 (some .boolean) ∈ GW := gw_mem 986 (by decide +kernel) rfl
theorem w983 : Cond.methodLink RX1 231 yX1_readPick ∈ GW := gw_mem 983 (by decide +kernel) rfl
theorem w985 : Cond.instanceMethod yX1_readPick ∈ GW := gw_mem 985 (by decide +kernel) rfl
theorem w28 : Cond.selects RX1 yX1_readPick yX1_readPick ∈ GW := gw_mem 28 (by decide +kernel) rfl
theorem hdV_yX1_readPick : yX1_readPick.cls = RX1 ∧ yX1_readPick.cls ≠ "java/lang/invoke/MethodHandle" ∧ yX1_readPick.cls ≠ "java/lang/invoke/VarHandle" ∧ (parseMethodDescriptor yX1_readPick.desc).map (fun d => d.parameters.length) = some 1 := by decide +kernel
theorem w994 : Cond.code yX1_readOf cX1_readOf 4 (some .boolean) ∈ GW := gw_mem 994 (by decide +kernel) rfl
theorem w991 : Cond.methodLink RX1 234 yX1_readOf ∈ GW := gw_mem 991 (by decide +kernel) rfl
theorem w993 : Cond.instanceMethod yX1_readOf ∈ GW := gw_mem 993 (by decide +kernel) rfl
theorem w29 : Cond.selects RX1 yX1_readOf yX1_readOf ∈ GW := gw_mem 29 (by decide +kernel) rfl
theorem hdV_yX1_readOf : yX1_readOf.cls = RX1 ∧ yX1_readOf.cls ≠ "java/lang/invoke/MethodHandle" ∧ yX1_readOf.cls ≠ "java/lang/invoke/VarHandle" ∧ (parseMethodDescriptor yX1_readOf.desc).map (fun d => d.parameters.length) = some 1 := by decide +kernel
theorem w998 : Cond.code yX1_readWithin cX1_readWithin 2 (some .boolean) ∈ GW := gw_mem 998 (by decide +kernel) rfl
theorem w995 : Cond.methodLink RX1 237 yX1_readWithin ∈ GW := gw_mem 995 (by decide +kernel) rfl
theorem w997 : Cond.instanceMethod yX1_readWithin ∈ GW := gw_mem 997 (by decide +kernel) rfl
theorem w30 : Cond.selects RX1 yX1_readWithin yX1_readWithin ∈ GW := gw_mem 30 (by decide +kernel) rfl
theorem hdV_yX1_readWithin : yX1_readWithin.cls = RX1 ∧ yX1_readWithin.cls ≠ "java/lang/invoke/MethodHandle" ∧ yX1_readWithin.cls ≠ "java/lang/invoke/VarHandle" ∧ (parseMethodDescriptor yX1_readWithin.desc).map (fun d => d.parameters.length) = some 1 := by decide +kernel
theorem w306 : Cond.fieldLink RX1 24 "WiringHouse$BookReader" "owner" "LWiringHouse$Component;" ∈ GW := gw_mem 306 (by decide +kernel) rfl
theorem n513 : lw_tbl[513]? = some (Cond.fieldLinkNest RX1 190 "WiringHouse$Component" "needs" "I" "WiringHouse") := by decide +kernel
theorem w942 : Cond.code yX1_takeMethod cX1_takeMethod 3 (some .boolean) ∈ GW := gw_mem 942 (by decide +kernel) rfl
theorem w939 : Cond.methodLink RX1 161 yX1_takeMethod ∈ GW := gw_mem 939 (by decide +kernel) rfl
theorem w941 : Cond.instanceMethod yX1_takeMethod ∈ GW := gw_mem 941 (by decide +kernel) rfl
theorem w19 : Cond.selects RX1 yX1_takeMethod yX1_takeMethod ∈ GW := gw_mem 19 (by decide +kernel) rfl
theorem hdV_yX1_takeMethod : yX1_takeMethod.cls = RX1 ∧ yX1_takeMethod.cls ≠ "java/lang/invoke/MethodHandle" ∧ yX1_takeMethod.cls ≠ "java/lang/invoke/VarHandle" ∧ (parseMethodDescriptor yX1_takeMethod.desc).map (fun d => d.parameters.length) = some 1 := by decide +kernel
theorem n630 : lw_tbl[630]? = some (Cond.fieldLinkNest RX1 168 "WiringHouse$Book" "codeLength" "I" "WiringHouse") := by decide +kernel
theorem w990 : Cond.code yX0_patch cX0_patch 3 none ∈ GW := gw_mem 990 (by decide +kernel) rfl
theorem w987 : Cond.methodLink RX1 240 yX0_patch ∈ GW := gw_mem 987 (by decide +kernel) rfl
theorem w988 : Cond.instanceMethod yX0_patch ∈ GW := gw_mem 988 (by decide +kernel) rfl
theorem w989 : Cond.selects RX0 yX0_patch yX0_patch ∈ GW := gw_mem 989 (by decide +kernel) rfl
theorem hdV_yX0_patch : yX0_patch.cls = RX0 ∧ yX0_patch.cls ≠ "java/lang/invoke/MethodHandle" ∧ yX0_patch.cls ≠ "java/lang/invoke/VarHandle" ∧ (parseMethodDescriptor yX0_patch.desc).map (fun d => d.parameters.length) = some 2 := by decide +kernel
theorem dX1_readExpression_0 : decode cX1_readExpression 0 = .ok (.aload_n 0, 1) := by decide +kernel
theorem dX1_readExpression_1 : decode cX1_readExpression 1 = .ok (.iload_n 1, 1) := by decide +kernel
theorem dX1_readExpression_2 : decode cX1_readExpression 2 = .ok (.invokevirtual 210, 3) := by decide +kernel
theorem dX1_readExpression_5 : decode cX1_readExpression 5 = .ok (.ifCond .ne 5, 3) := by decide +kernel
theorem dX1_readExpression_10 : decode cX1_readExpression 10 = .ok (.aload_n 0, 1) := by decide +kernel
theorem dX1_readExpression_11 : decode cX1_readExpression 11 = .ok (.getfield 9, 3) := by decide +kernel
theorem dX1_readExpression_14 : decode cX1_readExpression 14 = .ok (.getfield 37, 3) := by decide +kernel
theorem dX1_readExpression_17 : decode cX1_readExpression 17 = .ok (.istore_n 2, 1) := by decide +kernel
theorem dX1_readExpression_18 : decode cX1_readExpression 18 = .ok (.iload_n 2, 1) := by decide +kernel
theorem dX1_readExpression_19 : decode cX1_readExpression 19 = .ok (.bipush 60, 2) := by decide +kernel
theorem dX1_readExpression_21 : decode cX1_readExpression 21 = .ok (.if_icmp .eq 11, 3) := by decide +kernel
theorem dX1_readExpression_32 : decode cX1_readExpression 32 = .ok (.aload_n 0, 1) := by decide +kernel
theorem dX1_readExpression_33 : decode cX1_readExpression 33 = .ok (.getfield 9, 3) := by decide +kernel
theorem dX1_readExpression_36 : decode cX1_readExpression 36 = .ok (.invokevirtual 72, 3) := by decide +kernel
theorem dX1_readExpression_39 : decode cX1_readExpression 39 = .ok (.aload_n 0, 1) := by decide +kernel
theorem dX1_readExpression_40 : decode cX1_readExpression 40 = .ok (.iload_n 1, 1) := by decide +kernel
theorem dX1_readExpression_41 : decode cX1_readExpression 41 = .ok (.invokevirtual 210, 3) := by decide +kernel
theorem dX1_readExpression_44 : decode cX1_readExpression 44 = .ok (.ifCond .ne 5, 3) := by decide +kernel
theorem dX1_readExpression_49 : decode cX1_readExpression 49 = .ok (.aload_n 0, 1) := by decide +kernel
theorem dX1_readExpression_50 : decode cX1_readExpression 50 = .ok (.getfield 15, 3) := by decide +kernel
theorem dX1_readExpression_53 : decode cX1_readExpression 53 = .ok (.iload_n 2, 1) := by decide +kernel
theorem dX1_readExpression_54 : decode cX1_readExpression 54 = .ok (.bipush 60, 2) := by decide +kernel
theorem dX1_readExpression_56 : decode cX1_readExpression 56 = .ok (.if_icmp .ne 8, 3) := by decide +kernel
theorem dX1_readExpression_59 : decode cX1_readExpression 59 = .ok (.bipush 8, 2) := by decide +kernel
theorem dX1_readExpression_61 : decode cX1_readExpression 61 = .ok (.goto 5, 3) := by decide +kernel
theorem dX1_readExpression_66 : decode cX1_readExpression 66 = .ok (.invokevirtual 206, 3) := by decide +kernel
theorem dX1_readExpression_69 : decode cX1_readExpression 69 = .ok (.iconst 1, 1) := by decide +kernel
theorem dX1_readExpression_70 : decode cX1_readExpression 70 = .ok (.ireturn, 1) := by decide +kernel
theorem dX1_readExpression_47 : decode cX1_readExpression 47 = .ok (.iconst 0, 1) := by decide +kernel
theorem dX1_readExpression_48 : decode cX1_readExpression 48 = .ok (.ireturn, 1) := by decide +kernel
theorem dX1_readExpression_24 : decode cX1_readExpression 24 = .ok (.iload_n 2, 1) := by decide +kernel
theorem dX1_readExpression_25 : decode cX1_readExpression 25 = .ok (.bipush 61, 2) := by decide +kernel
theorem dX1_readExpression_27 : decode cX1_readExpression 27 = .ok (.if_icmp .eq 5, 3) := by decide +kernel
theorem dX1_readExpression_64 : decode cX1_readExpression 64 = .ok (.bipush 9, 2) := by decide +kernel
theorem dX1_readExpression_30 : decode cX1_readExpression 30 = .ok (.iconst 1, 1) := by decide +kernel
theorem dX1_readExpression_31 : decode cX1_readExpression 31 = .ok (.ireturn, 1) := by decide +kernel
theorem dX1_readExpression_8 : decode cX1_readExpression 8 = .ok (.iconst 0, 1) := by decide +kernel
theorem dX1_readExpression_9 : decode cX1_readExpression 9 = .ok (.ireturn, 1) := by decide +kernel
theorem dX1_readSum_0 : decode cX1_readSum 0 = .ok (.aload_n 0, 1) := by decide +kernel
theorem dX1_readSum_1 : decode cX1_readSum 1 = .ok (.iload_n 1, 1) := by decide +kernel
theorem dX1_readSum_2 : decode cX1_readSum 2 = .ok (.invokevirtual 213, 3) := by decide +kernel
theorem dX1_readSum_5 : decode cX1_readSum 5 = .ok (.ifCond .ne 5, 3) := by decide +kernel
theorem dX1_readSum_10 : decode cX1_readSum 10 = .ok (.iconst 0, 1) := by decide +kernel
theorem dX1_readSum_11 : decode cX1_readSum 11 = .ok (.istore_n 2, 1) := by decide +kernel
theorem dX1_readSum_12 : decode cX1_readSum 12 = .ok (.iload_n 2, 1) := by decide +kernel
theorem dX1_readSum_13 : decode cX1_readSum 13 = .ok (.sipush 4000, 3) := by decide +kernel
theorem dX1_readSum_16 : decode cX1_readSum 16 = .ok (.if_icmp .ge 77, 3) := by decide +kernel
theorem dX1_readSum_93 : decode cX1_readSum 93 = .ok (.iconst 1, 1) := by decide +kernel
theorem dX1_readSum_94 : decode cX1_readSum 94 = .ok (.ireturn, 1) := by decide +kernel
theorem dX1_readSum_19 : decode cX1_readSum 19 = .ok (.aload_n 0, 1) := by decide +kernel
theorem dX1_readSum_20 : decode cX1_readSum 20 = .ok (.getfield 9, 3) := by decide +kernel
theorem dX1_readSum_23 : decode cX1_readSum 23 = .ok (.getfield 37, 3) := by decide +kernel
theorem dX1_readSum_26 : decode cX1_readSum 26 = .ok (.bipush 43, 2) := by decide +kernel
theorem dX1_readSum_28 : decode cX1_readSum 28 = .ok (.if_icmp .eq 15, 3) := by decide +kernel
theorem dX1_readSum_43 : decode cX1_readSum 43 = .ok (.aload_n 0, 1) := by decide +kernel
theorem dX1_readSum_44 : decode cX1_readSum 44 = .ok (.getfield 9, 3) := by decide +kernel
theorem dX1_readSum_47 : decode cX1_readSum 47 = .ok (.getfield 37, 3) := by decide +kernel
theorem dX1_readSum_50 : decode cX1_readSum 50 = .ok (.bipush 43, 2) := by decide +kernel
theorem dX1_readSum_52 : decode cX1_readSum 52 = .ok (.if_icmp .ne 7, 3) := by decide +kernel
theorem dX1_readSum_55 : decode cX1_readSum 55 = .ok (.iconst 5, 1) := by decide +kernel
theorem dX1_readSum_56 : decode cX1_readSum 56 = .ok (.goto 5, 3) := by decide +kernel
theorem dX1_readSum_61 : decode cX1_readSum 61 = .ok (.istore_n 3, 1) := by decide +kernel
theorem dX1_readSum_62 : decode cX1_readSum 62 = .ok (.aload_n 0, 1) := by decide +kernel
theorem dX1_readSum_63 : decode cX1_readSum 63 = .ok (.getfield 9, 3) := by decide +kernel
theorem dX1_readSum_66 : decode cX1_readSum 66 = .ok (.invokevirtual 72, 3) := by decide +kernel
theorem dX1_readSum_69 : decode cX1_readSum 69 = .ok (.aload_n 0, 1) := by decide +kernel
theorem dX1_readSum_70 : decode cX1_readSum 70 = .ok (.iload_n 1, 1) := by decide +kernel
theorem dX1_readSum_71 : decode cX1_readSum 71 = .ok (.invokevirtual 213, 3) := by decide +kernel
theorem dX1_readSum_74 : decode cX1_readSum 74 = .ok (.ifCond .ne 5, 3) := by decide +kernel
theorem dX1_readSum_79 : decode cX1_readSum 79 = .ok (.aload_n 0, 1) := by decide +kernel
theorem dX1_readSum_80 : decode cX1_readSum 80 = .ok (.getfield 15, 3) := by decide +kernel
theorem dX1_readSum_83 : decode cX1_readSum 83 = .ok (.iload_n 3, 1) := by decide +kernel
theorem dX1_readSum_84 : decode cX1_readSum 84 = .ok (.invokevirtual 206, 3) := by decide +kernel
theorem dX1_readSum_87 : decode cX1_readSum 87 = .ok (.iinc 2 1, 3) := by decide +kernel
theorem dX1_readSum_90 : decode cX1_readSum 90 = .ok (.goto (-78), 3) := by decide +kernel
theorem dX1_readSum_77 : decode cX1_readSum 77 = .ok (.iconst 0, 1) := by decide +kernel
theorem dX1_readSum_78 : decode cX1_readSum 78 = .ok (.ireturn, 1) := by decide +kernel
theorem dX1_readSum_31 : decode cX1_readSum 31 = .ok (.aload_n 0, 1) := by decide +kernel
theorem dX1_readSum_32 : decode cX1_readSum 32 = .ok (.getfield 9, 3) := by decide +kernel
theorem dX1_readSum_35 : decode cX1_readSum 35 = .ok (.getfield 37, 3) := by decide +kernel
theorem dX1_readSum_38 : decode cX1_readSum 38 = .ok (.bipush 45, 2) := by decide +kernel
theorem dX1_readSum_40 : decode cX1_readSum 40 = .ok (.if_icmp .ne 53, 3) := by decide +kernel
theorem dX1_readSum_59 : decode cX1_readSum 59 = .ok (.bipush 6, 2) := by decide +kernel
theorem dX1_readSum_8 : decode cX1_readSum 8 = .ok (.iconst 0, 1) := by decide +kernel
theorem dX1_readSum_9 : decode cX1_readSum 9 = .ok (.ireturn, 1) := by decide +kernel
theorem dX1_readProduct_0 : decode cX1_readProduct 0 = .ok (.aload_n 0, 1) := by decide +kernel
theorem dX1_readProduct_1 : decode cX1_readProduct 1 = .ok (.iload_n 1, 1) := by decide +kernel
theorem dX1_readProduct_2 : decode cX1_readProduct 2 = .ok (.invokevirtual 216, 3) := by decide +kernel
theorem dX1_readProduct_5 : decode cX1_readProduct 5 = .ok (.ifCond .ne 5, 3) := by decide +kernel
theorem dX1_readProduct_10 : decode cX1_readProduct 10 = .ok (.iconst 0, 1) := by decide +kernel
theorem dX1_readProduct_11 : decode cX1_readProduct 11 = .ok (.istore_n 2, 1) := by decide +kernel
theorem dX1_readProduct_12 : decode cX1_readProduct 12 = .ok (.iload_n 2, 1) := by decide +kernel
theorem dX1_readProduct_13 : decode cX1_readProduct 13 = .ok (.sipush 4000, 3) := by decide +kernel
theorem dX1_readProduct_16 : decode cX1_readProduct 16 = .ok (.if_icmp .ge 47, 3) := by decide +kernel
theorem dX1_readProduct_63 : decode cX1_readProduct 63 = .ok (.iconst 1, 1) := by decide +kernel
theorem dX1_readProduct_64 : decode cX1_readProduct 64 = .ok (.ireturn, 1) := by decide +kernel
theorem dX1_readProduct_19 : decode cX1_readProduct 19 = .ok (.aload_n 0, 1) := by decide +kernel
theorem dX1_readProduct_20 : decode cX1_readProduct 20 = .ok (.getfield 9, 3) := by decide +kernel
theorem dX1_readProduct_23 : decode cX1_readProduct 23 = .ok (.getfield 37, 3) := by decide +kernel
theorem dX1_readProduct_26 : decode cX1_readProduct 26 = .ok (.bipush 42, 2) := by decide +kernel
theorem dX1_readProduct_28 : decode cX1_readProduct 28 = .ok (.if_icmp .ne 35, 3) := by decide +kernel
theorem dX1_readProduct_31 : decode cX1_readProduct 31 = .ok (.aload_n 0, 1) := by decide +kernel
theorem dX1_readProduct_32 : decode cX1_readProduct 32 = .ok (.getfield 9, 3) := by decide +kernel
theorem dX1_readProduct_35 : decode cX1_readProduct 35 = .ok (.invokevirtual 72, 3) := by decide +kernel
theorem dX1_readProduct_38 : decode cX1_readProduct 38 = .ok (.aload_n 0, 1) := by decide +kernel
theorem dX1_readProduct_39 : decode cX1_readProduct 39 = .ok (.iload_n 1, 1) := by decide +kernel
theorem dX1_readProduct_40 : decode cX1_readProduct 40 = .ok (.invokevirtual 216, 3) := by decide +kernel
theorem dX1_readProduct_43 : decode cX1_readProduct 43 = .ok (.ifCond .ne 5, 3) := by decide +kernel
theorem dX1_readProduct_48 : decode cX1_readProduct 48 = .ok (.aload_n 0, 1) := by decide +kernel
theorem dX1_readProduct_49 : decode cX1_readProduct 49 = .ok (.getfield 15, 3) := by decide +kernel
theorem dX1_readProduct_52 : decode cX1_readProduct 52 = .ok (.bipush 7, 2) := by decide +kernel
theorem dX1_readProduct_54 : decode cX1_readProduct 54 = .ok (.invokevirtual 206, 3) := by decide +kernel
theorem dX1_readProduct_57 : decode cX1_readProduct 57 = .ok (.iinc 2 1, 3) := by decide +kernel
theorem dX1_readProduct_60 : decode cX1_readProduct 60 = .ok (.goto (-48), 3) := by decide +kernel
theorem dX1_readProduct_46 : decode cX1_readProduct 46 = .ok (.iconst 0, 1) := by decide +kernel
theorem dX1_readProduct_47 : decode cX1_readProduct 47 = .ok (.ireturn, 1) := by decide +kernel
theorem dX1_readProduct_8 : decode cX1_readProduct 8 = .ok (.iconst 0, 1) := by decide +kernel
theorem dX1_readProduct_9 : decode cX1_readProduct 9 = .ok (.ireturn, 1) := by decide +kernel
theorem dX1_readWithin_0 : decode cX1_readWithin 0 = .ok (.aload_n 0, 1) := by decide +kernel
theorem dX1_readWithin_1 : decode cX1_readWithin 1 = .ok (.bipush 40, 2) := by decide +kernel
theorem dX1_readWithin_3 : decode cX1_readWithin 3 = .ok (.invokevirtual 88, 3) := by decide +kernel
theorem dX1_readWithin_6 : decode cX1_readWithin 6 = .ok (.ifCond .eq 26, 3) := by decide +kernel
theorem dX1_readWithin_32 : decode cX1_readWithin 32 = .ok (.iconst 0, 1) := by decide +kernel
theorem dX1_readWithin_33 : decode cX1_readWithin 33 = .ok (.ireturn, 1) := by decide +kernel
theorem dX1_readWithin_9 : decode cX1_readWithin 9 = .ok (.aload_n 0, 1) := by decide +kernel
theorem dX1_readWithin_10 : decode cX1_readWithin 10 = .ok (.iload_n 1, 1) := by decide +kernel
theorem dX1_readWithin_11 : decode cX1_readWithin 11 = .ok (.iconst 1, 1) := by decide +kernel
theorem dX1_readWithin_12 : decode cX1_readWithin 12 = .ok (.iadd, 1) := by decide +kernel
theorem dX1_readWithin_13 : decode cX1_readWithin 13 = .ok (.invokevirtual 203, 3) := by decide +kernel
theorem dX1_readWithin_16 : decode cX1_readWithin 16 = .ok (.ifCond .eq 16, 3) := by decide +kernel
theorem dX1_readWithin_19 : decode cX1_readWithin 19 = .ok (.aload_n 0, 1) := by decide +kernel
theorem dX1_readWithin_20 : decode cX1_readWithin 20 = .ok (.bipush 41, 2) := by decide +kernel
theorem dX1_readWithin_22 : decode cX1_readWithin 22 = .ok (.invokevirtual 88, 3) := by decide +kernel
theorem dX1_readWithin_25 : decode cX1_readWithin 25 = .ok (.ifCond .eq 7, 3) := by decide +kernel
theorem dX1_readWithin_28 : decode cX1_readWithin 28 = .ok (.iconst 1, 1) := by decide +kernel
theorem dX1_readWithin_29 : decode cX1_readWithin 29 = .ok (.goto 4, 3) := by decide +kernel
theorem dX1_readPart_0 : decode cX1_readPart 0 = .ok (.aload_n 0, 1) := by decide +kernel
theorem dX1_readPart_1 : decode cX1_readPart 1 = .ok (.invokevirtual 219, 3) := by decide +kernel
theorem dX1_readPart_4 : decode cX1_readPart 4 = .ok (.ifCond .ne 9, 3) := by decide +kernel
theorem dX1_readPart_13 : decode cX1_readPart 13 = .ok (.iload_n 1, 1) := by decide +kernel
theorem dX1_readPart_14 : decode cX1_readPart 14 = .ok (.bipush 8, 2) := by decide +kernel
theorem dX1_readPart_16 : decode cX1_readPart 16 = .ok (.if_icmp .lt 9, 3) := by decide +kernel
theorem dX1_readPart_25 : decode cX1_readPart 25 = .ok (.aload_n 0, 1) := by decide +kernel
theorem dX1_readPart_26 : decode cX1_readPart 26 = .ok (.getfield 9, 3) := by decide +kernel
theorem dX1_readPart_29 : decode cX1_readPart 29 = .ok (.getfield 37, 3) := by decide +kernel
theorem dX1_readPart_32 : decode cX1_readPart 32 = .ok (.istore_n 2, 1) := by decide +kernel
theorem dX1_readPart_33 : decode cX1_readPart 33 = .ok (.aload_n 0, 1) := by decide +kernel
theorem dX1_readPart_34 : decode cX1_readPart 34 = .ok (.getfield 9, 3) := by decide +kernel
theorem dX1_readPart_37 : decode cX1_readPart 37 = .ok (.getfield 222, 3) := by decide +kernel
theorem dX1_readPart_40 : decode cX1_readPart 40 = .ok (.lstore_n 3, 1) := by decide +kernel
theorem dX1_readPart_41 : decode cX1_readPart 41 = .ok (.aload_n 0, 1) := by decide +kernel
theorem dX1_readPart_42 : decode cX1_readPart 42 = .ok (.getfield 15, 3) := by decide +kernel
theorem dX1_readPart_45 : decode cX1_readPart 45 = .ok (.iconst 1, 1) := by decide +kernel
theorem dX1_readPart_46 : decode cX1_readPart 46 = .ok (.invokevirtual 206, 3) := by decide +kernel
theorem dX1_readPart_49 : decode cX1_readPart 49 = .ok (.aload_n 0, 1) := by decide +kernel
theorem dX1_readPart_50 : decode cX1_readPart 50 = .ok (.getfield 9, 3) := by decide +kernel
theorem dX1_readPart_53 : decode cX1_readPart 53 = .ok (.invokevirtual 72, 3) := by decide +kernel
theorem dX1_readPart_56 : decode cX1_readPart 56 = .ok (.iload_n 2, 1) := by decide +kernel
theorem dX1_readPart_57 : decode cX1_readPart 57 = .ok (.lookupswitch 206 #[(2, 75), (40, 90), (45, 115), (130, 168), (143, 84), (144, 139), (145, 194), (146, 200)], 75) := by decide +kernel
theorem dX1_readPart_132 : decode cX1_readPart 132 = .ok (.aload_n 0, 1) := by decide +kernel
theorem dX1_readPart_133 : decode cX1_readPart 133 = .ok (.bipush 10, 2) := by decide +kernel
theorem dX1_readPart_135 : decode cX1_readPart 135 = .ok (.lload_n 3, 1) := by decide +kernel
theorem dX1_readPart_136 : decode cX1_readPart 136 = .ok (.l2i, 1) := by decide +kernel
theorem dX1_readPart_137 : decode cX1_readPart 137 = .ok (.invokevirtual 225, 3) := by decide +kernel
theorem dX1_readPart_140 : decode cX1_readPart 140 = .ok (.ireturn, 1) := by decide +kernel
theorem dX1_readPart_147 : decode cX1_readPart 147 = .ok (.aload_n 0, 1) := by decide +kernel
theorem dX1_readPart_148 : decode cX1_readPart 148 = .ok (.iload_n 1, 1) := by decide +kernel
theorem dX1_readPart_149 : decode cX1_readPart 149 = .ok (.iconst 1, 1) := by decide +kernel
theorem dX1_readPart_150 : decode cX1_readPart 150 = .ok (.iadd, 1) := by decide +kernel
theorem dX1_readPart_151 : decode cX1_readPart 151 = .ok (.invokevirtual 203, 3) := by decide +kernel
theorem dX1_readPart_154 : decode cX1_readPart 154 = .ok (.ifCond .eq 16, 3) := by decide +kernel
theorem dX1_readPart_170 : decode cX1_readPart 170 = .ok (.iconst 0, 1) := by decide +kernel
theorem dX1_readPart_171 : decode cX1_readPart 171 = .ok (.ireturn, 1) := by decide +kernel
theorem dX1_readPart_157 : decode cX1_readPart 157 = .ok (.aload_n 0, 1) := by decide +kernel
theorem dX1_readPart_158 : decode cX1_readPart 158 = .ok (.bipush 41, 2) := by decide +kernel
theorem dX1_readPart_160 : decode cX1_readPart 160 = .ok (.invokevirtual 88, 3) := by decide +kernel
theorem dX1_readPart_163 : decode cX1_readPart 163 = .ok (.ifCond .eq 7, 3) := by decide +kernel
theorem dX1_readPart_166 : decode cX1_readPart 166 = .ok (.iconst 1, 1) := by decide +kernel
theorem dX1_readPart_167 : decode cX1_readPart 167 = .ok (.goto 4, 3) := by decide +kernel
theorem dX1_readPart_172 : decode cX1_readPart 172 = .ok (.aload_n 0, 1) := by decide +kernel
theorem dX1_readPart_173 : decode cX1_readPart 173 = .ok (.iload_n 1, 1) := by decide +kernel
theorem dX1_readPart_174 : decode cX1_readPart 174 = .ok (.iconst 1, 1) := by decide +kernel
theorem dX1_readPart_175 : decode cX1_readPart 175 = .ok (.iadd, 1) := by decide +kernel
theorem dX1_readPart_176 : decode cX1_readPart 176 = .ok (.invokevirtual 216, 3) := by decide +kernel
theorem dX1_readPart_179 : decode cX1_readPart 179 = .ok (.ifCond .eq 15, 3) := by decide +kernel
theorem dX1_readPart_194 : decode cX1_readPart 194 = .ok (.iconst 0, 1) := by decide +kernel
theorem dX1_readPart_195 : decode cX1_readPart 195 = .ok (.ireturn, 1) := by decide +kernel
theorem dX1_readPart_182 : decode cX1_readPart 182 = .ok (.aload_n 0, 1) := by decide +kernel
theorem dX1_readPart_183 : decode cX1_readPart 183 = .ok (.iconst 3, 1) := by decide +kernel
theorem dX1_readPart_184 : decode cX1_readPart 184 = .ok (.invokevirtual 228, 3) := by decide +kernel
theorem dX1_readPart_187 : decode cX1_readPart 187 = .ok (.ifCond .eq 7, 3) := by decide +kernel
theorem dX1_readPart_190 : decode cX1_readPart 190 = .ok (.iconst 1, 1) := by decide +kernel
theorem dX1_readPart_191 : decode cX1_readPart 191 = .ok (.goto 4, 3) := by decide +kernel
theorem dX1_readPart_225 : decode cX1_readPart 225 = .ok (.aload_n 0, 1) := by decide +kernel
theorem dX1_readPart_226 : decode cX1_readPart 226 = .ok (.invokevirtual 146, 3) := by decide +kernel
theorem dX1_readPart_229 : decode cX1_readPart 229 = .ok (.ifCond .eq 20, 3) := by decide +kernel
theorem dX1_readPart_249 : decode cX1_readPart 249 = .ok (.iconst 0, 1) := by decide +kernel
theorem dX1_readPart_250 : decode cX1_readPart 250 = .ok (.ireturn, 1) := by decide +kernel
theorem dX1_readPart_232 : decode cX1_readPart 232 = .ok (.aload_n 0, 1) := by decide +kernel
theorem dX1_readPart_233 : decode cX1_readPart 233 = .ok (.bipush 11, 2) := by decide +kernel
theorem dX1_readPart_235 : decode cX1_readPart 235 = .ok (.aload_n 0, 1) := by decide +kernel
theorem dX1_readPart_236 : decode cX1_readPart 236 = .ok (.getfield 137, 3) := by decide +kernel
theorem dX1_readPart_239 : decode cX1_readPart 239 = .ok (.invokevirtual 225, 3) := by decide +kernel
theorem dX1_readPart_242 : decode cX1_readPart 242 = .ok (.ifCond .eq 7, 3) := by decide +kernel
theorem dX1_readPart_245 : decode cX1_readPart 245 = .ok (.iconst 1, 1) := by decide +kernel
theorem dX1_readPart_246 : decode cX1_readPart 246 = .ok (.goto 4, 3) := by decide +kernel
theorem dX1_readPart_141 : decode cX1_readPart 141 = .ok (.aload_n 0, 1) := by decide +kernel
theorem dX1_readPart_142 : decode cX1_readPart 142 = .ok (.iconst 2, 1) := by decide +kernel
theorem dX1_readPart_143 : decode cX1_readPart 143 = .ok (.invokevirtual 228, 3) := by decide +kernel
theorem dX1_readPart_146 : decode cX1_readPart 146 = .ok (.ireturn, 1) := by decide +kernel
theorem dX1_readPart_196 : decode cX1_readPart 196 = .ok (.aload_n 0, 1) := by decide +kernel
theorem dX1_readPart_197 : decode cX1_readPart 197 = .ok (.iconst 1, 1) := by decide +kernel
theorem dX1_readPart_198 : decode cX1_readPart 198 = .ok (.bipush 9, 2) := by decide +kernel
theorem dX1_readPart_200 : decode cX1_readPart 200 = .ok (.invokevirtual 103, 3) := by decide +kernel
theorem dX1_readPart_203 : decode cX1_readPart 203 = .ok (.ifCond .eq 20, 3) := by decide +kernel
theorem dX1_readPart_223 : decode cX1_readPart 223 = .ok (.iconst 0, 1) := by decide +kernel
theorem dX1_readPart_224 : decode cX1_readPart 224 = .ok (.ireturn, 1) := by decide +kernel
theorem dX1_readPart_206 : decode cX1_readPart 206 = .ok (.aload_n 0, 1) := by decide +kernel
theorem dX1_readPart_207 : decode cX1_readPart 207 = .ok (.bipush 12, 2) := by decide +kernel
theorem dX1_readPart_209 : decode cX1_readPart 209 = .ok (.aload_n 0, 1) := by decide +kernel
theorem dX1_readPart_210 : decode cX1_readPart 210 = .ok (.getfield 110, 3) := by decide +kernel
theorem dX1_readPart_213 : decode cX1_readPart 213 = .ok (.invokevirtual 225, 3) := by decide +kernel
theorem dX1_readPart_216 : decode cX1_readPart 216 = .ok (.ifCond .eq 7, 3) := by decide +kernel
theorem dX1_readPart_219 : decode cX1_readPart 219 = .ok (.iconst 1, 1) := by decide +kernel
theorem dX1_readPart_220 : decode cX1_readPart 220 = .ok (.goto 4, 3) := by decide +kernel
theorem dX1_readPart_251 : decode cX1_readPart 251 = .ok (.aload_n 0, 1) := by decide +kernel
theorem dX1_readPart_252 : decode cX1_readPart 252 = .ok (.iload_n 1, 1) := by decide +kernel
theorem dX1_readPart_253 : decode cX1_readPart 253 = .ok (.invokevirtual 231, 3) := by decide +kernel
theorem dX1_readPart_256 : decode cX1_readPart 256 = .ok (.ireturn, 1) := by decide +kernel
theorem dX1_readPart_257 : decode cX1_readPart 257 = .ok (.aload_n 0, 1) := by decide +kernel
theorem dX1_readPart_258 : decode cX1_readPart 258 = .ok (.iload_n 1, 1) := by decide +kernel
theorem dX1_readPart_259 : decode cX1_readPart 259 = .ok (.invokevirtual 234, 3) := by decide +kernel
theorem dX1_readPart_262 : decode cX1_readPart 262 = .ok (.ireturn, 1) := by decide +kernel
theorem dX1_readPart_263 : decode cX1_readPart 263 = .ok (.aload_n 0, 1) := by decide +kernel
theorem dX1_readPart_264 : decode cX1_readPart 264 = .ok (.iload_n 1, 1) := by decide +kernel
theorem dX1_readPart_265 : decode cX1_readPart 265 = .ok (.invokevirtual 237, 3) := by decide +kernel
theorem dX1_readPart_268 : decode cX1_readPart 268 = .ok (.ifCond .eq 15, 3) := by decide +kernel
theorem dX1_readPart_283 : decode cX1_readPart 283 = .ok (.iconst 0, 1) := by decide +kernel
theorem dX1_readPart_284 : decode cX1_readPart 284 = .ok (.ireturn, 1) := by decide +kernel
theorem dX1_readPart_271 : decode cX1_readPart 271 = .ok (.aload_n 0, 1) := by decide +kernel
theorem dX1_readPart_272 : decode cX1_readPart 272 = .ok (.iconst 4, 1) := by decide +kernel
theorem dX1_readPart_273 : decode cX1_readPart 273 = .ok (.invokevirtual 228, 3) := by decide +kernel
theorem dX1_readPart_276 : decode cX1_readPart 276 = .ok (.ifCond .eq 7, 3) := by decide +kernel
theorem dX1_readPart_279 : decode cX1_readPart 279 = .ok (.iconst 1, 1) := by decide +kernel
theorem dX1_readPart_280 : decode cX1_readPart 280 = .ok (.goto 4, 3) := by decide +kernel
theorem dX1_readPart_19 : decode cX1_readPart 19 = .ok (.aload_n 0, 1) := by decide +kernel
theorem dX1_readPart_20 : decode cX1_readPart 20 = .ok (.iconst 5, 1) := by decide +kernel
theorem dX1_readPart_21 : decode cX1_readPart 21 = .ok (.invokevirtual 47, 3) := by decide +kernel
theorem dX1_readPart_24 : decode cX1_readPart 24 = .ok (.ireturn, 1) := by decide +kernel
theorem dX1_readPart_7 : decode cX1_readPart 7 = .ok (.aload_n 0, 1) := by decide +kernel
theorem dX1_readPart_8 : decode cX1_readPart 8 = .ok (.iconst 1, 1) := by decide +kernel
theorem dX1_readPart_9 : decode cX1_readPart 9 = .ok (.invokevirtual 47, 3) := by decide +kernel
theorem dX1_readPart_12 : decode cX1_readPart 12 = .ok (.ireturn, 1) := by decide +kernel
theorem dX1_readOf_0 : decode cX1_readOf 0 = .ok (.aload_n 0, 1) := by decide +kernel
theorem dX1_readOf_1 : decode cX1_readOf 1 = .ok (.iconst 0, 1) := by decide +kernel
theorem dX1_readOf_2 : decode cX1_readOf 2 = .ok (.aload_n 0, 1) := by decide +kernel
theorem dX1_readOf_3 : decode cX1_readOf 3 = .ok (.getfield 24, 3) := by decide +kernel
theorem dX1_readOf_6 : decode cX1_readOf 6 = .ok (.ifnonnull 7, 3) := by decide +kernel
theorem dX1_readOf_9 : decode cX1_readOf 9 = .ok (.iconst (-1), 1) := by decide +kernel
theorem dX1_readOf_10 : decode cX1_readOf 10 = .ok (.goto 12, 3) := by decide +kernel
theorem dX1_readOf_22 : decode cX1_readOf 22 = .ok (.invokevirtual 103, 3) := by decide +kernel
theorem dX1_readOf_25 : decode cX1_readOf 25 = .ok (.ifCond .ne 5, 3) := by decide +kernel
theorem dX1_readOf_30 : decode cX1_readOf 30 = .ok (.aload_n 0, 1) := by decide +kernel
theorem dX1_readOf_28 : decode cX1_readOf 28 = .ok (.iconst 0, 1) := by decide +kernel
theorem dX1_readOf_29 : decode cX1_readOf 29 = .ok (.ireturn, 1) := by decide +kernel
theorem dX1_readOf_13 : decode cX1_readOf 13 = .ok (.aload_n 0, 1) := by decide +kernel
theorem dX1_readOf_14 : decode cX1_readOf 14 = .ok (.getfield 24, 3) := by decide +kernel
theorem dX1_readOf_17 : decode cX1_readOf 17 = .ok (.getfield 190, 3) := by decide +kernel
theorem dX1_readOf_20 : decode cX1_readOf 20 = .ok (.iconst 1, 1) := by decide +kernel
theorem dX1_readOf_21 : decode cX1_readOf 21 = .ok (.isub, 1) := by decide +kernel
theorem dX1_readOf_31 : decode cX1_readOf 31 = .ok (.getfield 110, 3) := by decide +kernel
theorem dX1_readOf_34 : decode cX1_readOf 34 = .ok (.istore_n 2, 1) := by decide +kernel
theorem dX1_readOf_35 : decode cX1_readOf 35 = .ok (.aload_n 0, 1) := by decide +kernel
theorem dX1_readOf_36 : decode cX1_readOf 36 = .ok (.bipush 46, 2) := by decide +kernel
theorem dX1_readOf_38 : decode cX1_readOf 38 = .ok (.invokevirtual 88, 3) := by decide +kernel
theorem dX1_readOf_41 : decode cX1_readOf 41 = .ok (.ifCond .eq 11, 3) := by decide +kernel
theorem dX1_readOf_52 : decode cX1_readOf 52 = .ok (.iconst 0, 1) := by decide +kernel
theorem dX1_readOf_53 : decode cX1_readOf 53 = .ok (.ireturn, 1) := by decide +kernel
theorem dX1_readOf_44 : decode cX1_readOf 44 = .ok (.aload_n 0, 1) := by decide +kernel
theorem dX1_readOf_45 : decode cX1_readOf 45 = .ok (.aconst_null, 1) := by decide +kernel
theorem dX1_readOf_46 : decode cX1_readOf 46 = .ok (.invokevirtual 161, 3) := by decide +kernel
theorem dX1_readOf_49 : decode cX1_readOf 49 = .ok (.ifCond .ne 5, 3) := by decide +kernel
theorem dX1_readOf_54 : decode cX1_readOf 54 = .ok (.aload_n 0, 1) := by decide +kernel
theorem dX1_readOf_55 : decode cX1_readOf 55 = .ok (.getfield 137, 3) := by decide +kernel
theorem dX1_readOf_58 : decode cX1_readOf 58 = .ok (.istore_n 3, 1) := by decide +kernel
theorem dX1_readOf_59 : decode cX1_readOf 59 = .ok (.aload_n 0, 1) := by decide +kernel
theorem dX1_readOf_60 : decode cX1_readOf 60 = .ok (.iload_n 1, 1) := by decide +kernel
theorem dX1_readOf_61 : decode cX1_readOf 61 = .ok (.invokevirtual 237, 3) := by decide +kernel
theorem dX1_readOf_64 : decode cX1_readOf 64 = .ok (.ifCond .ne 5, 3) := by decide +kernel
theorem dX1_readOf_69 : decode cX1_readOf 69 = .ok (.aload_n 0, 1) := by decide +kernel
theorem dX1_readOf_70 : decode cX1_readOf 70 = .ok (.bipush 15, 2) := by decide +kernel
theorem dX1_readOf_72 : decode cX1_readOf 72 = .ok (.iload_n 2, 1) := by decide +kernel
theorem dX1_readOf_73 : decode cX1_readOf 73 = .ok (.bipush 20, 2) := by decide +kernel
theorem dX1_readOf_75 : decode cX1_readOf 75 = .ok (.imul, 1) := by decide +kernel
theorem dX1_readOf_76 : decode cX1_readOf 76 = .ok (.iload_n 3, 1) := by decide +kernel
theorem dX1_readOf_77 : decode cX1_readOf 77 = .ok (.iadd, 1) := by decide +kernel
theorem dX1_readOf_78 : decode cX1_readOf 78 = .ok (.invokevirtual 225, 3) := by decide +kernel
theorem dX1_readOf_81 : decode cX1_readOf 81 = .ok (.ireturn, 1) := by decide +kernel
theorem dX1_readOf_67 : decode cX1_readOf 67 = .ok (.iconst 0, 1) := by decide +kernel
theorem dX1_readOf_68 : decode cX1_readOf 68 = .ok (.ireturn, 1) := by decide +kernel
theorem dX1_readPick_0 : decode cX1_readPick 0 = .ok (.aload_n 0, 1) := by decide +kernel
theorem dX1_readPick_1 : decode cX1_readPick 1 = .ok (.bipush 40, 2) := by decide +kernel
theorem dX1_readPick_3 : decode cX1_readPick 3 = .ok (.invokevirtual 88, 3) := by decide +kernel
theorem dX1_readPick_6 : decode cX1_readPick 6 = .ok (.ifCond .eq 22, 3) := by decide +kernel
theorem dX1_readPick_28 : decode cX1_readPick 28 = .ok (.iconst 0, 1) := by decide +kernel
theorem dX1_readPick_29 : decode cX1_readPick 29 = .ok (.ireturn, 1) := by decide +kernel
theorem dX1_readPick_9 : decode cX1_readPick 9 = .ok (.aload_n 0, 1) := by decide +kernel
theorem dX1_readPick_10 : decode cX1_readPick 10 = .ok (.iload_n 1, 1) := by decide +kernel
theorem dX1_readPick_11 : decode cX1_readPick 11 = .ok (.iconst 1, 1) := by decide +kernel
theorem dX1_readPick_12 : decode cX1_readPick 12 = .ok (.iadd, 1) := by decide +kernel
theorem dX1_readPick_13 : decode cX1_readPick 13 = .ok (.invokevirtual 203, 3) := by decide +kernel
theorem dX1_readPick_16 : decode cX1_readPick 16 = .ok (.ifCond .eq 12, 3) := by decide +kernel
theorem dX1_readPick_19 : decode cX1_readPick 19 = .ok (.aload_n 0, 1) := by decide +kernel
theorem dX1_readPick_20 : decode cX1_readPick 20 = .ok (.bipush 44, 2) := by decide +kernel
theorem dX1_readPick_22 : decode cX1_readPick 22 = .ok (.invokevirtual 88, 3) := by decide +kernel
theorem dX1_readPick_25 : decode cX1_readPick 25 = .ok (.ifCond .ne 5, 3) := by decide +kernel
theorem dX1_readPick_30 : decode cX1_readPick 30 = .ok (.aload_n 0, 1) := by decide +kernel
theorem dX1_readPick_31 : decode cX1_readPick 31 = .ok (.getfield 15, 3) := by decide +kernel
theorem dX1_readPick_34 : decode cX1_readPick 34 = .ok (.getfield 168, 3) := by decide +kernel
theorem dX1_readPick_37 : decode cX1_readPick 37 = .ok (.iconst 1, 1) := by decide +kernel
theorem dX1_readPick_38 : decode cX1_readPick 38 = .ok (.iadd, 1) := by decide +kernel
theorem dX1_readPick_39 : decode cX1_readPick 39 = .ok (.istore_n 2, 1) := by decide +kernel
theorem dX1_readPick_40 : decode cX1_readPick 40 = .ok (.aload_n 0, 1) := by decide +kernel
theorem dX1_readPick_41 : decode cX1_readPick 41 = .ok (.bipush 13, 2) := by decide +kernel
theorem dX1_readPick_43 : decode cX1_readPick 43 = .ok (.iconst 0, 1) := by decide +kernel
theorem dX1_readPick_44 : decode cX1_readPick 44 = .ok (.invokevirtual 225, 3) := by decide +kernel
theorem dX1_readPick_47 : decode cX1_readPick 47 = .ok (.pop, 1) := by decide +kernel
theorem dX1_readPick_48 : decode cX1_readPick 48 = .ok (.aload_n 0, 1) := by decide +kernel
theorem dX1_readPick_49 : decode cX1_readPick 49 = .ok (.iload_n 1, 1) := by decide +kernel
theorem dX1_readPick_50 : decode cX1_readPick 50 = .ok (.iconst 1, 1) := by decide +kernel
theorem dX1_readPick_51 : decode cX1_readPick 51 = .ok (.iadd, 1) := by decide +kernel
theorem dX1_readPick_52 : decode cX1_readPick 52 = .ok (.invokevirtual 203, 3) := by decide +kernel
theorem dX1_readPick_55 : decode cX1_readPick 55 = .ok (.ifCond .eq 12, 3) := by decide +kernel
theorem dX1_readPick_67 : decode cX1_readPick 67 = .ok (.iconst 0, 1) := by decide +kernel
theorem dX1_readPick_68 : decode cX1_readPick 68 = .ok (.ireturn, 1) := by decide +kernel
theorem dX1_readPick_58 : decode cX1_readPick 58 = .ok (.aload_n 0, 1) := by decide +kernel
theorem dX1_readPick_59 : decode cX1_readPick 59 = .ok (.bipush 44, 2) := by decide +kernel
theorem dX1_readPick_61 : decode cX1_readPick 61 = .ok (.invokevirtual 88, 3) := by decide +kernel
theorem dX1_readPick_64 : decode cX1_readPick 64 = .ok (.ifCond .ne 5, 3) := by decide +kernel
theorem dX1_readPick_69 : decode cX1_readPick 69 = .ok (.aload_n 0, 1) := by decide +kernel
theorem dX1_readPick_70 : decode cX1_readPick 70 = .ok (.getfield 15, 3) := by decide +kernel
theorem dX1_readPick_73 : decode cX1_readPick 73 = .ok (.getfield 168, 3) := by decide +kernel
theorem dX1_readPick_76 : decode cX1_readPick 76 = .ok (.iconst 1, 1) := by decide +kernel
theorem dX1_readPick_77 : decode cX1_readPick 77 = .ok (.iadd, 1) := by decide +kernel
theorem dX1_readPick_78 : decode cX1_readPick 78 = .ok (.istore_n 3, 1) := by decide +kernel
theorem dX1_readPick_79 : decode cX1_readPick 79 = .ok (.aload_n 0, 1) := by decide +kernel
theorem dX1_readPick_80 : decode cX1_readPick 80 = .ok (.bipush 14, 2) := by decide +kernel
theorem dX1_readPick_82 : decode cX1_readPick 82 = .ok (.iconst 0, 1) := by decide +kernel
theorem dX1_readPick_83 : decode cX1_readPick 83 = .ok (.invokevirtual 225, 3) := by decide +kernel
theorem dX1_readPick_86 : decode cX1_readPick 86 = .ok (.pop, 1) := by decide +kernel
theorem dX1_readPick_87 : decode cX1_readPick 87 = .ok (.aload_n 0, 1) := by decide +kernel
theorem dX1_readPick_88 : decode cX1_readPick 88 = .ok (.getfield 15, 3) := by decide +kernel
theorem dX1_readPick_91 : decode cX1_readPick 91 = .ok (.iload_n 2, 1) := by decide +kernel
theorem dX1_readPick_92 : decode cX1_readPick 92 = .ok (.aload_n 0, 1) := by decide +kernel
theorem dX1_readPick_93 : decode cX1_readPick 93 = .ok (.getfield 15, 3) := by decide +kernel
theorem dX1_readPick_96 : decode cX1_readPick 96 = .ok (.getfield 168, 3) := by decide +kernel
theorem dX1_readPick_99 : decode cX1_readPick 99 = .ok (.invokevirtual 240, 3) := by decide +kernel
theorem dX1_readPick_102 : decode cX1_readPick 102 = .ok (.aload_n 0, 1) := by decide +kernel
theorem dX1_readPick_103 : decode cX1_readPick 103 = .ok (.iload_n 1, 1) := by decide +kernel
theorem dX1_readPick_104 : decode cX1_readPick 104 = .ok (.iconst 1, 1) := by decide +kernel
theorem dX1_readPick_105 : decode cX1_readPick 105 = .ok (.iadd, 1) := by decide +kernel
theorem dX1_readPick_106 : decode cX1_readPick 106 = .ok (.invokevirtual 203, 3) := by decide +kernel
theorem dX1_readPick_109 : decode cX1_readPick 109 = .ok (.ifCond .eq 12, 3) := by decide +kernel
theorem dX1_readPick_121 : decode cX1_readPick 121 = .ok (.iconst 0, 1) := by decide +kernel
theorem dX1_readPick_122 : decode cX1_readPick 122 = .ok (.ireturn, 1) := by decide +kernel
theorem dX1_readPick_112 : decode cX1_readPick 112 = .ok (.aload_n 0, 1) := by decide +kernel
theorem dX1_readPick_113 : decode cX1_readPick 113 = .ok (.bipush 41, 2) := by decide +kernel
theorem dX1_readPick_115 : decode cX1_readPick 115 = .ok (.invokevirtual 88, 3) := by decide +kernel
theorem dX1_readPick_118 : decode cX1_readPick 118 = .ok (.ifCond .ne 5, 3) := by decide +kernel
theorem dX1_readPick_123 : decode cX1_readPick 123 = .ok (.aload_n 0, 1) := by decide +kernel
theorem dX1_readPick_124 : decode cX1_readPick 124 = .ok (.getfield 15, 3) := by decide +kernel
theorem dX1_readPick_127 : decode cX1_readPick 127 = .ok (.iload_n 3, 1) := by decide +kernel
theorem dX1_readPick_128 : decode cX1_readPick 128 = .ok (.aload_n 0, 1) := by decide +kernel
theorem dX1_readPick_129 : decode cX1_readPick 129 = .ok (.getfield 15, 3) := by decide +kernel
theorem dX1_readPick_132 : decode cX1_readPick 132 = .ok (.getfield 168, 3) := by decide +kernel
theorem dX1_readPick_135 : decode cX1_readPick 135 = .ok (.invokevirtual 240, 3) := by decide +kernel
theorem dX1_readPick_138 : decode cX1_readPick 138 = .ok (.iconst 1, 1) := by decide +kernel
theorem dX1_readPick_139 : decode cX1_readPick 139 = .ok (.ireturn, 1) := by decide +kernel
abbrev q_x_readExpression (D : va_G) (ks : KS) (ad : Nat → Nat) (kk : Nat → ClassId) (V : Vf) (L : Lf) (Z : XZ) (p0 : Int32) (b : Nat) (A : Nat → Prop) : Array Value → State → Outcome → State → Prop := va_Qi (fun (r : Int32) (u : Vf × Lf) => rgd bX u.1 ∧ agr [(1, 3), (1, 6), (1, 8), (6, 8), (6, 9), (6, 10)] [42, 43, 44, 48] V u.1 ∧ agL [6, 44] L u.2 ∧ frX (xR b) V u.1 ∧ (0 ≤ r.toInt ∧ r.toInt ≤ 1) ∧ (CD u.1 b) ∧ (px V u.1 b)) (fun u t => gq D A (xw ad kk u.1 u.2 Z) (xty kk Z) t) A
def K_x_readExpression (l : Launch) (D : va_G) (ks : KS) (dd : Nat) : Prop := ∀ (sz : Nat) (ad : Nat → Nat) (kk : Nat → ClassId) (V : Vf) (L : Lf) (Z : XZ) (p0 : Int32) (b : Nat) (hMV : rgd bX V) (rg_p0 : 0 ≤ p0.toInt ∧ p0.toInt ≤ 8) (hb2 : b < 2) (rbk : (V 1 1).toInt = (b : Int)) (cd : CD V b) (y1 : 8 - p0.toInt ≤ (dd : Int)) , Met l yX1_readExpression (Cond.code yX1_readExpression cX1_readExpression 3 (some .boolean) :: GW) (rK 9 240 dd) (va_Pc [.ref (ad 1), .int p0] (gp D ks (xw ad kk V L Z) (xty kk Z) sz)) (q_x_readExpression D ks ad kk V L Z p0 b (va_A (xw ad kk V L Z) sz)) 0 0 (va_A (xw ad kk V L Z) sz)
abbrev q_x_readSum (D : va_G) (ks : KS) (ad : Nat → Nat) (kk : Nat → ClassId) (V : Vf) (L : Lf) (Z : XZ) (p0 : Int32) (b : Nat) (A : Nat → Prop) : Array Value → State → Outcome → State → Prop := va_Qi (fun (r : Int32) (u : Vf × Lf) => rgd bX u.1 ∧ agr [(1, 3), (1, 6), (1, 8), (6, 8), (6, 9), (6, 10)] [42, 43, 44, 48] V u.1 ∧ agL [6, 44] L u.2 ∧ frX (xR b) V u.1 ∧ (0 ≤ r.toInt ∧ r.toInt ≤ 1) ∧ (CD u.1 b) ∧ (px V u.1 b)) (fun u t => gq D A (xw ad kk u.1 u.2 Z) (xty kk Z) t) A
def K_x_readSum (l : Launch) (D : va_G) (ks : KS) (dd : Nat) : Prop := ∀ (sz : Nat) (ad : Nat → Nat) (kk : Nat → ClassId) (V : Vf) (L : Lf) (Z : XZ) (p0 : Int32) (b : Nat) (hMV : rgd bX V) (rg_p0 : 0 ≤ p0.toInt ∧ p0.toInt ≤ 8) (hb2 : b < 2) (rbk : (V 1 1).toInt = (b : Int)) (cd : CD V b) (y1 : 8 - p0.toInt ≤ (dd : Int)) , Met l yX1_readSum (Cond.code yX1_readSum cX1_readSum 4 (some .boolean) :: GW) (rK 8 210 dd) (va_Pc [.ref (ad 1), .int p0] (gp D ks (xw ad kk V L Z) (xty kk Z) sz)) (q_x_readSum D ks ad kk V L Z p0 b (va_A (xw ad kk V L Z) sz)) 0 0 (va_A (xw ad kk V L Z) sz)
abbrev q_x_readProduct (D : va_G) (ks : KS) (ad : Nat → Nat) (kk : Nat → ClassId) (V : Vf) (L : Lf) (Z : XZ) (p0 : Int32) (b : Nat) (A : Nat → Prop) : Array Value → State → Outcome → State → Prop := va_Qi (fun (r : Int32) (u : Vf × Lf) => rgd bX u.1 ∧ agr [(1, 3), (1, 6), (1, 8), (6, 8), (6, 9), (6, 10)] [42, 43, 44, 48] V u.1 ∧ agL [6, 44] L u.2 ∧ frX (xR b) V u.1 ∧ (0 ≤ r.toInt ∧ r.toInt ≤ 1) ∧ (CD u.1 b) ∧ (px V u.1 b)) (fun u t => gq D A (xw ad kk u.1 u.2 Z) (xty kk Z) t) A
def K_x_readProduct (l : Launch) (D : va_G) (ks : KS) (dd : Nat) : Prop := ∀ (sz : Nat) (ad : Nat → Nat) (kk : Nat → ClassId) (V : Vf) (L : Lf) (Z : XZ) (p0 : Int32) (b : Nat) (hMV : rgd bX V) (rg_p0 : 0 ≤ p0.toInt ∧ p0.toInt ≤ 8) (hb2 : b < 2) (rbk : (V 1 1).toInt = (b : Int)) (cd : CD V b) (y1 : 8 - p0.toInt ≤ (dd : Int)) , Met l yX1_readProduct (Cond.code yX1_readProduct cX1_readProduct 3 (some .boolean) :: GW) (rK 7 180 dd) (va_Pc [.ref (ad 1), .int p0] (gp D ks (xw ad kk V L Z) (xty kk Z) sz)) (q_x_readProduct D ks ad kk V L Z p0 b (va_A (xw ad kk V L Z) sz)) 0 0 (va_A (xw ad kk V L Z) sz)
abbrev q_x_readPart (D : va_G) (ks : KS) (ad : Nat → Nat) (kk : Nat → ClassId) (V : Vf) (L : Lf) (Z : XZ) (p0 : Int32) (b : Nat) (A : Nat → Prop) : Array Value → State → Outcome → State → Prop := va_Qi (fun (r : Int32) (u : Vf × Lf) => rgd bX u.1 ∧ agr [(1, 3), (1, 6), (1, 8), (6, 8), (6, 9), (6, 10)] [42, 43, 44, 48] V u.1 ∧ agL [6, 44] L u.2 ∧ frX (xR b) V u.1 ∧ (0 ≤ r.toInt ∧ r.toInt ≤ 1) ∧ (CD u.1 b) ∧ (px V u.1 b)) (fun u t => gq D A (xw ad kk u.1 u.2 Z) (xty kk Z) t) A
def K_x_readPart (l : Launch) (D : va_G) (ks : KS) (dd : Nat) : Prop := ∀ (sz : Nat) (ad : Nat → Nat) (kk : Nat → ClassId) (V : Vf) (L : Lf) (Z : XZ) (p0 : Int32) (b : Nat) (hMV : rgd bX V) (rg_p0 : 0 ≤ p0.toInt ∧ p0.toInt ≤ 8) (hb2 : b < 2) (rbk : (V 1 1).toInt = (b : Int)) (cd : CD V b) (y1 : 8 - p0.toInt ≤ (dd : Int)) , Met l yX1_readPart (Cond.code yX1_readPart cX1_readPart 5 (some .boolean) :: GW) (rK 6 150 dd) (va_Pc [.ref (ad 1), .int p0] (gp D ks (xw ad kk V L Z) (xty kk Z) sz)) (q_x_readPart D ks ad kk V L Z p0 b (va_A (xw ad kk V L Z) sz)) 0 0 (va_A (xw ad kk V L Z) sz)
abbrev q_x_readWithin (D : va_G) (ks : KS) (ad : Nat → Nat) (kk : Nat → ClassId) (V : Vf) (L : Lf) (Z : XZ) (p0 : Int32) (b : Nat) (A : Nat → Prop) : Array Value → State → Outcome → State → Prop := va_Qi (fun (r : Int32) (u : Vf × Lf) => rgd bX u.1 ∧ agr [(1, 3), (1, 6), (1, 8), (6, 8), (6, 9), (6, 10)] [42, 43, 44, 48] V u.1 ∧ agL [6, 44] L u.2 ∧ frX (xR b) V u.1 ∧ (0 ≤ r.toInt ∧ r.toInt ≤ 1) ∧ (CD u.1 b) ∧ (px V u.1 b)) (fun u t => gq D A (xw ad kk u.1 u.2 Z) (xty kk Z) t) A
def K_x_readWithin (l : Launch) (D : va_G) (ks : KS) (dd : Nat) : Prop := ∀ (sz : Nat) (ad : Nat → Nat) (kk : Nat → ClassId) (V : Vf) (L : Lf) (Z : XZ) (p0 : Int32) (b : Nat) (hMV : rgd bX V) (rg_p0 : 0 ≤ p0.toInt ∧ p0.toInt ≤ 7) (hb2 : b < 2) (rbk : (V 1 1).toInt = (b : Int)) (cd : CD V b) (y1 : 7 - p0.toInt ≤ (dd : Int)) , Met l yX1_readWithin (Cond.code yX1_readWithin cX1_readWithin 2 (some .boolean) :: GW) (rK 10 265 dd) (va_Pc [.ref (ad 1), .int p0] (gp D ks (xw ad kk V L Z) (xty kk Z) sz)) (q_x_readWithin D ks ad kk V L Z p0 b (va_A (xw ad kk V L Z) sz)) 0 0 (va_A (xw ad kk V L Z) sz)
abbrev q_x_readPick (D : va_G) (ks : KS) (ad : Nat → Nat) (kk : Nat → ClassId) (V : Vf) (L : Lf) (Z : XZ) (p0 : Int32) (b : Nat) (A : Nat → Prop) : Array Value → State → Outcome → State → Prop := va_Qi (fun (r : Int32) (u : Vf × Lf) => rgd bX u.1 ∧ agr [(1, 3), (1, 6), (1, 8), (6, 8), (6, 9), (6, 10)] [42, 43, 44, 48] V u.1 ∧ agL [6, 44] L u.2 ∧ frX (xR b) V u.1 ∧ (0 ≤ r.toInt ∧ r.toInt ≤ 1) ∧ (CD u.1 b) ∧ (px V u.1 b)) (fun u t => gq D A (xw ad kk u.1 u.2 Z) (xty kk Z) t) A
def K_x_readPick (l : Launch) (D : va_G) (ks : KS) (dd : Nat) : Prop := ∀ (sz : Nat) (ad : Nat → Nat) (kk : Nat → ClassId) (V : Vf) (L : Lf) (Z : XZ) (p0 : Int32) (b : Nat) (hMV : rgd bX V) (rg_p0 : 0 ≤ p0.toInt ∧ p0.toInt ≤ 7) (hb2 : b < 2) (rbk : (V 1 1).toInt = (b : Int)) (cd : CD V b) (y1 : 7 - p0.toInt ≤ (dd : Int)) , Met l yX1_readPick (Cond.code yX1_readPick cX1_readPick 4 (some .boolean) :: GW) (rK 10 265 dd) (va_Pc [.ref (ad 1), .int p0] (gp D ks (xw ad kk V L Z) (xty kk Z) sz)) (q_x_readPick D ks ad kk V L Z p0 b (va_A (xw ad kk V L Z) sz)) 0 0 (va_A (xw ad kk V L Z) sz)
abbrev q_x_readOf (D : va_G) (ks : KS) (ad : Nat → Nat) (kk : Nat → ClassId) (V : Vf) (L : Lf) (Z : XZ) (p0 : Int32) (b : Nat) (A : Nat → Prop) : Array Value → State → Outcome → State → Prop := va_Qi (fun (r : Int32) (u : Vf × Lf) => rgd bX u.1 ∧ agr [(1, 3), (1, 6), (1, 8), (6, 8), (6, 9), (6, 10)] [42, 43, 44, 48] V u.1 ∧ agL [6, 44] L u.2 ∧ frX (xR b) V u.1 ∧ (0 ≤ r.toInt ∧ r.toInt ≤ 1) ∧ (CD u.1 b) ∧ (px V u.1 b)) (fun u t => gq D A (xw ad kk u.1 u.2 Z) (xty kk Z) t) A
def K_x_readOf (l : Launch) (D : va_G) (ks : KS) (dd : Nat) : Prop := ∀ (sz : Nat) (ad : Nat → Nat) (kk : Nat → ClassId) (V : Vf) (L : Lf) (Z : XZ) (p0 : Int32) (b : Nat) (hMV : rgd bX V) (rg_p0 : 0 ≤ p0.toInt ∧ p0.toInt ≤ 7) (hb2 : b < 2) (rbk : (V 1 1).toInt = (b : Int)) (cd : CD V b) (y1 : 7 - p0.toInt ≤ (dd : Int)) , Met l yX1_readOf (Cond.code yX1_readOf cX1_readOf 4 (some .boolean) :: GW) (rK 11 290 dd) (va_Pc [.ref (ad 1), .int p0] (gp D ks (xw ad kk V L Z) (xty kk Z) sz)) (q_x_readOf D ks ad kk V L Z p0 b (va_A (xw ad kk V L Z) sz)) 0 0 (va_A (xw ad kk V L Z) sz)
set_option maxHeartbeats 4000000 in
set_option maxRecDepth 100000 in
theorem x_readExpression {l : Launch} {D : va_G} {ks : KS} {dd : Nat} (hk_x_readSum : K_x_readSum l D ks dd) : K_x_readExpression l D ks dd := by
  intro sz ad kk V L Z p0 b hMV rg_p0 hb2 rbk cd y1
  refine g_met (q_x_readExpression D ks ad kk V L Z p0 b) (by decide) (Nat.le_of_ble_eq_true rfl) ?_
  intro p e s m below meth c A ls H locs hx hb hr hml hown hg hlocks hin hnw hgk hP hK hD hS hA hl
  have hown : s.vm.findClass RX1 = some m.cls := hown
  have hl : lv_has ls 3 [(0, .ref (ad 1)), (1, .int p0)] := hl
  have hP : va_P D vwCl (xw ad kk V L Z) H := hP
  have hD : va_D A (xw ad kk V L Z) := hD
  have hK : va_K D vwCl (xty kk Z) s := hK
  have agV : agr [(1, 3), (1, 6), (1, 8), (6, 8), (6, 9), (6, 10)] [42, 43, 44, 48] V V := agr.rf
  have alL : agL [6, 44] L L := agL.rf
  have fwV : frX (xR b) V V := frX.rf
  have r1 : (-1) ≤ ((V 1 1)).toInt ∧ ((V 1 1)).toInt ≤ 1 := hMV 1 1
  refine lv_aload_n hx hb dX1_readExpression_0 rfl (lv_at hl 0 rfl) ?_
  refine lv_iload_n hx hb dX1_readExpression_1 rfl (lv_at hl 1 rfl) ?_
  refine gA_int (gA_runV (As := [.int p0]) (rest := []) (ci := 1) (q0 := 1) hx hb hml hown hg hP hD hK hS hA hnw hgk (hk_x_readSum H.size ad kk V L Z p0 (b) hMV (by first | omega | ((try (have i_cd := Imp.go cd (by omega))); omega)) (show b < 2 from by first | omega | ((try (have i_cd := Imp.go cd (by omega))); omega)) (show (V 1 1).toInt = (b : Int) from by first | omega | ((try (have i_cd := Imp.go cd (by omega))); omega)) cd (show 8 - p0.toInt ≤ (dd : Int) from by first | omega | ((try (have i_cd := Imp.go cd (by omega))); omega))) w955 w957 w22 w162 w958 rfl xgReader hdV_yX1_readSum ⟨(by show 10 * dd + 8 + 1 ≤ 10 * dd + 9; omega), (by show 8 + (4 + 11) + (300 * dd + 210) ≤ 300 * dd + 240; omega)⟩ rfl hl.1 rfl (Nat.le_of_ble_eq_true rfl) dX1_readExpression_2 ⟨Nat.le_of_ble_eq_true rfl, Nat.le_of_ble_eq_true rfl⟩) hP hD hK hS hA (fun z2 u3 H locs w4 hP hD hK hS => ?_)
  obtain ⟨V7, L8⟩ := u3
  obtain ⟨hMV7, ajV7, axL8, fyV7, rgz2, t5, t6⟩ := w4
  have alL8 : agL [6, 44] L L8 := agL.tr alL axL8 (by decide)
  have hP : va_P D vwCl (xw ad kk V7 L8 Z) H := hP
  have hD : va_D A (xw ad kk V7 L8 Z) := hD
  have hMV7 : rgd bX V7 := hMV7
  have ajV7 : agr [(1, 3), (1, 6), (1, 8), (6, 8), (6, 9), (6, 10)] [42, 43, 44, 48] V V7 := ajV7
  have agV7 : agr [(1, 3), (1, 6), (1, 8), (6, 8), (6, 9), (6, 10)] [42, 43, 44, 48] V V7 := agV.tr ajV7 (by decide) (by decide)
  have fwV7 : frX (xR b) V V7 := frX.tr fwV (fyV7)
  have rgz2 : 0 ≤ z2.toInt ∧ z2.toInt ≤ 1 := rgz2
  have t5 : CD V7 b := t5
  have t6 : px V V7 b := t6
  refine lv_if_ne (tgt := 10) hx hb dX1_readExpression_5 (by decide) (fun c9 => ?_) (fun c9 => ?_)
  · skip
    have f10 : z2.toInt ≠ 0 := b_neq rfl (by decide) c9
    refine lv_aload_n hx hb dX1_readExpression_10 rfl (lv_at hl 0 rfl) ?_
    refine va_get (D := D) (ci := 1) (v := .ref (ad 6)) (fs := (xfReader ad V7 L8 Z)) (C := RX1) (T := TX1) (N := 9) hx hb hg inX1 hown hK hP 1 xgReader rfl 0 (by decide) (hg _ w304) (fun _ h9 => h9) rfl dX1_readExpression_11 ?_
    refine va_getN (D := D) (ci := 9) (v := .int (V7 6 9)) (fs := (xfTape ad V7 L8 Z)) (C := RX9) (T := TX9) (N := 12) hx hb hg inX9 hown hK hP 6 xgTape rfl 9 (by decide) (hnw.use 262 n262 rfl) (fun _ h9 => h9) rfl dX1_readExpression_14 ?_
    refine lv_istore_n (lv' := [(2, .int (V7 6 9)), (0, .ref (ad 1)), (1, .int p0)]) hx hb dX1_readExpression_17 rfl hl (by decide) rfl (fun ls hl => ?_)
    refine lv_iload_n hx hb dX1_readExpression_18 rfl (lv_at hl 0 rfl) ?_
    refine lv_bipush (v := 60) hx hb dX1_readExpression_19 (by decide) ?_
    refine lv_icmp_eq (tgt := 32) hx hb dX1_readExpression_21 (by decide) (fun c11 => ?_) (fun c11 => ?_)
    · skip
      have f12 : ((V7 6 9)).toInt = 60 := b_eq rfl (by decide) c11
      refine lv_aload_n hx hb dX1_readExpression_32 rfl (lv_at hl 1 rfl) ?_
      refine va_get (D := D) (ci := 1) (v := .ref (ad 6)) (fs := (xfReader ad V7 L8 Z)) (C := RX1) (T := TX1) (N := 9) hx hb hg inX1 hown hK hP 1 xgReader rfl 0 (by decide) (hg _ w304) (fun _ h9 => h9) rfl dX1_readExpression_33 ?_
      refine gA_void (gA_runV (As := []) (rest := []) (ci := 9) (q0 := 6) hx hb hml hown hg hP hD hK hS hA hnw hgk (x_next l D ks H.size ad kk V7 L8 Z  hMV7 ) w871 w852 w853 w157 w854 rfl xgTape hdV_yX9_next ⟨(by show 0 + 1 ≤ 10 * dd + 9; omega), (by show 8 + (1 + 11) + (0) ≤ 300 * dd + 240; omega)⟩ rfl hl.1 rfl (Nat.le_of_ble_eq_true rfl) dX1_readExpression_36 ⟨Nat.le_of_ble_eq_true rfl, Nat.le_of_ble_eq_true rfl⟩) hP hD hK hS hA (fun u14 H locs w15 hP hD hK hS => ?_)
      obtain ⟨V16, L17⟩ := u14
      obtain ⟨hMV16, ajV16, axL17⟩ := w15
      have alL17 : agL [6, 44] L L17 := agL.tr alL8 axL17 (by decide)
      have hP : va_P D vwCl (xw ad kk V16 L17 Z) H := hP
      have hD : va_D A (xw ad kk V16 L17 Z) := hD
      have hMV16 : rgd bX V16 := hMV16
      have ajV16 : agr [(6, 8), (6, 9), (6, 10)] [] V7 V16 := ajV16
      have agV16 : agr [(1, 3), (1, 6), (1, 8), (6, 8), (6, 9), (6, 10)] [42, 43, 44, 48] V V16 := agV7.tr ajV16 (by decide) (by decide)
      have fwV16 : frX (xR b) V V16 := frX.tr fwV7 (frX.ag ajV16 (by decide) (by decide))
      refine lv_aload_n hx hb dX1_readExpression_39 rfl (lv_at hl 1 rfl) ?_
      refine lv_iload_n hx hb dX1_readExpression_40 rfl (lv_at hl 2 rfl) ?_
      have pq18 : (V16 1 1).toInt = ((V 1 1)).toInt := congrArg Int32.toInt ((ajV16 1 1 rfl).trans (ajV7 1 1 rfl))
      have cd19 : CD V16 b := ⟨CB.ag t5.1 (show agr [(6, 8), (6, 9), (6, 10)] [] V7 V16 from (agr.tr agr.rf ajV16 (by decide) (by decide))) (fun _ => rfl) (fun _ => rfl), CO.ag t5.2 (show agr [(6, 8), (6, 9), (6, 10)] [] V7 V16 from (agr.tr agr.rf ajV16 (by decide) (by decide))) (fun _ => rfl) (fun _ => rfl)⟩
      refine gA_int (gA_runV (As := [.int p0]) (rest := []) (ci := 1) (q0 := 1) hx hb hml hown hg hP hD hK hS hA hnw hgk (hk_x_readSum H.size ad kk V16 L17 Z p0 (b) hMV16 (by first | omega | ((try (have i_cd := Imp.go cd (by omega))); omega)) (show b < 2 from by first | omega | ((try (have i_cd := Imp.go cd (by omega))); omega)) (show (V16 1 1).toInt = (b : Int) from by first | omega | ((try (have i_cd := Imp.go cd (by omega))); omega)) cd19 (show 8 - p0.toInt ≤ (dd : Int) from by first | omega | ((try (have i_cd := Imp.go cd (by omega))); omega))) w955 w957 w22 w162 w958 rfl xgReader hdV_yX1_readSum ⟨(by show 10 * dd + 8 + 1 ≤ 10 * dd + 9; omega), (by show 8 + (4 + 11) + (300 * dd + 210) ≤ 300 * dd + 240; omega)⟩ rfl hl.1 rfl (Nat.le_of_ble_eq_true rfl) dX1_readExpression_41 ⟨Nat.le_of_ble_eq_true rfl, Nat.le_of_ble_eq_true rfl⟩) hP hD hK hS hA (fun z20 u21 H locs w22 hP hD hK hS => ?_)
      obtain ⟨V25, L26⟩ := u21
      obtain ⟨hMV25, ajV25, axL26, fyV25, rgz20, t23, t24⟩ := w22
      have alL26 : agL [6, 44] L L26 := agL.tr alL17 axL26 (by decide)
      have hP : va_P D vwCl (xw ad kk V25 L26 Z) H := hP
      have hD : va_D A (xw ad kk V25 L26 Z) := hD
      have hMV25 : rgd bX V25 := hMV25
      have ajV25 : agr [(1, 3), (1, 6), (1, 8), (6, 8), (6, 9), (6, 10)] [42, 43, 44, 48] V16 V25 := ajV25
      have agV25 : agr [(1, 3), (1, 6), (1, 8), (6, 8), (6, 9), (6, 10)] [42, 43, 44, 48] V V25 := agV16.tr ajV25 (by decide) (by decide)
      have fwV25 : frX (xR b) V V25 := frX.tr fwV16 (fyV25)
      have rgz20 : 0 ≤ z20.toInt ∧ z20.toInt ≤ 1 := rgz20
      have t23 : CD V25 b := t23
      have t24 : px V16 V25 b := t24
      refine lv_if_ne (tgt := 49) hx hb dX1_readExpression_44 (by decide) (fun c27 => ?_) (fun c27 => ?_)
      · skip
        have f28 : z20.toInt ≠ 0 := b_neq rfl (by decide) c27
        refine lv_aload_n hx hb dX1_readExpression_49 rfl (lv_at hl 1 rfl) ?_
        refine va_get (D := D) (ci := 1) (v := rfN ad 38 (V25 1 1)) (fs := (xfReader ad V25 L26 Z)) (C := RX1) (T := TX1) (N := 9) hx hb hg inX1 hown hK hP 1 xgReader rfl 1 (by decide) (hg _ w305) (fun _ h9 => h9) rfl dX1_readExpression_50 ?_
        have pq29 : (V25 1 1).toInt = ((V 1 1)).toInt := congrArg Int32.toInt ((ajV25 1 1 rfl).trans ((ajV16 1 1 rfl).trans (ajV7 1 1 rfl)))
        refine g_topv (v := .ref (ad (38 + b))) (rfN_r (by first | omega | ((try (have i_cd := Imp.go cd (by omega))); omega))) ?_
        refine lv_iload_n hx hb dX1_readExpression_53 rfl (lv_at hl 0 rfl) ?_
        refine lv_bipush (v := 60) hx hb dX1_readExpression_54 (by decide) ?_
        refine lv_icmp_ne (tgt := 64) hx hb dX1_readExpression_56 (by decide) (fun c30 => ?_) (fun c30 => ?_)
        · skip
          have f31 : ((V7 6 9)).toInt ≠ 60 := b_neq rfl (by decide) c30
          exfalso; first | omega | ((try (have i_cd := Imp.go cd (by omega))); omega)
        · skip
          have f32 : ((V7 6 9)).toInt = 60 := b_eq rfl (by decide) c30
          refine lv_bipush (v := 8) hx hb dX1_readExpression_59 (by decide) ?_
          refine lv_goto (tgt := 66) hx hb dX1_readExpression_61 (by decide) ?_
          have r33 : Int32.toInt 8 = 8 := by decide
          refine gA_void (gA_runV (As := [.int 8]) (rest := []) (ci := 0) (q0 := (38 + b)) hx hb hml hown hg hP hD hK hS hA hnw hgk (x_emit l D ks H.size ad kk V25 L26 Z 8 (b) hMV25 (show b < 2 from by first | omega | ((try (have i_cd := Imp.go cd (by omega))); omega))) w971 w972 w973 w167 w974 rfl (xgBook hb2) hdV_yX0_emit ⟨(by show 0 + 1 ≤ 10 * dd + 9; omega), (by show 8 + (2 + 11) + (0) ≤ 300 * dd + 240; omega)⟩ rfl hl.1 rfl (Nat.le_of_ble_eq_true rfl) dX1_readExpression_66 ⟨Nat.le_of_ble_eq_true rfl, Nat.le_of_ble_eq_true rfl⟩) hP hD hK hS hA (fun u35 H locs w36 hP hD hK hS => ?_)
          obtain ⟨V38, L39⟩ := u35
          obtain ⟨hMV38, ajV38, axL39, fyV38, t37⟩ := w36
          have axL39 : L26 = L39 := Eq.symm axL39
          subst axL39
          have hP : va_P D vwCl (xw ad kk V38 L26 Z) H := hP
          have hD : va_D A (xw ad kk V38 L26 Z) := hD
          have hMV38 : rgd bX V38 := hMV38
          have ajV38 : agr [] [42, 48] V25 V38 := ajV38
          have agV38 : agr [(1, 3), (1, 6), (1, 8), (6, 8), (6, 9), (6, 10)] [42, 43, 44, 48] V V38 := agV25.tr ajV38 (by decide) (by decide)
          have fwV38 : frX (xR b) V V38 := frX.tr fwV25 (fyV38)
          have t37 : emX V25 V38 b 8 := t37
          refine lv_iconst (v := 1) hx hb dX1_readExpression_69 (by decide) ?_
          have cl40 : 0 ≤ (V25 42 b).toInt ∧ (V25 42 b).toInt ≤ 8200 := hMV25 42 b
          have cd41 : CD V38 b := ⟨CB.e1 t23.1 t37 (by omega) (by decide), CO.e1 t23.2 t37 (by decide) (by omega)⟩
          have px42 : px V V7 b := px.tr (px.rf : px V V b) t6
          have px43 : px V V16 b := px.tr px42 (px.ag (show agr [(6, 8), (6, 9), (6, 10)] [] V7 V16 from (agr.tr agr.rf ajV16 (by decide) (by decide))) (fun _ => rfl) (fun _ => rfl) (fun _ => rfl))
          have px44 : px V V25 b := px.tr px43 t24
          have px45 : px V V38 b := px.tr px44 ⟨emX.p0x t37, ajV38 43 _ rfl⟩
          exact W.zret (v := 1) hx hb hr rfl (fun t ht hW => ⟨⟨1, (V38, L26), rfl, ⟨hMV38, agV38, alL26, fwV38, (by decide), cd41, px45⟩, by rw [ht]; exact hP, va_K.moved hW.alike hK, hD⟩, hS.F ht⟩) hS.2.2 dX1_readExpression_70
      · skip
        have f46 : z20.toInt = 0 := b_eq rfl (by decide) c27
        refine lv_iconst (v := 0) hx hb dX1_readExpression_47 (by decide) ?_
        have px47 : px V V7 b := px.tr (px.rf : px V V b) t6
        have px48 : px V V16 b := px.tr px47 (px.ag (show agr [(6, 8), (6, 9), (6, 10)] [] V7 V16 from (agr.tr agr.rf ajV16 (by decide) (by decide))) (fun _ => rfl) (fun _ => rfl) (fun _ => rfl))
        have px49 : px V V25 b := px.tr px48 t24
        exact W.zret (v := 0) hx hb hr rfl (fun t ht hW => ⟨⟨0, (V25, L26), rfl, ⟨hMV25, agV25, alL26, fwV25, (by decide), t23, px49⟩, by rw [ht]; exact hP, va_K.moved hW.alike hK, hD⟩, hS.F ht⟩) hS.2.2 dX1_readExpression_48
    · skip
      have f50 : ((V7 6 9)).toInt ≠ 60 := b_neq rfl (by decide) c11
      refine lv_iload_n hx hb dX1_readExpression_24 rfl (lv_at hl 0 rfl) ?_
      refine lv_bipush (v := 61) hx hb dX1_readExpression_25 (by decide) ?_
      refine lv_icmp_eq (tgt := 32) hx hb dX1_readExpression_27 (by decide) (fun c51 => ?_) (fun c51 => ?_)
      · skip
        have f52 : ((V7 6 9)).toInt = 61 := b_eq rfl (by decide) c51
        refine lv_aload_n hx hb dX1_readExpression_32 rfl (lv_at hl 1 rfl) ?_
        refine va_get (D := D) (ci := 1) (v := .ref (ad 6)) (fs := (xfReader ad V7 L8 Z)) (C := RX1) (T := TX1) (N := 9) hx hb hg inX1 hown hK hP 1 xgReader rfl 0 (by decide) (hg _ w304) (fun _ h9 => h9) rfl dX1_readExpression_33 ?_
        refine gA_void (gA_runV (As := []) (rest := []) (ci := 9) (q0 := 6) hx hb hml hown hg hP hD hK hS hA hnw hgk (x_next l D ks H.size ad kk V7 L8 Z  hMV7 ) w871 w852 w853 w157 w854 rfl xgTape hdV_yX9_next ⟨(by show 0 + 1 ≤ 10 * dd + 9; omega), (by show 8 + (1 + 11) + (0) ≤ 300 * dd + 240; omega)⟩ rfl hl.1 rfl (Nat.le_of_ble_eq_true rfl) dX1_readExpression_36 ⟨Nat.le_of_ble_eq_true rfl, Nat.le_of_ble_eq_true rfl⟩) hP hD hK hS hA (fun u54 H locs w55 hP hD hK hS => ?_)
        obtain ⟨V56, L57⟩ := u54
        obtain ⟨hMV56, ajV56, axL57⟩ := w55
        have alL57 : agL [6, 44] L L57 := agL.tr alL8 axL57 (by decide)
        have hP : va_P D vwCl (xw ad kk V56 L57 Z) H := hP
        have hD : va_D A (xw ad kk V56 L57 Z) := hD
        have hMV56 : rgd bX V56 := hMV56
        have ajV56 : agr [(6, 8), (6, 9), (6, 10)] [] V7 V56 := ajV56
        have agV56 : agr [(1, 3), (1, 6), (1, 8), (6, 8), (6, 9), (6, 10)] [42, 43, 44, 48] V V56 := agV7.tr ajV56 (by decide) (by decide)
        have fwV56 : frX (xR b) V V56 := frX.tr fwV7 (frX.ag ajV56 (by decide) (by decide))
        refine lv_aload_n hx hb dX1_readExpression_39 rfl (lv_at hl 1 rfl) ?_
        refine lv_iload_n hx hb dX1_readExpression_40 rfl (lv_at hl 2 rfl) ?_
        have pq58 : (V56 1 1).toInt = ((V 1 1)).toInt := congrArg Int32.toInt ((ajV56 1 1 rfl).trans (ajV7 1 1 rfl))
        have cd59 : CD V56 b := ⟨CB.ag t5.1 (show agr [(6, 8), (6, 9), (6, 10)] [] V7 V56 from (agr.tr agr.rf ajV56 (by decide) (by decide))) (fun _ => rfl) (fun _ => rfl), CO.ag t5.2 (show agr [(6, 8), (6, 9), (6, 10)] [] V7 V56 from (agr.tr agr.rf ajV56 (by decide) (by decide))) (fun _ => rfl) (fun _ => rfl)⟩
        refine gA_int (gA_runV (As := [.int p0]) (rest := []) (ci := 1) (q0 := 1) hx hb hml hown hg hP hD hK hS hA hnw hgk (hk_x_readSum H.size ad kk V56 L57 Z p0 (b) hMV56 (by first | omega | ((try (have i_cd := Imp.go cd (by omega))); omega)) (show b < 2 from by first | omega | ((try (have i_cd := Imp.go cd (by omega))); omega)) (show (V56 1 1).toInt = (b : Int) from by first | omega | ((try (have i_cd := Imp.go cd (by omega))); omega)) cd59 (show 8 - p0.toInt ≤ (dd : Int) from by first | omega | ((try (have i_cd := Imp.go cd (by omega))); omega))) w955 w957 w22 w162 w958 rfl xgReader hdV_yX1_readSum ⟨(by show 10 * dd + 8 + 1 ≤ 10 * dd + 9; omega), (by show 8 + (4 + 11) + (300 * dd + 210) ≤ 300 * dd + 240; omega)⟩ rfl hl.1 rfl (Nat.le_of_ble_eq_true rfl) dX1_readExpression_41 ⟨Nat.le_of_ble_eq_true rfl, Nat.le_of_ble_eq_true rfl⟩) hP hD hK hS hA (fun z60 u61 H locs w62 hP hD hK hS => ?_)
        obtain ⟨V65, L66⟩ := u61
        obtain ⟨hMV65, ajV65, axL66, fyV65, rgz60, t63, t64⟩ := w62
        have alL66 : agL [6, 44] L L66 := agL.tr alL57 axL66 (by decide)
        have hP : va_P D vwCl (xw ad kk V65 L66 Z) H := hP
        have hD : va_D A (xw ad kk V65 L66 Z) := hD
        have hMV65 : rgd bX V65 := hMV65
        have ajV65 : agr [(1, 3), (1, 6), (1, 8), (6, 8), (6, 9), (6, 10)] [42, 43, 44, 48] V56 V65 := ajV65
        have agV65 : agr [(1, 3), (1, 6), (1, 8), (6, 8), (6, 9), (6, 10)] [42, 43, 44, 48] V V65 := agV56.tr ajV65 (by decide) (by decide)
        have fwV65 : frX (xR b) V V65 := frX.tr fwV56 (fyV65)
        have rgz60 : 0 ≤ z60.toInt ∧ z60.toInt ≤ 1 := rgz60
        have t63 : CD V65 b := t63
        have t64 : px V56 V65 b := t64
        refine lv_if_ne (tgt := 49) hx hb dX1_readExpression_44 (by decide) (fun c67 => ?_) (fun c67 => ?_)
        · skip
          have f68 : z60.toInt ≠ 0 := b_neq rfl (by decide) c67
          refine lv_aload_n hx hb dX1_readExpression_49 rfl (lv_at hl 1 rfl) ?_
          refine va_get (D := D) (ci := 1) (v := rfN ad 38 (V65 1 1)) (fs := (xfReader ad V65 L66 Z)) (C := RX1) (T := TX1) (N := 9) hx hb hg inX1 hown hK hP 1 xgReader rfl 1 (by decide) (hg _ w305) (fun _ h9 => h9) rfl dX1_readExpression_50 ?_
          have pq69 : (V65 1 1).toInt = ((V 1 1)).toInt := congrArg Int32.toInt ((ajV65 1 1 rfl).trans ((ajV56 1 1 rfl).trans (ajV7 1 1 rfl)))
          refine g_topv (v := .ref (ad (38 + b))) (rfN_r (by first | omega | ((try (have i_cd := Imp.go cd (by omega))); omega))) ?_
          refine lv_iload_n hx hb dX1_readExpression_53 rfl (lv_at hl 0 rfl) ?_
          refine lv_bipush (v := 60) hx hb dX1_readExpression_54 (by decide) ?_
          refine lv_icmp_ne (tgt := 64) hx hb dX1_readExpression_56 (by decide) (fun c70 => ?_) (fun c70 => ?_)
          · skip
            have f71 : ((V7 6 9)).toInt ≠ 60 := b_neq rfl (by decide) c70
            refine lv_bipush (v := 9) hx hb dX1_readExpression_64 (by decide) ?_
            have r72 : Int32.toInt 9 = 9 := by decide
            refine gA_void (gA_runV (As := [.int 9]) (rest := []) (ci := 0) (q0 := (38 + b)) hx hb hml hown hg hP hD hK hS hA hnw hgk (x_emit l D ks H.size ad kk V65 L66 Z 9 (b) hMV65 (show b < 2 from by first | omega | ((try (have i_cd := Imp.go cd (by omega))); omega))) w971 w972 w973 w167 w974 rfl (xgBook hb2) hdV_yX0_emit ⟨(by show 0 + 1 ≤ 10 * dd + 9; omega), (by show 8 + (2 + 11) + (0) ≤ 300 * dd + 240; omega)⟩ rfl hl.1 rfl (Nat.le_of_ble_eq_true rfl) dX1_readExpression_66 ⟨Nat.le_of_ble_eq_true rfl, Nat.le_of_ble_eq_true rfl⟩) hP hD hK hS hA (fun u74 H locs w75 hP hD hK hS => ?_)
            obtain ⟨V77, L78⟩ := u74
            obtain ⟨hMV77, ajV77, axL78, fyV77, t76⟩ := w75
            have axL78 : L66 = L78 := Eq.symm axL78
            subst axL78
            have hP : va_P D vwCl (xw ad kk V77 L66 Z) H := hP
            have hD : va_D A (xw ad kk V77 L66 Z) := hD
            have hMV77 : rgd bX V77 := hMV77
            have ajV77 : agr [] [42, 48] V65 V77 := ajV77
            have agV77 : agr [(1, 3), (1, 6), (1, 8), (6, 8), (6, 9), (6, 10)] [42, 43, 44, 48] V V77 := agV65.tr ajV77 (by decide) (by decide)
            have fwV77 : frX (xR b) V V77 := frX.tr fwV65 (fyV77)
            have t76 : emX V65 V77 b 9 := t76
            refine lv_iconst (v := 1) hx hb dX1_readExpression_69 (by decide) ?_
            have cl79 : 0 ≤ (V65 42 b).toInt ∧ (V65 42 b).toInt ≤ 8200 := hMV65 42 b
            have cd80 : CD V77 b := ⟨CB.e1 t63.1 t76 (by omega) (by decide), CO.e1 t63.2 t76 (by decide) (by omega)⟩
            have px81 : px V V7 b := px.tr (px.rf : px V V b) t6
            have px82 : px V V56 b := px.tr px81 (px.ag (show agr [(6, 8), (6, 9), (6, 10)] [] V7 V56 from (agr.tr agr.rf ajV56 (by decide) (by decide))) (fun _ => rfl) (fun _ => rfl) (fun _ => rfl))
            have px83 : px V V65 b := px.tr px82 t64
            have px84 : px V V77 b := px.tr px83 ⟨emX.p0x t76, ajV77 43 _ rfl⟩
            exact W.zret (v := 1) hx hb hr rfl (fun t ht hW => ⟨⟨1, (V77, L66), rfl, ⟨hMV77, agV77, alL66, fwV77, (by decide), cd80, px84⟩, by rw [ht]; exact hP, va_K.moved hW.alike hK, hD⟩, hS.F ht⟩) hS.2.2 dX1_readExpression_70
          · skip
            have f85 : ((V7 6 9)).toInt = 60 := b_eq rfl (by decide) c70
            exfalso; first | omega | ((try (have i_cd := Imp.go cd (by omega))); omega)
        · skip
          have f86 : z60.toInt = 0 := b_eq rfl (by decide) c67
          refine lv_iconst (v := 0) hx hb dX1_readExpression_47 (by decide) ?_
          have px87 : px V V7 b := px.tr (px.rf : px V V b) t6
          have px88 : px V V56 b := px.tr px87 (px.ag (show agr [(6, 8), (6, 9), (6, 10)] [] V7 V56 from (agr.tr agr.rf ajV56 (by decide) (by decide))) (fun _ => rfl) (fun _ => rfl) (fun _ => rfl))
          have px89 : px V V65 b := px.tr px88 t64
          exact W.zret (v := 0) hx hb hr rfl (fun t ht hW => ⟨⟨0, (V65, L66), rfl, ⟨hMV65, agV65, alL66, fwV65, (by decide), t63, px89⟩, by rw [ht]; exact hP, va_K.moved hW.alike hK, hD⟩, hS.F ht⟩) hS.2.2 dX1_readExpression_48
      · skip
        have f90 : ((V7 6 9)).toInt ≠ 61 := b_neq rfl (by decide) c51
        refine lv_iconst (v := 1) hx hb dX1_readExpression_30 (by decide) ?_
        have px91 : px V V7 b := px.tr (px.rf : px V V b) t6
        exact W.zret (v := 1) hx hb hr rfl (fun t ht hW => ⟨⟨1, (V7, L8), rfl, ⟨hMV7, agV7, alL8, fwV7, (by decide), t5, px91⟩, by rw [ht]; exact hP, va_K.moved hW.alike hK, hD⟩, hS.F ht⟩) hS.2.2 dX1_readExpression_31
  · skip
    have f92 : z2.toInt = 0 := b_eq rfl (by decide) c9
    refine lv_iconst (v := 0) hx hb dX1_readExpression_8 (by decide) ?_
    have px93 : px V V7 b := px.tr (px.rf : px V V b) t6
    exact W.zret (v := 0) hx hb hr rfl (fun t ht hW => ⟨⟨0, (V7, L8), rfl, ⟨hMV7, agV7, alL8, fwV7, (by decide), t5, px93⟩, by rw [ht]; exact hP, va_K.moved hW.alike hK, hD⟩, hS.F ht⟩) hS.2.2 dX1_readExpression_9
set_option maxHeartbeats 4000000 in
set_option maxRecDepth 100000 in
theorem x_readSum {l : Launch} {D : va_G} {ks : KS} {dd : Nat} (hk_x_readProduct : K_x_readProduct l D ks dd) : K_x_readSum l D ks dd := by
  intro sz ad kk V L Z p0 b hMV rg_p0 hb2 rbk cd y1
  refine g_met (q_x_readSum D ks ad kk V L Z p0 b) (by decide) (Nat.le_of_ble_eq_true rfl) ?_
  intro p e s m below meth c A ls H locs hx hb hr hml hown hg hlocks hin hnw hgk hP hK hD hS hA hl
  have hown : s.vm.findClass RX1 = some m.cls := hown
  have hl : lv_has ls 4 [(0, .ref (ad 1)), (1, .int p0)] := hl
  have hP : va_P D vwCl (xw ad kk V L Z) H := hP
  have hD : va_D A (xw ad kk V L Z) := hD
  have hK : va_K D vwCl (xty kk Z) s := hK
  have agV : agr [(1, 3), (1, 6), (1, 8), (6, 8), (6, 9), (6, 10)] [42, 43, 44, 48] V V := agr.rf
  have alL : agL [6, 44] L L := agL.rf
  have fwV : frX (xR b) V V := frX.rf
  have r1 : (-1) ≤ ((V 1 1)).toInt ∧ ((V 1 1)).toInt ≤ 1 := hMV 1 1
  refine lv_aload_n hx hb dX1_readSum_0 rfl (lv_at hl 0 rfl) ?_
  refine lv_iload_n hx hb dX1_readSum_1 rfl (lv_at hl 1 rfl) ?_
  refine gA_int (gA_runV (As := [.int p0]) (rest := []) (ci := 1) (q0 := 1) hx hb hml hown hg hP hD hK hS hA hnw hgk (hk_x_readProduct H.size ad kk V L Z p0 (b) hMV (by first | omega | ((try (have i_cd := Imp.go cd (by omega))); omega)) (show b < 2 from by first | omega | ((try (have i_cd := Imp.go cd (by omega))); omega)) (show (V 1 1).toInt = (b : Int) from by first | omega | ((try (have i_cd := Imp.go cd (by omega))); omega)) cd (show 8 - p0.toInt ≤ (dd : Int) from by first | omega | ((try (have i_cd := Imp.go cd (by omega))); omega))) w959 w961 w23 w162 w962 rfl xgReader hdV_yX1_readProduct ⟨(by show 10 * dd + 7 + 1 ≤ 10 * dd + 8; omega), (by show 8 + (3 + 11) + (300 * dd + 180) ≤ 300 * dd + 210; omega)⟩ rfl hl.1 rfl (Nat.le_of_ble_eq_true rfl) dX1_readSum_2 ⟨Nat.le_of_ble_eq_true rfl, Nat.le_of_ble_eq_true rfl⟩) hP hD hK hS hA (fun z2 u3 H locs w4 hP hD hK hS => ?_)
  obtain ⟨V7, L8⟩ := u3
  obtain ⟨hMV7, ajV7, axL8, fyV7, rgz2, t5, t6⟩ := w4
  have alL8 : agL [6, 44] L L8 := agL.tr alL axL8 (by decide)
  have hP : va_P D vwCl (xw ad kk V7 L8 Z) H := hP
  have hD : va_D A (xw ad kk V7 L8 Z) := hD
  have hMV7 : rgd bX V7 := hMV7
  have ajV7 : agr [(1, 3), (1, 6), (1, 8), (6, 8), (6, 9), (6, 10)] [42, 43, 44, 48] V V7 := ajV7
  have agV7 : agr [(1, 3), (1, 6), (1, 8), (6, 8), (6, 9), (6, 10)] [42, 43, 44, 48] V V7 := agV.tr ajV7 (by decide) (by decide)
  have fwV7 : frX (xR b) V V7 := frX.tr fwV (fyV7)
  have rgz2 : 0 ≤ z2.toInt ∧ z2.toInt ≤ 1 := rgz2
  have t5 : CD V7 b := t5
  have t6 : px V V7 b := t6
  refine lv_if_ne (tgt := 10) hx hb dX1_readSum_5 (by decide) (fun c9 => ?_) (fun c9 => ?_)
  · skip
    have f10 : z2.toInt ≠ 0 := b_neq rfl (by decide) c9
    refine lv_iconst (v := 0) hx hb dX1_readSum_10 (by decide) ?_
    refine lv_istore_n (lv' := [(2, .int 0), (0, .ref (ad 1)), (1, .int p0)]) hx hb dX1_readSum_11 rfl hl (by decide) rfl (fun ls hl => ?_)
    have lp14 : ∀ (fulp14 : Nat) (y11 : Int32) (V12 : Vf) (L13 : Lf) (H : Heap) (locs : List Loc) (ls : Array Slot), 0 ≤ y11.toInt ∧ y11.toInt ≤ 4000 → CD V12 b → px V V12 b → 4000 - y11.toInt < (fulp14 : Int) → agL [6, 44] L L13 → agr [(1, 3), (1, 6), (1, 8), (6, 8), (6, 9), (6, 10)] [42, 43, 44, 48] V7 V12 → rgd bX V12 → frX (xR b) V V12 → va_P D vwCl (xw ad kk V12 L13 Z) H → va_D A (xw ad kk V12 L13 Z) → va_S A s.heap H locs → lv_has ls 4 [(2, .int y11), (0, .ref (ad 1)), (1, .int p0)] → W p l e (rK 8 210 dd) s m ([.ref (ad 1), .int p0] : List Value).toArray below meth c H locs 0 0 (MQ below (q_x_readSum D ks ad kk V L Z p0 b A) ([.ref (ad 1), .int p0] : List Value).toArray s 0 0 A) (F0 m 12 ls []) := by
      intro fulp14
      induction fulp14 with
      | zero =>
        intro y11 V12 L13 H locs ls klp14_0 xlp14_0 xlp14_1 hn alL13 ajV12 hMV12 fwV12 hP hD hS hl
        exfalso; omega
      | succ fulp14 ihlp14 =>
        intro y11 V12 L13 H locs ls klp14_0 xlp14_0 xlp14_1 hn alL13 ajV12 hMV12 fwV12 hP hD hS hl
        have agV12 : agr [(1, 3), (1, 6), (1, 8), (6, 8), (6, 9), (6, 10)] [42, 43, 44, 48] V V12 := agV7.tr ajV12 (by decide) (by decide)
        refine lv_iload_n hx hb dX1_readSum_12 rfl (lv_at hl 0 rfl) ?_
        refine lv_sipush (v := 4000) hx hb dX1_readSum_13 (by decide) ?_
        refine lv_icmp_ge (tgt := 93) hx hb dX1_readSum_16 (by decide) (fun c15 => ?_) (fun c15 => ?_)
        · skip
          have f16 : 4000 ≤ y11.toInt := b_le (by decide) rfl c15
          refine lv_iconst (v := 1) hx hb dX1_readSum_93 (by decide) ?_
          exact W.zret (v := 1) hx hb hr rfl (fun t ht hW => ⟨⟨1, (V12, L13), rfl, ⟨hMV12, agV12, alL13, fwV12, (by decide), xlp14_0, xlp14_1⟩, by rw [ht]; exact hP, va_K.moved hW.alike hK, hD⟩, hS.F ht⟩) hS.2.2 dX1_readSum_94
        · skip
          have f17 : y11.toInt < 4000 := b_nle (by decide) rfl c15
          refine lv_aload_n hx hb dX1_readSum_19 rfl (lv_at hl 1 rfl) ?_
          refine va_get (D := D) (ci := 1) (v := .ref (ad 6)) (fs := (xfReader ad V12 L13 Z)) (C := RX1) (T := TX1) (N := 9) hx hb hg inX1 hown hK hP 1 xgReader rfl 0 (by decide) (hg _ w304) (fun _ h9 => h9) rfl dX1_readSum_20 ?_
          refine va_getN (D := D) (ci := 9) (v := .int (V12 6 9)) (fs := (xfTape ad V12 L13 Z)) (C := RX9) (T := TX9) (N := 12) hx hb hg inX9 hown hK hP 6 xgTape rfl 9 (by decide) (hnw.use 262 n262 rfl) (fun _ h9 => h9) rfl dX1_readSum_23 ?_
          refine lv_bipush (v := 43) hx hb dX1_readSum_26 (by decide) ?_
          refine lv_icmp_eq (tgt := 43) hx hb dX1_readSum_28 (by decide) (fun c18 => ?_) (fun c18 => ?_)
          · skip
            have f19 : ((V12 6 9)).toInt = 43 := b_eq rfl (by decide) c18
            refine lv_aload_n hx hb dX1_readSum_43 rfl (lv_at hl 1 rfl) ?_
            refine va_get (D := D) (ci := 1) (v := .ref (ad 6)) (fs := (xfReader ad V12 L13 Z)) (C := RX1) (T := TX1) (N := 9) hx hb hg inX1 hown hK hP 1 xgReader rfl 0 (by decide) (hg _ w304) (fun _ h9 => h9) rfl dX1_readSum_44 ?_
            refine va_getN (D := D) (ci := 9) (v := .int (V12 6 9)) (fs := (xfTape ad V12 L13 Z)) (C := RX9) (T := TX9) (N := 12) hx hb hg inX9 hown hK hP 6 xgTape rfl 9 (by decide) (hnw.use 262 n262 rfl) (fun _ h9 => h9) rfl dX1_readSum_47 ?_
            refine lv_bipush (v := 43) hx hb dX1_readSum_50 (by decide) ?_
            refine lv_icmp_ne (tgt := 59) hx hb dX1_readSum_52 (by decide) (fun c20 => ?_) (fun c20 => ?_)
            · skip
              have f21 : ((V12 6 9)).toInt ≠ 43 := b_neq rfl (by decide) c20
              exfalso; first | omega | ((try (have i_cd := Imp.go cd (by omega))); omega)
            · skip
              have f22 : ((V12 6 9)).toInt = 43 := b_eq rfl (by decide) c20
              refine lv_iconst (v := 5) hx hb dX1_readSum_55 (by decide) ?_
              refine lv_goto (tgt := 61) hx hb dX1_readSum_56 (by decide) ?_
              refine lv_istore_n (lv' := [(3, .int 5), (2, .int y11), (0, .ref (ad 1)), (1, .int p0)]) hx hb dX1_readSum_61 rfl hl (by decide) rfl (fun ls hl => ?_)
              refine lv_aload_n hx hb dX1_readSum_62 rfl (lv_at hl 2 rfl) ?_
              refine va_get (D := D) (ci := 1) (v := .ref (ad 6)) (fs := (xfReader ad V12 L13 Z)) (C := RX1) (T := TX1) (N := 9) hx hb hg inX1 hown hK hP 1 xgReader rfl 0 (by decide) (hg _ w304) (fun _ h9 => h9) rfl dX1_readSum_63 ?_
              refine gA_void (gA_runV (As := []) (rest := []) (ci := 9) (q0 := 6) hx hb hml hown hg hP hD hK hS hA hnw hgk (x_next l D ks H.size ad kk V12 L13 Z  hMV12 ) w871 w852 w853 w157 w854 rfl xgTape hdV_yX9_next ⟨(by show 0 + 1 ≤ 10 * dd + 8; omega), (by show 8 + (1 + 11) + (0) ≤ 300 * dd + 210; omega)⟩ rfl hl.1 rfl (Nat.le_of_ble_eq_true rfl) dX1_readSum_66 ⟨Nat.le_of_ble_eq_true rfl, Nat.le_of_ble_eq_true rfl⟩) hP hD hK hS hA (fun u24 H locs w25 hP hD hK hS => ?_)
              obtain ⟨V26, L27⟩ := u24
              obtain ⟨hMV26, ajV26, axL27⟩ := w25
              have alL27 : agL [6, 44] L L27 := agL.tr alL13 axL27 (by decide)
              have hP : va_P D vwCl (xw ad kk V26 L27 Z) H := hP
              have hD : va_D A (xw ad kk V26 L27 Z) := hD
              have hMV26 : rgd bX V26 := hMV26
              have ajV26 : agr [(6, 8), (6, 9), (6, 10)] [] V12 V26 := ajV26
              have agV26 : agr [(1, 3), (1, 6), (1, 8), (6, 8), (6, 9), (6, 10)] [42, 43, 44, 48] V V26 := agV12.tr ajV26 (by decide) (by decide)
              have fwV26 : frX (xR b) V V26 := frX.tr fwV12 (frX.ag ajV26 (by decide) (by decide))
              refine lv_aload_n hx hb dX1_readSum_69 rfl (lv_at hl 2 rfl) ?_
              refine lv_iload_n hx hb dX1_readSum_70 rfl (lv_at hl 3 rfl) ?_
              have pq28 : (V26 1 1).toInt = ((V 1 1)).toInt := congrArg Int32.toInt ((ajV26 1 1 rfl).trans ((ajV12 1 1 rfl).trans (ajV7 1 1 rfl)))
              have cd29 : CD V26 b := ⟨CB.ag xlp14_0.1 (show agr [(6, 8), (6, 9), (6, 10)] [] V12 V26 from (agr.tr agr.rf ajV26 (by decide) (by decide))) (fun _ => rfl) (fun _ => rfl), CO.ag xlp14_0.2 (show agr [(6, 8), (6, 9), (6, 10)] [] V12 V26 from (agr.tr agr.rf ajV26 (by decide) (by decide))) (fun _ => rfl) (fun _ => rfl)⟩
              refine gA_int (gA_runV (As := [.int p0]) (rest := []) (ci := 1) (q0 := 1) hx hb hml hown hg hP hD hK hS hA hnw hgk (hk_x_readProduct H.size ad kk V26 L27 Z p0 (b) hMV26 (by first | omega | ((try (have i_cd := Imp.go cd (by omega))); omega)) (show b < 2 from by first | omega | ((try (have i_cd := Imp.go cd (by omega))); omega)) (show (V26 1 1).toInt = (b : Int) from by first | omega | ((try (have i_cd := Imp.go cd (by omega))); omega)) cd29 (show 8 - p0.toInt ≤ (dd : Int) from by first | omega | ((try (have i_cd := Imp.go cd (by omega))); omega))) w959 w961 w23 w162 w962 rfl xgReader hdV_yX1_readProduct ⟨(by show 10 * dd + 7 + 1 ≤ 10 * dd + 8; omega), (by show 8 + (3 + 11) + (300 * dd + 180) ≤ 300 * dd + 210; omega)⟩ rfl hl.1 rfl (Nat.le_of_ble_eq_true rfl) dX1_readSum_71 ⟨Nat.le_of_ble_eq_true rfl, Nat.le_of_ble_eq_true rfl⟩) hP hD hK hS hA (fun z30 u31 H locs w32 hP hD hK hS => ?_)
              obtain ⟨V35, L36⟩ := u31
              obtain ⟨hMV35, ajV35, axL36, fyV35, rgz30, t33, t34⟩ := w32
              have alL36 : agL [6, 44] L L36 := agL.tr alL27 axL36 (by decide)
              have hP : va_P D vwCl (xw ad kk V35 L36 Z) H := hP
              have hD : va_D A (xw ad kk V35 L36 Z) := hD
              have hMV35 : rgd bX V35 := hMV35
              have ajV35 : agr [(1, 3), (1, 6), (1, 8), (6, 8), (6, 9), (6, 10)] [42, 43, 44, 48] V26 V35 := ajV35
              have agV35 : agr [(1, 3), (1, 6), (1, 8), (6, 8), (6, 9), (6, 10)] [42, 43, 44, 48] V V35 := agV26.tr ajV35 (by decide) (by decide)
              have fwV35 : frX (xR b) V V35 := frX.tr fwV26 (fyV35)
              have rgz30 : 0 ≤ z30.toInt ∧ z30.toInt ≤ 1 := rgz30
              have t33 : CD V35 b := t33
              have t34 : px V26 V35 b := t34
              refine lv_if_ne (tgt := 79) hx hb dX1_readSum_74 (by decide) (fun c37 => ?_) (fun c37 => ?_)
              · skip
                have f38 : z30.toInt ≠ 0 := b_neq rfl (by decide) c37
                refine lv_aload_n hx hb dX1_readSum_79 rfl (lv_at hl 2 rfl) ?_
                refine va_get (D := D) (ci := 1) (v := rfN ad 38 (V35 1 1)) (fs := (xfReader ad V35 L36 Z)) (C := RX1) (T := TX1) (N := 9) hx hb hg inX1 hown hK hP 1 xgReader rfl 1 (by decide) (hg _ w305) (fun _ h9 => h9) rfl dX1_readSum_80 ?_
                have pq39 : (V35 1 1).toInt = ((V 1 1)).toInt := congrArg Int32.toInt ((ajV35 1 1 rfl).trans ((ajV26 1 1 rfl).trans ((ajV12 1 1 rfl).trans (ajV7 1 1 rfl))))
                refine g_topv (v := .ref (ad (38 + b))) (rfN_r (by first | omega | ((try (have i_cd := Imp.go cd (by omega))); omega))) ?_
                refine lv_iload_n hx hb dX1_readSum_83 rfl (lv_at hl 0 rfl) ?_
                have r40 : Int32.toInt 5 = 5 := by decide
                refine gA_void (gA_runV (As := [.int 5]) (rest := []) (ci := 0) (q0 := (38 + b)) hx hb hml hown hg hP hD hK hS hA hnw hgk (x_emit l D ks H.size ad kk V35 L36 Z 5 (b) hMV35 (show b < 2 from by first | omega | ((try (have i_cd := Imp.go cd (by omega))); omega))) w971 w972 w973 w167 w974 rfl (xgBook hb2) hdV_yX0_emit ⟨(by show 0 + 1 ≤ 10 * dd + 8; omega), (by show 8 + (2 + 11) + (0) ≤ 300 * dd + 210; omega)⟩ rfl hl.1 rfl (Nat.le_of_ble_eq_true rfl) dX1_readSum_84 ⟨Nat.le_of_ble_eq_true rfl, Nat.le_of_ble_eq_true rfl⟩) hP hD hK hS hA (fun u42 H locs w43 hP hD hK hS => ?_)
                obtain ⟨V45, L46⟩ := u42
                obtain ⟨hMV45, ajV45, axL46, fyV45, t44⟩ := w43
                have axL46 : L36 = L46 := Eq.symm axL46
                subst axL46
                have hP : va_P D vwCl (xw ad kk V45 L36 Z) H := hP
                have hD : va_D A (xw ad kk V45 L36 Z) := hD
                have hMV45 : rgd bX V45 := hMV45
                have ajV45 : agr [] [42, 48] V35 V45 := ajV45
                have agV45 : agr [(1, 3), (1, 6), (1, 8), (6, 8), (6, 9), (6, 10)] [42, 43, 44, 48] V V45 := agV35.tr ajV45 (by decide) (by decide)
                have fwV45 : frX (xR b) V V45 := frX.tr fwV35 (fyV45)
                have t44 : emX V35 V45 b 5 := t44
                obtain ⟨z47, ez47⟩ : ∃ y : Int32, y = y11 + 1 := ⟨_, rfl⟩
                have hz47 : z47.toInt = y11.toInt + 1 := i_add ez47 rfl (by decide) (by omega)
                refine lv_iinc (v := z47) (lv' := [(2, .int z47), (3, .int 5), (0, .ref (ad 1)), (1, .int p0)]) hx hb dX1_readSum_87 hl (k := 1) rfl (by rw [ez47]; rfl) (by decide) rfl (fun ls hl => ?_)
                refine lv_goto (tgt := 12) hx hb dX1_readSum_90 (by decide) ?_
                have cl48 : 0 ≤ (V35 42 b).toInt ∧ (V35 42 b).toInt ≤ 8200 := hMV35 42 b
                have cd49 : CD V45 b := ⟨CB.e1 t33.1 t44 (by omega) (by decide), CO.e1 t33.2 t44 (by decide) (by omega)⟩
                have px50 : px V V26 b := px.tr xlp14_1 (px.ag (show agr [(6, 8), (6, 9), (6, 10)] [] V12 V26 from (agr.tr agr.rf ajV26 (by decide) (by decide))) (fun _ => rfl) (fun _ => rfl) (fun _ => rfl))
                have px51 : px V V35 b := px.tr px50 t34
                have px52 : px V V45 b := px.tr px51 ⟨emX.p0x t44, ajV45 43 _ rfl⟩
                exact ihlp14 z47 V45 L36 H locs ls (by first | omega | ((try (have i_cd := Imp.go cd (by omega))); omega)) cd49 px52 (by first | omega | ((try (have i_cd := Imp.go cd (by omega))); omega)) alL36 (agr.tr (agr.tr (agr.tr (agr.tr agr.rf ajV12 (by decide) (by decide)) ajV26 (by decide) (by decide)) ajV35 (by decide) (by decide)) ajV45 (by decide) (by decide)) hMV45 fwV45 hP hD hS (lv_sub hl [0, 2, 3] rfl)
              · skip
                have f53 : z30.toInt = 0 := b_eq rfl (by decide) c37
                refine lv_iconst (v := 0) hx hb dX1_readSum_77 (by decide) ?_
                have px54 : px V V26 b := px.tr xlp14_1 (px.ag (show agr [(6, 8), (6, 9), (6, 10)] [] V12 V26 from (agr.tr agr.rf ajV26 (by decide) (by decide))) (fun _ => rfl) (fun _ => rfl) (fun _ => rfl))
                have px55 : px V V35 b := px.tr px54 t34
                exact W.zret (v := 0) hx hb hr rfl (fun t ht hW => ⟨⟨0, (V35, L36), rfl, ⟨hMV35, agV35, alL36, fwV35, (by decide), t33, px55⟩, by rw [ht]; exact hP, va_K.moved hW.alike hK, hD⟩, hS.F ht⟩) hS.2.2 dX1_readSum_78
          · skip
            have f56 : ((V12 6 9)).toInt ≠ 43 := b_neq rfl (by decide) c18
            refine lv_aload_n hx hb dX1_readSum_31 rfl (lv_at hl 1 rfl) ?_
            refine va_get (D := D) (ci := 1) (v := .ref (ad 6)) (fs := (xfReader ad V12 L13 Z)) (C := RX1) (T := TX1) (N := 9) hx hb hg inX1 hown hK hP 1 xgReader rfl 0 (by decide) (hg _ w304) (fun _ h9 => h9) rfl dX1_readSum_32 ?_
            refine va_getN (D := D) (ci := 9) (v := .int (V12 6 9)) (fs := (xfTape ad V12 L13 Z)) (C := RX9) (T := TX9) (N := 12) hx hb hg inX9 hown hK hP 6 xgTape rfl 9 (by decide) (hnw.use 262 n262 rfl) (fun _ h9 => h9) rfl dX1_readSum_35 ?_
            refine lv_bipush (v := 45) hx hb dX1_readSum_38 (by decide) ?_
            refine lv_icmp_ne (tgt := 93) hx hb dX1_readSum_40 (by decide) (fun c57 => ?_) (fun c57 => ?_)
            · skip
              have f58 : ((V12 6 9)).toInt ≠ 45 := b_neq rfl (by decide) c57
              refine lv_iconst (v := 1) hx hb dX1_readSum_93 (by decide) ?_
              exact W.zret (v := 1) hx hb hr rfl (fun t ht hW => ⟨⟨1, (V12, L13), rfl, ⟨hMV12, agV12, alL13, fwV12, (by decide), xlp14_0, xlp14_1⟩, by rw [ht]; exact hP, va_K.moved hW.alike hK, hD⟩, hS.F ht⟩) hS.2.2 dX1_readSum_94
            · skip
              have f59 : ((V12 6 9)).toInt = 45 := b_eq rfl (by decide) c57
              refine lv_aload_n hx hb dX1_readSum_43 rfl (lv_at hl 1 rfl) ?_
              refine va_get (D := D) (ci := 1) (v := .ref (ad 6)) (fs := (xfReader ad V12 L13 Z)) (C := RX1) (T := TX1) (N := 9) hx hb hg inX1 hown hK hP 1 xgReader rfl 0 (by decide) (hg _ w304) (fun _ h9 => h9) rfl dX1_readSum_44 ?_
              refine va_getN (D := D) (ci := 9) (v := .int (V12 6 9)) (fs := (xfTape ad V12 L13 Z)) (C := RX9) (T := TX9) (N := 12) hx hb hg inX9 hown hK hP 6 xgTape rfl 9 (by decide) (hnw.use 262 n262 rfl) (fun _ h9 => h9) rfl dX1_readSum_47 ?_
              refine lv_bipush (v := 43) hx hb dX1_readSum_50 (by decide) ?_
              refine lv_icmp_ne (tgt := 59) hx hb dX1_readSum_52 (by decide) (fun c60 => ?_) (fun c60 => ?_)
              · skip
                have f61 : ((V12 6 9)).toInt ≠ 43 := b_neq rfl (by decide) c60
                refine lv_bipush (v := 6) hx hb dX1_readSum_59 (by decide) ?_
                refine lv_istore_n (lv' := [(3, .int 6), (2, .int y11), (0, .ref (ad 1)), (1, .int p0)]) hx hb dX1_readSum_61 rfl hl (by decide) rfl (fun ls hl => ?_)
                refine lv_aload_n hx hb dX1_readSum_62 rfl (lv_at hl 2 rfl) ?_
                refine va_get (D := D) (ci := 1) (v := .ref (ad 6)) (fs := (xfReader ad V12 L13 Z)) (C := RX1) (T := TX1) (N := 9) hx hb hg inX1 hown hK hP 1 xgReader rfl 0 (by decide) (hg _ w304) (fun _ h9 => h9) rfl dX1_readSum_63 ?_
                refine gA_void (gA_runV (As := []) (rest := []) (ci := 9) (q0 := 6) hx hb hml hown hg hP hD hK hS hA hnw hgk (x_next l D ks H.size ad kk V12 L13 Z  hMV12 ) w871 w852 w853 w157 w854 rfl xgTape hdV_yX9_next ⟨(by show 0 + 1 ≤ 10 * dd + 8; omega), (by show 8 + (1 + 11) + (0) ≤ 300 * dd + 210; omega)⟩ rfl hl.1 rfl (Nat.le_of_ble_eq_true rfl) dX1_readSum_66 ⟨Nat.le_of_ble_eq_true rfl, Nat.le_of_ble_eq_true rfl⟩) hP hD hK hS hA (fun u63 H locs w64 hP hD hK hS => ?_)
                obtain ⟨V65, L66⟩ := u63
                obtain ⟨hMV65, ajV65, axL66⟩ := w64
                have alL66 : agL [6, 44] L L66 := agL.tr alL13 axL66 (by decide)
                have hP : va_P D vwCl (xw ad kk V65 L66 Z) H := hP
                have hD : va_D A (xw ad kk V65 L66 Z) := hD
                have hMV65 : rgd bX V65 := hMV65
                have ajV65 : agr [(6, 8), (6, 9), (6, 10)] [] V12 V65 := ajV65
                have agV65 : agr [(1, 3), (1, 6), (1, 8), (6, 8), (6, 9), (6, 10)] [42, 43, 44, 48] V V65 := agV12.tr ajV65 (by decide) (by decide)
                have fwV65 : frX (xR b) V V65 := frX.tr fwV12 (frX.ag ajV65 (by decide) (by decide))
                refine lv_aload_n hx hb dX1_readSum_69 rfl (lv_at hl 2 rfl) ?_
                refine lv_iload_n hx hb dX1_readSum_70 rfl (lv_at hl 3 rfl) ?_
                have pq67 : (V65 1 1).toInt = ((V 1 1)).toInt := congrArg Int32.toInt ((ajV65 1 1 rfl).trans ((ajV12 1 1 rfl).trans (ajV7 1 1 rfl)))
                have cd68 : CD V65 b := ⟨CB.ag xlp14_0.1 (show agr [(6, 8), (6, 9), (6, 10)] [] V12 V65 from (agr.tr agr.rf ajV65 (by decide) (by decide))) (fun _ => rfl) (fun _ => rfl), CO.ag xlp14_0.2 (show agr [(6, 8), (6, 9), (6, 10)] [] V12 V65 from (agr.tr agr.rf ajV65 (by decide) (by decide))) (fun _ => rfl) (fun _ => rfl)⟩
                refine gA_int (gA_runV (As := [.int p0]) (rest := []) (ci := 1) (q0 := 1) hx hb hml hown hg hP hD hK hS hA hnw hgk (hk_x_readProduct H.size ad kk V65 L66 Z p0 (b) hMV65 (by first | omega | ((try (have i_cd := Imp.go cd (by omega))); omega)) (show b < 2 from by first | omega | ((try (have i_cd := Imp.go cd (by omega))); omega)) (show (V65 1 1).toInt = (b : Int) from by first | omega | ((try (have i_cd := Imp.go cd (by omega))); omega)) cd68 (show 8 - p0.toInt ≤ (dd : Int) from by first | omega | ((try (have i_cd := Imp.go cd (by omega))); omega))) w959 w961 w23 w162 w962 rfl xgReader hdV_yX1_readProduct ⟨(by show 10 * dd + 7 + 1 ≤ 10 * dd + 8; omega), (by show 8 + (3 + 11) + (300 * dd + 180) ≤ 300 * dd + 210; omega)⟩ rfl hl.1 rfl (Nat.le_of_ble_eq_true rfl) dX1_readSum_71 ⟨Nat.le_of_ble_eq_true rfl, Nat.le_of_ble_eq_true rfl⟩) hP hD hK hS hA (fun z69 u70 H locs w71 hP hD hK hS => ?_)
                obtain ⟨V74, L75⟩ := u70
                obtain ⟨hMV74, ajV74, axL75, fyV74, rgz69, t72, t73⟩ := w71
                have alL75 : agL [6, 44] L L75 := agL.tr alL66 axL75 (by decide)
                have hP : va_P D vwCl (xw ad kk V74 L75 Z) H := hP
                have hD : va_D A (xw ad kk V74 L75 Z) := hD
                have hMV74 : rgd bX V74 := hMV74
                have ajV74 : agr [(1, 3), (1, 6), (1, 8), (6, 8), (6, 9), (6, 10)] [42, 43, 44, 48] V65 V74 := ajV74
                have agV74 : agr [(1, 3), (1, 6), (1, 8), (6, 8), (6, 9), (6, 10)] [42, 43, 44, 48] V V74 := agV65.tr ajV74 (by decide) (by decide)
                have fwV74 : frX (xR b) V V74 := frX.tr fwV65 (fyV74)
                have rgz69 : 0 ≤ z69.toInt ∧ z69.toInt ≤ 1 := rgz69
                have t72 : CD V74 b := t72
                have t73 : px V65 V74 b := t73
                refine lv_if_ne (tgt := 79) hx hb dX1_readSum_74 (by decide) (fun c76 => ?_) (fun c76 => ?_)
                · skip
                  have f77 : z69.toInt ≠ 0 := b_neq rfl (by decide) c76
                  refine lv_aload_n hx hb dX1_readSum_79 rfl (lv_at hl 2 rfl) ?_
                  refine va_get (D := D) (ci := 1) (v := rfN ad 38 (V74 1 1)) (fs := (xfReader ad V74 L75 Z)) (C := RX1) (T := TX1) (N := 9) hx hb hg inX1 hown hK hP 1 xgReader rfl 1 (by decide) (hg _ w305) (fun _ h9 => h9) rfl dX1_readSum_80 ?_
                  have pq78 : (V74 1 1).toInt = ((V 1 1)).toInt := congrArg Int32.toInt ((ajV74 1 1 rfl).trans ((ajV65 1 1 rfl).trans ((ajV12 1 1 rfl).trans (ajV7 1 1 rfl))))
                  refine g_topv (v := .ref (ad (38 + b))) (rfN_r (by first | omega | ((try (have i_cd := Imp.go cd (by omega))); omega))) ?_
                  refine lv_iload_n hx hb dX1_readSum_83 rfl (lv_at hl 0 rfl) ?_
                  have r79 : Int32.toInt 6 = 6 := by decide
                  refine gA_void (gA_runV (As := [.int 6]) (rest := []) (ci := 0) (q0 := (38 + b)) hx hb hml hown hg hP hD hK hS hA hnw hgk (x_emit l D ks H.size ad kk V74 L75 Z 6 (b) hMV74 (show b < 2 from by first | omega | ((try (have i_cd := Imp.go cd (by omega))); omega))) w971 w972 w973 w167 w974 rfl (xgBook hb2) hdV_yX0_emit ⟨(by show 0 + 1 ≤ 10 * dd + 8; omega), (by show 8 + (2 + 11) + (0) ≤ 300 * dd + 210; omega)⟩ rfl hl.1 rfl (Nat.le_of_ble_eq_true rfl) dX1_readSum_84 ⟨Nat.le_of_ble_eq_true rfl, Nat.le_of_ble_eq_true rfl⟩) hP hD hK hS hA (fun u81 H locs w82 hP hD hK hS => ?_)
                  obtain ⟨V84, L85⟩ := u81
                  obtain ⟨hMV84, ajV84, axL85, fyV84, t83⟩ := w82
                  have axL85 : L75 = L85 := Eq.symm axL85
                  subst axL85
                  have hP : va_P D vwCl (xw ad kk V84 L75 Z) H := hP
                  have hD : va_D A (xw ad kk V84 L75 Z) := hD
                  have hMV84 : rgd bX V84 := hMV84
                  have ajV84 : agr [] [42, 48] V74 V84 := ajV84
                  have agV84 : agr [(1, 3), (1, 6), (1, 8), (6, 8), (6, 9), (6, 10)] [42, 43, 44, 48] V V84 := agV74.tr ajV84 (by decide) (by decide)
                  have fwV84 : frX (xR b) V V84 := frX.tr fwV74 (fyV84)
                  have t83 : emX V74 V84 b 6 := t83
                  obtain ⟨z86, ez86⟩ : ∃ y : Int32, y = y11 + 1 := ⟨_, rfl⟩
                  have hz86 : z86.toInt = y11.toInt + 1 := i_add ez86 rfl (by decide) (by omega)
                  refine lv_iinc (v := z86) (lv' := [(2, .int z86), (3, .int 6), (0, .ref (ad 1)), (1, .int p0)]) hx hb dX1_readSum_87 hl (k := 1) rfl (by rw [ez86]; rfl) (by decide) rfl (fun ls hl => ?_)
                  refine lv_goto (tgt := 12) hx hb dX1_readSum_90 (by decide) ?_
                  have cl87 : 0 ≤ (V74 42 b).toInt ∧ (V74 42 b).toInt ≤ 8200 := hMV74 42 b
                  have cd88 : CD V84 b := ⟨CB.e1 t72.1 t83 (by omega) (by decide), CO.e1 t72.2 t83 (by decide) (by omega)⟩
                  have px89 : px V V65 b := px.tr xlp14_1 (px.ag (show agr [(6, 8), (6, 9), (6, 10)] [] V12 V65 from (agr.tr agr.rf ajV65 (by decide) (by decide))) (fun _ => rfl) (fun _ => rfl) (fun _ => rfl))
                  have px90 : px V V74 b := px.tr px89 t73
                  have px91 : px V V84 b := px.tr px90 ⟨emX.p0x t83, ajV84 43 _ rfl⟩
                  exact ihlp14 z86 V84 L75 H locs ls (by first | omega | ((try (have i_cd := Imp.go cd (by omega))); omega)) cd88 px91 (by first | omega | ((try (have i_cd := Imp.go cd (by omega))); omega)) alL75 (agr.tr (agr.tr (agr.tr (agr.tr agr.rf ajV12 (by decide) (by decide)) ajV65 (by decide) (by decide)) ajV74 (by decide) (by decide)) ajV84 (by decide) (by decide)) hMV84 fwV84 hP hD hS (lv_sub hl [0, 2, 3] rfl)
                · skip
                  have f92 : z69.toInt = 0 := b_eq rfl (by decide) c76
                  refine lv_iconst (v := 0) hx hb dX1_readSum_77 (by decide) ?_
                  have px93 : px V V65 b := px.tr xlp14_1 (px.ag (show agr [(6, 8), (6, 9), (6, 10)] [] V12 V65 from (agr.tr agr.rf ajV65 (by decide) (by decide))) (fun _ => rfl) (fun _ => rfl) (fun _ => rfl))
                  have px94 : px V V74 b := px.tr px93 t73
                  exact W.zret (v := 0) hx hb hr rfl (fun t ht hW => ⟨⟨0, (V74, L75), rfl, ⟨hMV74, agV74, alL75, fwV74, (by decide), t72, px94⟩, by rw [ht]; exact hP, va_K.moved hW.alike hK, hD⟩, hS.F ht⟩) hS.2.2 dX1_readSum_78
              · skip
                have f95 : ((V12 6 9)).toInt = 43 := b_eq rfl (by decide) c60
                exfalso; first | omega | ((try (have i_cd := Imp.go cd (by omega))); omega)
    have r96 : Int32.toInt 0 = 0 := by decide
    have px97 : px V V7 b := px.tr (px.rf : px V V b) t6
    exact lp14 ((4000 - (Int32.toInt 0) + 1 : Int).toNat) 0 V7 L8 H locs ls (by decide) t5 px97 (by first | omega | ((try (have i_cd := Imp.go cd (by omega))); omega)) alL8 agr.rf hMV7 fwV7 hP hD hS (lv_sub hl [0, 1, 2] rfl)
  · skip
    have f98 : z2.toInt = 0 := b_eq rfl (by decide) c9
    refine lv_iconst (v := 0) hx hb dX1_readSum_8 (by decide) ?_
    have px99 : px V V7 b := px.tr (px.rf : px V V b) t6
    exact W.zret (v := 0) hx hb hr rfl (fun t ht hW => ⟨⟨0, (V7, L8), rfl, ⟨hMV7, agV7, alL8, fwV7, (by decide), t5, px99⟩, by rw [ht]; exact hP, va_K.moved hW.alike hK, hD⟩, hS.F ht⟩) hS.2.2 dX1_readSum_9
set_option maxHeartbeats 4000000 in
set_option maxRecDepth 100000 in
theorem x_readProduct {l : Launch} {D : va_G} {ks : KS} {dd : Nat} (hk_x_readPart : K_x_readPart l D ks dd) : K_x_readProduct l D ks dd := by
  intro sz ad kk V L Z p0 b hMV rg_p0 hb2 rbk cd y1
  refine g_met (q_x_readProduct D ks ad kk V L Z p0 b) (by decide) (Nat.le_of_ble_eq_true rfl) ?_
  intro p e s m below meth c A ls H locs hx hb hr hml hown hg hlocks hin hnw hgk hP hK hD hS hA hl
  have hown : s.vm.findClass RX1 = some m.cls := hown
  have hl : lv_has ls 3 [(0, .ref (ad 1)), (1, .int p0)] := hl
  have hP : va_P D vwCl (xw ad kk V L Z) H := hP
  have hD : va_D A (xw ad kk V L Z) := hD
  have hK : va_K D vwCl (xty kk Z) s := hK
  have agV : agr [(1, 3), (1, 6), (1, 8), (6, 8), (6, 9), (6, 10)] [42, 43, 44, 48] V V := agr.rf
  have alL : agL [6, 44] L L := agL.rf
  have fwV : frX (xR b) V V := frX.rf
  have r1 : (-1) ≤ ((V 1 1)).toInt ∧ ((V 1 1)).toInt ≤ 1 := hMV 1 1
  refine lv_aload_n hx hb dX1_readProduct_0 rfl (lv_at hl 0 rfl) ?_
  refine lv_iload_n hx hb dX1_readProduct_1 rfl (lv_at hl 1 rfl) ?_
  refine gA_int (gA_runV (As := [.int p0]) (rest := []) (ci := 1) (q0 := 1) hx hb hml hown hg hP hD hK hS hA hnw hgk (hk_x_readPart H.size ad kk V L Z p0 (b) hMV (by first | omega | ((try (have i_cd := Imp.go cd (by omega))); omega)) (show b < 2 from by first | omega | ((try (have i_cd := Imp.go cd (by omega))); omega)) (show (V 1 1).toInt = (b : Int) from by first | omega | ((try (have i_cd := Imp.go cd (by omega))); omega)) cd (show 8 - p0.toInt ≤ (dd : Int) from by first | omega | ((try (have i_cd := Imp.go cd (by omega))); omega))) w963 w965 w24 w162 w966 rfl xgReader hdV_yX1_readPart ⟨(by show 10 * dd + 6 + 1 ≤ 10 * dd + 7; omega), (by show 8 + (5 + 11) + (300 * dd + 150) ≤ 300 * dd + 180; omega)⟩ rfl hl.1 rfl (Nat.le_of_ble_eq_true rfl) dX1_readProduct_2 ⟨Nat.le_of_ble_eq_true rfl, Nat.le_of_ble_eq_true rfl⟩) hP hD hK hS hA (fun z2 u3 H locs w4 hP hD hK hS => ?_)
  obtain ⟨V7, L8⟩ := u3
  obtain ⟨hMV7, ajV7, axL8, fyV7, rgz2, t5, t6⟩ := w4
  have alL8 : agL [6, 44] L L8 := agL.tr alL axL8 (by decide)
  have hP : va_P D vwCl (xw ad kk V7 L8 Z) H := hP
  have hD : va_D A (xw ad kk V7 L8 Z) := hD
  have hMV7 : rgd bX V7 := hMV7
  have ajV7 : agr [(1, 3), (1, 6), (1, 8), (6, 8), (6, 9), (6, 10)] [42, 43, 44, 48] V V7 := ajV7
  have agV7 : agr [(1, 3), (1, 6), (1, 8), (6, 8), (6, 9), (6, 10)] [42, 43, 44, 48] V V7 := agV.tr ajV7 (by decide) (by decide)
  have fwV7 : frX (xR b) V V7 := frX.tr fwV (fyV7)
  have rgz2 : 0 ≤ z2.toInt ∧ z2.toInt ≤ 1 := rgz2
  have t5 : CD V7 b := t5
  have t6 : px V V7 b := t6
  refine lv_if_ne (tgt := 10) hx hb dX1_readProduct_5 (by decide) (fun c9 => ?_) (fun c9 => ?_)
  · skip
    have f10 : z2.toInt ≠ 0 := b_neq rfl (by decide) c9
    refine lv_iconst (v := 0) hx hb dX1_readProduct_10 (by decide) ?_
    refine lv_istore_n (lv' := [(2, .int 0), (0, .ref (ad 1)), (1, .int p0)]) hx hb dX1_readProduct_11 rfl hl (by decide) rfl (fun ls hl => ?_)
    have lp14 : ∀ (fulp14 : Nat) (y11 : Int32) (V12 : Vf) (L13 : Lf) (H : Heap) (locs : List Loc) (ls : Array Slot), 0 ≤ y11.toInt ∧ y11.toInt ≤ 4000 → CD V12 b → px V V12 b → 4000 - y11.toInt < (fulp14 : Int) → agL [6, 44] L L13 → agr [(1, 3), (1, 6), (1, 8), (6, 8), (6, 9), (6, 10)] [42, 43, 44, 48] V7 V12 → rgd bX V12 → frX (xR b) V V12 → va_P D vwCl (xw ad kk V12 L13 Z) H → va_D A (xw ad kk V12 L13 Z) → va_S A s.heap H locs → lv_has ls 3 [(2, .int y11), (0, .ref (ad 1)), (1, .int p0)] → W p l e (rK 7 180 dd) s m ([.ref (ad 1), .int p0] : List Value).toArray below meth c H locs 0 0 (MQ below (q_x_readProduct D ks ad kk V L Z p0 b A) ([.ref (ad 1), .int p0] : List Value).toArray s 0 0 A) (F0 m 12 ls []) := by
      intro fulp14
      induction fulp14 with
      | zero =>
        intro y11 V12 L13 H locs ls klp14_0 xlp14_0 xlp14_1 hn alL13 ajV12 hMV12 fwV12 hP hD hS hl
        exfalso; omega
      | succ fulp14 ihlp14 =>
        intro y11 V12 L13 H locs ls klp14_0 xlp14_0 xlp14_1 hn alL13 ajV12 hMV12 fwV12 hP hD hS hl
        have agV12 : agr [(1, 3), (1, 6), (1, 8), (6, 8), (6, 9), (6, 10)] [42, 43, 44, 48] V V12 := agV7.tr ajV12 (by decide) (by decide)
        refine lv_iload_n hx hb dX1_readProduct_12 rfl (lv_at hl 0 rfl) ?_
        refine lv_sipush (v := 4000) hx hb dX1_readProduct_13 (by decide) ?_
        refine lv_icmp_ge (tgt := 63) hx hb dX1_readProduct_16 (by decide) (fun c15 => ?_) (fun c15 => ?_)
        · skip
          have f16 : 4000 ≤ y11.toInt := b_le (by decide) rfl c15
          refine lv_iconst (v := 1) hx hb dX1_readProduct_63 (by decide) ?_
          exact W.zret (v := 1) hx hb hr rfl (fun t ht hW => ⟨⟨1, (V12, L13), rfl, ⟨hMV12, agV12, alL13, fwV12, (by decide), xlp14_0, xlp14_1⟩, by rw [ht]; exact hP, va_K.moved hW.alike hK, hD⟩, hS.F ht⟩) hS.2.2 dX1_readProduct_64
        · skip
          have f17 : y11.toInt < 4000 := b_nle (by decide) rfl c15
          refine lv_aload_n hx hb dX1_readProduct_19 rfl (lv_at hl 1 rfl) ?_
          refine va_get (D := D) (ci := 1) (v := .ref (ad 6)) (fs := (xfReader ad V12 L13 Z)) (C := RX1) (T := TX1) (N := 9) hx hb hg inX1 hown hK hP 1 xgReader rfl 0 (by decide) (hg _ w304) (fun _ h9 => h9) rfl dX1_readProduct_20 ?_
          refine va_getN (D := D) (ci := 9) (v := .int (V12 6 9)) (fs := (xfTape ad V12 L13 Z)) (C := RX9) (T := TX9) (N := 12) hx hb hg inX9 hown hK hP 6 xgTape rfl 9 (by decide) (hnw.use 262 n262 rfl) (fun _ h9 => h9) rfl dX1_readProduct_23 ?_
          refine lv_bipush (v := 42) hx hb dX1_readProduct_26 (by decide) ?_
          refine lv_icmp_ne (tgt := 63) hx hb dX1_readProduct_28 (by decide) (fun c18 => ?_) (fun c18 => ?_)
          · skip
            have f19 : ((V12 6 9)).toInt ≠ 42 := b_neq rfl (by decide) c18
            refine lv_iconst (v := 1) hx hb dX1_readProduct_63 (by decide) ?_
            exact W.zret (v := 1) hx hb hr rfl (fun t ht hW => ⟨⟨1, (V12, L13), rfl, ⟨hMV12, agV12, alL13, fwV12, (by decide), xlp14_0, xlp14_1⟩, by rw [ht]; exact hP, va_K.moved hW.alike hK, hD⟩, hS.F ht⟩) hS.2.2 dX1_readProduct_64
          · skip
            have f20 : ((V12 6 9)).toInt = 42 := b_eq rfl (by decide) c18
            refine lv_aload_n hx hb dX1_readProduct_31 rfl (lv_at hl 1 rfl) ?_
            refine va_get (D := D) (ci := 1) (v := .ref (ad 6)) (fs := (xfReader ad V12 L13 Z)) (C := RX1) (T := TX1) (N := 9) hx hb hg inX1 hown hK hP 1 xgReader rfl 0 (by decide) (hg _ w304) (fun _ h9 => h9) rfl dX1_readProduct_32 ?_
            refine gA_void (gA_runV (As := []) (rest := []) (ci := 9) (q0 := 6) hx hb hml hown hg hP hD hK hS hA hnw hgk (x_next l D ks H.size ad kk V12 L13 Z  hMV12 ) w871 w852 w853 w157 w854 rfl xgTape hdV_yX9_next ⟨(by show 0 + 1 ≤ 10 * dd + 7; omega), (by show 8 + (1 + 11) + (0) ≤ 300 * dd + 180; omega)⟩ rfl hl.1 rfl (Nat.le_of_ble_eq_true rfl) dX1_readProduct_35 ⟨Nat.le_of_ble_eq_true rfl, Nat.le_of_ble_eq_true rfl⟩) hP hD hK hS hA (fun u22 H locs w23 hP hD hK hS => ?_)
            obtain ⟨V24, L25⟩ := u22
            obtain ⟨hMV24, ajV24, axL25⟩ := w23
            have alL25 : agL [6, 44] L L25 := agL.tr alL13 axL25 (by decide)
            have hP : va_P D vwCl (xw ad kk V24 L25 Z) H := hP
            have hD : va_D A (xw ad kk V24 L25 Z) := hD
            have hMV24 : rgd bX V24 := hMV24
            have ajV24 : agr [(6, 8), (6, 9), (6, 10)] [] V12 V24 := ajV24
            have agV24 : agr [(1, 3), (1, 6), (1, 8), (6, 8), (6, 9), (6, 10)] [42, 43, 44, 48] V V24 := agV12.tr ajV24 (by decide) (by decide)
            have fwV24 : frX (xR b) V V24 := frX.tr fwV12 (frX.ag ajV24 (by decide) (by decide))
            refine lv_aload_n hx hb dX1_readProduct_38 rfl (lv_at hl 1 rfl) ?_
            refine lv_iload_n hx hb dX1_readProduct_39 rfl (lv_at hl 2 rfl) ?_
            have pq26 : (V24 1 1).toInt = ((V 1 1)).toInt := congrArg Int32.toInt ((ajV24 1 1 rfl).trans ((ajV12 1 1 rfl).trans (ajV7 1 1 rfl)))
            have cd27 : CD V24 b := ⟨CB.ag xlp14_0.1 (show agr [(6, 8), (6, 9), (6, 10)] [] V12 V24 from (agr.tr agr.rf ajV24 (by decide) (by decide))) (fun _ => rfl) (fun _ => rfl), CO.ag xlp14_0.2 (show agr [(6, 8), (6, 9), (6, 10)] [] V12 V24 from (agr.tr agr.rf ajV24 (by decide) (by decide))) (fun _ => rfl) (fun _ => rfl)⟩
            refine gA_int (gA_runV (As := [.int p0]) (rest := []) (ci := 1) (q0 := 1) hx hb hml hown hg hP hD hK hS hA hnw hgk (hk_x_readPart H.size ad kk V24 L25 Z p0 (b) hMV24 (by first | omega | ((try (have i_cd := Imp.go cd (by omega))); omega)) (show b < 2 from by first | omega | ((try (have i_cd := Imp.go cd (by omega))); omega)) (show (V24 1 1).toInt = (b : Int) from by first | omega | ((try (have i_cd := Imp.go cd (by omega))); omega)) cd27 (show 8 - p0.toInt ≤ (dd : Int) from by first | omega | ((try (have i_cd := Imp.go cd (by omega))); omega))) w963 w965 w24 w162 w966 rfl xgReader hdV_yX1_readPart ⟨(by show 10 * dd + 6 + 1 ≤ 10 * dd + 7; omega), (by show 8 + (5 + 11) + (300 * dd + 150) ≤ 300 * dd + 180; omega)⟩ rfl hl.1 rfl (Nat.le_of_ble_eq_true rfl) dX1_readProduct_40 ⟨Nat.le_of_ble_eq_true rfl, Nat.le_of_ble_eq_true rfl⟩) hP hD hK hS hA (fun z28 u29 H locs w30 hP hD hK hS => ?_)
            obtain ⟨V33, L34⟩ := u29
            obtain ⟨hMV33, ajV33, axL34, fyV33, rgz28, t31, t32⟩ := w30
            have alL34 : agL [6, 44] L L34 := agL.tr alL25 axL34 (by decide)
            have hP : va_P D vwCl (xw ad kk V33 L34 Z) H := hP
            have hD : va_D A (xw ad kk V33 L34 Z) := hD
            have hMV33 : rgd bX V33 := hMV33
            have ajV33 : agr [(1, 3), (1, 6), (1, 8), (6, 8), (6, 9), (6, 10)] [42, 43, 44, 48] V24 V33 := ajV33
            have agV33 : agr [(1, 3), (1, 6), (1, 8), (6, 8), (6, 9), (6, 10)] [42, 43, 44, 48] V V33 := agV24.tr ajV33 (by decide) (by decide)
            have fwV33 : frX (xR b) V V33 := frX.tr fwV24 (fyV33)
            have rgz28 : 0 ≤ z28.toInt ∧ z28.toInt ≤ 1 := rgz28
            have t31 : CD V33 b := t31
            have t32 : px V24 V33 b := t32
            refine lv_if_ne (tgt := 48) hx hb dX1_readProduct_43 (by decide) (fun c35 => ?_) (fun c35 => ?_)
            · skip
              have f36 : z28.toInt ≠ 0 := b_neq rfl (by decide) c35
              refine lv_aload_n hx hb dX1_readProduct_48 rfl (lv_at hl 1 rfl) ?_
              refine va_get (D := D) (ci := 1) (v := rfN ad 38 (V33 1 1)) (fs := (xfReader ad V33 L34 Z)) (C := RX1) (T := TX1) (N := 9) hx hb hg inX1 hown hK hP 1 xgReader rfl 1 (by decide) (hg _ w305) (fun _ h9 => h9) rfl dX1_readProduct_49 ?_
              have pq37 : (V33 1 1).toInt = ((V 1 1)).toInt := congrArg Int32.toInt ((ajV33 1 1 rfl).trans ((ajV24 1 1 rfl).trans ((ajV12 1 1 rfl).trans (ajV7 1 1 rfl))))
              refine g_topv (v := .ref (ad (38 + b))) (rfN_r (by first | omega | ((try (have i_cd := Imp.go cd (by omega))); omega))) ?_
              refine lv_bipush (v := 7) hx hb dX1_readProduct_52 (by decide) ?_
              have r38 : Int32.toInt 7 = 7 := by decide
              refine gA_void (gA_runV (As := [.int 7]) (rest := []) (ci := 0) (q0 := (38 + b)) hx hb hml hown hg hP hD hK hS hA hnw hgk (x_emit l D ks H.size ad kk V33 L34 Z 7 (b) hMV33 (show b < 2 from by first | omega | ((try (have i_cd := Imp.go cd (by omega))); omega))) w971 w972 w973 w167 w974 rfl (xgBook hb2) hdV_yX0_emit ⟨(by show 0 + 1 ≤ 10 * dd + 7; omega), (by show 8 + (2 + 11) + (0) ≤ 300 * dd + 180; omega)⟩ rfl hl.1 rfl (Nat.le_of_ble_eq_true rfl) dX1_readProduct_54 ⟨Nat.le_of_ble_eq_true rfl, Nat.le_of_ble_eq_true rfl⟩) hP hD hK hS hA (fun u40 H locs w41 hP hD hK hS => ?_)
              obtain ⟨V43, L44⟩ := u40
              obtain ⟨hMV43, ajV43, axL44, fyV43, t42⟩ := w41
              have axL44 : L34 = L44 := Eq.symm axL44
              subst axL44
              have hP : va_P D vwCl (xw ad kk V43 L34 Z) H := hP
              have hD : va_D A (xw ad kk V43 L34 Z) := hD
              have hMV43 : rgd bX V43 := hMV43
              have ajV43 : agr [] [42, 48] V33 V43 := ajV43
              have agV43 : agr [(1, 3), (1, 6), (1, 8), (6, 8), (6, 9), (6, 10)] [42, 43, 44, 48] V V43 := agV33.tr ajV43 (by decide) (by decide)
              have fwV43 : frX (xR b) V V43 := frX.tr fwV33 (fyV43)
              have t42 : emX V33 V43 b 7 := t42
              obtain ⟨z45, ez45⟩ : ∃ y : Int32, y = y11 + 1 := ⟨_, rfl⟩
              have hz45 : z45.toInt = y11.toInt + 1 := i_add ez45 rfl (by decide) (by omega)
              refine lv_iinc (v := z45) (lv' := [(2, .int z45), (0, .ref (ad 1)), (1, .int p0)]) hx hb dX1_readProduct_57 hl (k := 0) rfl (by rw [ez45]; rfl) (by decide) rfl (fun ls hl => ?_)
              refine lv_goto (tgt := 12) hx hb dX1_readProduct_60 (by decide) ?_
              have cl46 : 0 ≤ (V33 42 b).toInt ∧ (V33 42 b).toInt ≤ 8200 := hMV33 42 b
              have cd47 : CD V43 b := ⟨CB.e1 t31.1 t42 (by omega) (by decide), CO.e1 t31.2 t42 (by decide) (by omega)⟩
              have px48 : px V V24 b := px.tr xlp14_1 (px.ag (show agr [(6, 8), (6, 9), (6, 10)] [] V12 V24 from (agr.tr agr.rf ajV24 (by decide) (by decide))) (fun _ => rfl) (fun _ => rfl) (fun _ => rfl))
              have px49 : px V V33 b := px.tr px48 t32
              have px50 : px V V43 b := px.tr px49 ⟨emX.p0x t42, ajV43 43 _ rfl⟩
              exact ihlp14 z45 V43 L34 H locs ls (by first | omega | ((try (have i_cd := Imp.go cd (by omega))); omega)) cd47 px50 (by first | omega | ((try (have i_cd := Imp.go cd (by omega))); omega)) alL34 (agr.tr (agr.tr (agr.tr (agr.tr agr.rf ajV12 (by decide) (by decide)) ajV24 (by decide) (by decide)) ajV33 (by decide) (by decide)) ajV43 (by decide) (by decide)) hMV43 fwV43 hP hD hS (lv_sub hl [0, 1, 2] rfl)
            · skip
              have f51 : z28.toInt = 0 := b_eq rfl (by decide) c35
              refine lv_iconst (v := 0) hx hb dX1_readProduct_46 (by decide) ?_
              have px52 : px V V24 b := px.tr xlp14_1 (px.ag (show agr [(6, 8), (6, 9), (6, 10)] [] V12 V24 from (agr.tr agr.rf ajV24 (by decide) (by decide))) (fun _ => rfl) (fun _ => rfl) (fun _ => rfl))
              have px53 : px V V33 b := px.tr px52 t32
              exact W.zret (v := 0) hx hb hr rfl (fun t ht hW => ⟨⟨0, (V33, L34), rfl, ⟨hMV33, agV33, alL34, fwV33, (by decide), t31, px53⟩, by rw [ht]; exact hP, va_K.moved hW.alike hK, hD⟩, hS.F ht⟩) hS.2.2 dX1_readProduct_47
    have r54 : Int32.toInt 0 = 0 := by decide
    have px55 : px V V7 b := px.tr (px.rf : px V V b) t6
    exact lp14 ((4000 - (Int32.toInt 0) + 1 : Int).toNat) 0 V7 L8 H locs ls (by decide) t5 px55 (by first | omega | ((try (have i_cd := Imp.go cd (by omega))); omega)) alL8 agr.rf hMV7 fwV7 hP hD hS (lv_sub hl [0, 1, 2] rfl)
  · skip
    have f56 : z2.toInt = 0 := b_eq rfl (by decide) c9
    refine lv_iconst (v := 0) hx hb dX1_readProduct_8 (by decide) ?_
    have px57 : px V V7 b := px.tr (px.rf : px V V b) t6
    exact W.zret (v := 0) hx hb hr rfl (fun t ht hW => ⟨⟨0, (V7, L8), rfl, ⟨hMV7, agV7, alL8, fwV7, (by decide), t5, px57⟩, by rw [ht]; exact hP, va_K.moved hW.alike hK, hD⟩, hS.F ht⟩) hS.2.2 dX1_readProduct_9
set_option maxHeartbeats 4000000 in
set_option maxRecDepth 100000 in
theorem x_readWithin {l : Launch} {D : va_G} {ks : KS} {dd : Nat} (hk_x_readExpression : K_x_readExpression l D ks dd) : K_x_readWithin l D ks dd := by
  intro sz ad kk V L Z p0 b hMV rg_p0 hb2 rbk cd y1
  refine g_met (q_x_readWithin D ks ad kk V L Z p0 b) (by decide) (Nat.le_of_ble_eq_true rfl) ?_
  intro p e s m below meth c A ls H locs hx hb hr hml hown hg hlocks hin hnw hgk hP hK hD hS hA hl
  have hown : s.vm.findClass RX1 = some m.cls := hown
  have hl : lv_has ls 2 [(0, .ref (ad 1)), (1, .int p0)] := hl
  have hP : va_P D vwCl (xw ad kk V L Z) H := hP
  have hD : va_D A (xw ad kk V L Z) := hD
  have hK : va_K D vwCl (xty kk Z) s := hK
  have agV : agr [(1, 3), (1, 6), (1, 8), (6, 8), (6, 9), (6, 10)] [42, 43, 44, 48] V V := agr.rf
  have alL : agL [6, 44] L L := agL.rf
  have fwV : frX (xR b) V V := frX.rf
  have r1 : (-1) ≤ ((V 1 1)).toInt ∧ ((V 1 1)).toInt ≤ 1 := hMV 1 1
  refine lv_aload_n hx hb dX1_readWithin_0 rfl (lv_at hl 0 rfl) ?_
  refine lv_bipush (v := 40) hx hb dX1_readWithin_1 (by decide) ?_
  have r2 : Int32.toInt 40 = 40 := by decide
  refine gA_int (gA_runV (As := [.int 40]) (rest := []) (ci := 1) (q0 := 1) hx hb hml hown hg hP hD hK hS hA hnw hgk (x_take l D ks H.size ad kk V L Z 40 hMV ) w893 w895 w10 w162 w896 rfl xgReader hdV_yX1_take ⟨(by show 1 + 1 ≤ 10 * dd + 10; omega), (by show 8 + (2 + 11) + (21) ≤ 300 * dd + 265; omega)⟩ rfl hl.1 rfl (Nat.le_of_ble_eq_true rfl) dX1_readWithin_3 ⟨Nat.le_of_ble_eq_true rfl, Nat.le_of_ble_eq_true rfl⟩) hP hD hK hS hA (fun z3 u4 H locs w5 hP hD hK hS => ?_)
  obtain ⟨V6, L7⟩ := u4
  obtain ⟨hMV6, ajV6, axL7, rgz3⟩ := w5
  have alL7 : agL [6, 44] L L7 := agL.tr alL axL7 (by decide)
  have hP : va_P D vwCl (xw ad kk V6 L7 Z) H := hP
  have hD : va_D A (xw ad kk V6 L7 Z) := hD
  have hMV6 : rgd bX V6 := hMV6
  have ajV6 : agr [(1, 3), (6, 8), (6, 9), (6, 10)] [] V V6 := ajV6
  have agV6 : agr [(1, 3), (1, 6), (1, 8), (6, 8), (6, 9), (6, 10)] [42, 43, 44, 48] V V6 := agV.tr ajV6 (by decide) (by decide)
  have fwV6 : frX (xR b) V V6 := frX.tr fwV (frX.ag ajV6 (by decide) (by decide))
  have rgz3 : 0 ≤ z3.toInt ∧ z3.toInt ≤ 1 := rgz3
  refine lv_if_eq (tgt := 32) hx hb dX1_readWithin_6 (by decide) (fun c8 => ?_) (fun c8 => ?_)
  · skip
    have f9 : z3.toInt = 0 := b_eq rfl (by decide) c8
    refine lv_iconst (v := 0) hx hb dX1_readWithin_32 (by decide) ?_
    have cd10 : CD V6 b := ⟨CB.ag cd.1 (show agr [(1, 3), (6, 8), (6, 9), (6, 10)] [] V V6 from (agr.tr agr.rf ajV6 (by decide) (by decide))) (fun _ => rfl) (fun _ => rfl), CO.ag cd.2 (show agr [(1, 3), (6, 8), (6, 9), (6, 10)] [] V V6 from (agr.tr agr.rf ajV6 (by decide) (by decide))) (fun _ => rfl) (fun _ => rfl)⟩
    have px11 : px V V6 b := px.tr (px.rf : px V V b) (px.ag (show agr [(1, 3), (6, 8), (6, 9), (6, 10)] [] V V6 from (agr.tr agr.rf ajV6 (by decide) (by decide))) (fun _ => rfl) (fun _ => rfl) (fun _ => rfl))
    exact W.zret (v := 0) hx hb hr rfl (fun t ht hW => ⟨⟨0, (V6, L7), rfl, ⟨hMV6, agV6, alL7, fwV6, (by decide), cd10, px11⟩, by rw [ht]; exact hP, va_K.moved hW.alike hK, hD⟩, hS.F ht⟩) hS.2.2 dX1_readWithin_33
  · skip
    have f12 : z3.toInt ≠ 0 := b_neq rfl (by decide) c8
    refine lv_aload_n hx hb dX1_readWithin_9 rfl (lv_at hl 0 rfl) ?_
    refine lv_iload_n hx hb dX1_readWithin_10 rfl (lv_at hl 1 rfl) ?_
    refine lv_iconst (v := 1) hx hb dX1_readWithin_11 (by decide) ?_
    refine lv_iadd hx hb dX1_readWithin_12 ?_
    refine lv_topi (fun z13 ez13 => ?_)
    have hz13 : z13.toInt = p0.toInt + 1 := i_add ez13 rfl (by decide) (by omega)
    have pq14 : (V6 1 1).toInt = ((V 1 1)).toInt := congrArg Int32.toInt (ajV6 1 1 rfl)
    have cd15 : CD V6 b := ⟨CB.ag cd.1 (show agr [(1, 3), (6, 8), (6, 9), (6, 10)] [] V V6 from (agr.tr agr.rf ajV6 (by decide) (by decide))) (fun _ => rfl) (fun _ => rfl), CO.ag cd.2 (show agr [(1, 3), (6, 8), (6, 9), (6, 10)] [] V V6 from (agr.tr agr.rf ajV6 (by decide) (by decide))) (fun _ => rfl) (fun _ => rfl)⟩
    refine gA_int (gA_runV (As := [.int z13]) (rest := []) (ci := 1) (q0 := 1) hx hb hml hown hg hP hD hK hS hA hnw hgk (hk_x_readExpression H.size ad kk V6 L7 Z z13 (b) hMV6 (by first | omega | ((try (have i_cd := Imp.go cd (by omega))); omega)) (show b < 2 from by first | omega | ((try (have i_cd := Imp.go cd (by omega))); omega)) (show (V6 1 1).toInt = (b : Int) from by first | omega | ((try (have i_cd := Imp.go cd (by omega))); omega)) cd15 (show 8 - z13.toInt ≤ (dd : Int) from by first | omega | ((try (have i_cd := Imp.go cd (by omega))); omega))) w951 w953 w21 w162 w954 rfl xgReader hdV_yX1_readExpression ⟨(by show 10 * dd + 9 + 1 ≤ 10 * dd + 10; omega), (by show 8 + (3 + 11) + (300 * dd + 240) ≤ 300 * dd + 265; omega)⟩ rfl hl.1 rfl (Nat.le_of_ble_eq_true rfl) dX1_readWithin_13 ⟨Nat.le_of_ble_eq_true rfl, Nat.le_of_ble_eq_true rfl⟩) hP hD hK hS hA (fun z16 u17 H locs w18 hP hD hK hS => ?_)
    obtain ⟨V21, L22⟩ := u17
    obtain ⟨hMV21, ajV21, axL22, fyV21, rgz16, t19, t20⟩ := w18
    have alL22 : agL [6, 44] L L22 := agL.tr alL7 axL22 (by decide)
    have hP : va_P D vwCl (xw ad kk V21 L22 Z) H := hP
    have hD : va_D A (xw ad kk V21 L22 Z) := hD
    have hMV21 : rgd bX V21 := hMV21
    have ajV21 : agr [(1, 3), (1, 6), (1, 8), (6, 8), (6, 9), (6, 10)] [42, 43, 44, 48] V6 V21 := ajV21
    have agV21 : agr [(1, 3), (1, 6), (1, 8), (6, 8), (6, 9), (6, 10)] [42, 43, 44, 48] V V21 := agV6.tr ajV21 (by decide) (by decide)
    have fwV21 : frX (xR b) V V21 := frX.tr fwV6 (fyV21)
    have rgz16 : 0 ≤ z16.toInt ∧ z16.toInt ≤ 1 := rgz16
    have t19 : CD V21 b := t19
    have t20 : px V6 V21 b := t20
    refine lv_if_eq (tgt := 32) hx hb dX1_readWithin_16 (by decide) (fun c23 => ?_) (fun c23 => ?_)
    · skip
      have f24 : z16.toInt = 0 := b_eq rfl (by decide) c23
      refine lv_iconst (v := 0) hx hb dX1_readWithin_32 (by decide) ?_
      have px25 : px V V6 b := px.tr (px.rf : px V V b) (px.ag (show agr [(1, 3), (6, 8), (6, 9), (6, 10)] [] V V6 from (agr.tr agr.rf ajV6 (by decide) (by decide))) (fun _ => rfl) (fun _ => rfl) (fun _ => rfl))
      have px26 : px V V21 b := px.tr px25 t20
      exact W.zret (v := 0) hx hb hr rfl (fun t ht hW => ⟨⟨0, (V21, L22), rfl, ⟨hMV21, agV21, alL22, fwV21, (by decide), t19, px26⟩, by rw [ht]; exact hP, va_K.moved hW.alike hK, hD⟩, hS.F ht⟩) hS.2.2 dX1_readWithin_33
    · skip
      have f27 : z16.toInt ≠ 0 := b_neq rfl (by decide) c23
      refine lv_aload_n hx hb dX1_readWithin_19 rfl (lv_at hl 0 rfl) ?_
      refine lv_bipush (v := 41) hx hb dX1_readWithin_20 (by decide) ?_
      have r28 : Int32.toInt 41 = 41 := by decide
      refine gA_int (gA_runV (As := [.int 41]) (rest := []) (ci := 1) (q0 := 1) hx hb hml hown hg hP hD hK hS hA hnw hgk (x_take l D ks H.size ad kk V21 L22 Z 41 hMV21 ) w893 w895 w10 w162 w896 rfl xgReader hdV_yX1_take ⟨(by show 1 + 1 ≤ 10 * dd + 10; omega), (by show 8 + (2 + 11) + (21) ≤ 300 * dd + 265; omega)⟩ rfl hl.1 rfl (Nat.le_of_ble_eq_true rfl) dX1_readWithin_22 ⟨Nat.le_of_ble_eq_true rfl, Nat.le_of_ble_eq_true rfl⟩) hP hD hK hS hA (fun z29 u30 H locs w31 hP hD hK hS => ?_)
      obtain ⟨V32, L33⟩ := u30
      obtain ⟨hMV32, ajV32, axL33, rgz29⟩ := w31
      have alL33 : agL [6, 44] L L33 := agL.tr alL22 axL33 (by decide)
      have hP : va_P D vwCl (xw ad kk V32 L33 Z) H := hP
      have hD : va_D A (xw ad kk V32 L33 Z) := hD
      have hMV32 : rgd bX V32 := hMV32
      have ajV32 : agr [(1, 3), (6, 8), (6, 9), (6, 10)] [] V21 V32 := ajV32
      have agV32 : agr [(1, 3), (1, 6), (1, 8), (6, 8), (6, 9), (6, 10)] [42, 43, 44, 48] V V32 := agV21.tr ajV32 (by decide) (by decide)
      have fwV32 : frX (xR b) V V32 := frX.tr fwV21 (frX.ag ajV32 (by decide) (by decide))
      have rgz29 : 0 ≤ z29.toInt ∧ z29.toInt ≤ 1 := rgz29
      refine lv_if_eq (tgt := 32) hx hb dX1_readWithin_25 (by decide) (fun c34 => ?_) (fun c34 => ?_)
      · skip
        have f35 : z29.toInt = 0 := b_eq rfl (by decide) c34
        refine lv_iconst (v := 0) hx hb dX1_readWithin_32 (by decide) ?_
        have cd36 : CD V32 b := ⟨CB.ag t19.1 (show agr [(1, 3), (6, 8), (6, 9), (6, 10)] [] V21 V32 from (agr.tr agr.rf ajV32 (by decide) (by decide))) (fun _ => rfl) (fun _ => rfl), CO.ag t19.2 (show agr [(1, 3), (6, 8), (6, 9), (6, 10)] [] V21 V32 from (agr.tr agr.rf ajV32 (by decide) (by decide))) (fun _ => rfl) (fun _ => rfl)⟩
        have px37 : px V V6 b := px.tr (px.rf : px V V b) (px.ag (show agr [(1, 3), (6, 8), (6, 9), (6, 10)] [] V V6 from (agr.tr agr.rf ajV6 (by decide) (by decide))) (fun _ => rfl) (fun _ => rfl) (fun _ => rfl))
        have px38 : px V V21 b := px.tr px37 t20
        have px39 : px V V32 b := px.tr px38 (px.ag (show agr [(1, 3), (6, 8), (6, 9), (6, 10)] [] V21 V32 from (agr.tr agr.rf ajV32 (by decide) (by decide))) (fun _ => rfl) (fun _ => rfl) (fun _ => rfl))
        exact W.zret (v := 0) hx hb hr rfl (fun t ht hW => ⟨⟨0, (V32, L33), rfl, ⟨hMV32, agV32, alL33, fwV32, (by decide), cd36, px39⟩, by rw [ht]; exact hP, va_K.moved hW.alike hK, hD⟩, hS.F ht⟩) hS.2.2 dX1_readWithin_33
      · skip
        have f40 : z29.toInt ≠ 0 := b_neq rfl (by decide) c34
        refine lv_iconst (v := 1) hx hb dX1_readWithin_28 (by decide) ?_
        refine lv_goto (tgt := 33) hx hb dX1_readWithin_29 (by decide) ?_
        have cd41 : CD V32 b := ⟨CB.ag t19.1 (show agr [(1, 3), (6, 8), (6, 9), (6, 10)] [] V21 V32 from (agr.tr agr.rf ajV32 (by decide) (by decide))) (fun _ => rfl) (fun _ => rfl), CO.ag t19.2 (show agr [(1, 3), (6, 8), (6, 9), (6, 10)] [] V21 V32 from (agr.tr agr.rf ajV32 (by decide) (by decide))) (fun _ => rfl) (fun _ => rfl)⟩
        have px42 : px V V6 b := px.tr (px.rf : px V V b) (px.ag (show agr [(1, 3), (6, 8), (6, 9), (6, 10)] [] V V6 from (agr.tr agr.rf ajV6 (by decide) (by decide))) (fun _ => rfl) (fun _ => rfl) (fun _ => rfl))
        have px43 : px V V21 b := px.tr px42 t20
        have px44 : px V V32 b := px.tr px43 (px.ag (show agr [(1, 3), (6, 8), (6, 9), (6, 10)] [] V21 V32 from (agr.tr agr.rf ajV32 (by decide) (by decide))) (fun _ => rfl) (fun _ => rfl) (fun _ => rfl))
        exact W.zret (v := 1) hx hb hr rfl (fun t ht hW => ⟨⟨1, (V32, L33), rfl, ⟨hMV32, agV32, alL33, fwV32, (by decide), cd41, px44⟩, by rw [ht]; exact hP, va_K.moved hW.alike hK, hD⟩, hS.F ht⟩) hS.2.2 dX1_readWithin_33
set_option maxHeartbeats 4000000 in
set_option maxRecDepth 100000 in
theorem x_readPart {l : Launch} {D : va_G} {ks : KS} {dd : Nat} (hk_x_readExpression : ∀ d9, dd = d9 + 1 → K_x_readExpression l D ks d9) (hk_x_readPart : ∀ d9, dd = d9 + 1 → K_x_readPart l D ks d9) (hk_x_readPick : ∀ d9, dd = d9 + 1 → K_x_readPick l D ks d9) (hk_x_readOf : ∀ d9, dd = d9 + 1 → K_x_readOf l D ks d9) (hk_x_readWithin : ∀ d9, dd = d9 + 1 → K_x_readWithin l D ks d9) : K_x_readPart l D ks dd := by
  intro sz ad kk V L Z p0 b hMV rg_p0 hb2 rbk cd y1
  refine g_met (q_x_readPart D ks ad kk V L Z p0 b) (by decide) (Nat.le_of_ble_eq_true rfl) ?_
  intro p e s m below meth c A ls H locs hx hb hr hml hown hg hlocks hin hnw hgk hP hK hD hS hA hl
  have hown : s.vm.findClass RX1 = some m.cls := hown
  have hl : lv_has ls 5 [(0, .ref (ad 1)), (1, .int p0)] := hl
  have hP : va_P D vwCl (xw ad kk V L Z) H := hP
  have hD : va_D A (xw ad kk V L Z) := hD
  have hK : va_K D vwCl (xty kk Z) s := hK
  have agV : agr [(1, 3), (1, 6), (1, 8), (6, 8), (6, 9), (6, 10)] [42, 43, 44, 48] V V := agr.rf
  have alL : agL [6, 44] L L := agL.rf
  have fwV : frX (xR b) V V := frX.rf
  have r1 : (-1) ≤ ((V 1 1)).toInt ∧ ((V 1 1)).toInt ≤ 1 := hMV 1 1
  refine lv_aload_n hx hb dX1_readPart_0 rfl (lv_at hl 0 rfl) ?_
  refine gA_int (gA_runV (As := []) (rest := []) (ci := 1) (q0 := 1) hx hb hml hown hg hP hD hK hS hA hnw hgk (x_beginsPart l D ks H.size ad kk V L Z  hMV ) w967 w969 w25 w162 w970 rfl xgReader hdV_yX1_beginsPart ⟨(by show 0 + 1 ≤ 10 * dd + 6; omega), (by show 8 + (1 + 11) + (0) ≤ 300 * dd + 150; omega)⟩ rfl hl.1 rfl (Nat.le_of_ble_eq_true rfl) dX1_readPart_1 ⟨Nat.le_of_ble_eq_true rfl, Nat.le_of_ble_eq_true rfl⟩) hP hD hK hS hA (fun z2 u3 H locs w4 hP hD hK hS => ?_)
  have rgz2 := w4
  have rgz2 : 0 ≤ z2.toInt ∧ z2.toInt ≤ 1 := rgz2
  refine lv_if_ne (tgt := 13) hx hb dX1_readPart_4 (by decide) (fun c5 => ?_) (fun c5 => ?_)
  · skip
    have f6 : z2.toInt ≠ 0 := b_neq rfl (by decide) c5
    refine lv_iload_n hx hb dX1_readPart_13 rfl (lv_at hl 1 rfl) ?_
    refine lv_bipush (v := 8) hx hb dX1_readPart_14 (by decide) ?_
    refine lv_icmp_lt (tgt := 25) hx hb dX1_readPart_16 (by decide) (fun c7 => ?_) (fun c7 => ?_)
    · skip
      have f8 : p0.toInt < 8 := b_lt rfl (by decide) c7
      refine lv_aload_n hx hb dX1_readPart_25 rfl (lv_at hl 0 rfl) ?_
      obtain ⟨d9, rfl⟩ : ∃ d9, dd = d9 + 1 := ⟨dd - 1, by omega⟩
      refine va_get (D := D) (ci := 1) (v := .ref (ad 6)) (fs := (xfReader ad V L Z)) (C := RX1) (T := TX1) (N := 9) hx hb hg inX1 hown hK hP 1 xgReader rfl 0 (by decide) (hg _ w304) (fun _ h9 => h9) rfl dX1_readPart_26 ?_
      refine va_getN (D := D) (ci := 9) (v := .int (V 6 9)) (fs := (xfTape ad V L Z)) (C := RX9) (T := TX9) (N := 12) hx hb hg inX9 hown hK hP 6 xgTape rfl 9 (by decide) (hnw.use 262 n262 rfl) (fun _ h9 => h9) rfl dX1_readPart_29 ?_
      refine lv_istore_n (lv' := [(2, .int (V 6 9)), (0, .ref (ad 1)), (1, .int p0)]) hx hb dX1_readPart_32 rfl hl (by decide) rfl (fun ls hl => ?_)
      refine lv_aload_n hx hb dX1_readPart_33 rfl (lv_at hl 1 rfl) ?_
      refine va_get (D := D) (ci := 1) (v := .ref (ad 6)) (fs := (xfReader ad V L Z)) (C := RX1) (T := TX1) (N := 9) hx hb hg inX1 hown hK hP 1 xgReader rfl 0 (by decide) (hg _ w304) (fun _ h9 => h9) rfl dX1_readPart_34 ?_
      refine va_getN (D := D) (ci := 9) (v := .long (L 6 11)) (fs := (xfTape ad V L Z)) (C := RX9) (T := TX9) (N := 12) hx hb hg inX9 hown hK hP 6 xgTape rfl 11 (by decide) (hnw.use 269 n269 rfl) (fun _ h9 => h9) rfl dX1_readPart_37 ?_
      refine lv_topl (fun w9 ew9 => ?_)
      refine lv_lstore_n (lv' := [(3, .long w9), (2, .int (V 6 9)), (0, .ref (ad 1)), (1, .int p0)]) hx hb dX1_readPart_40 rfl hl (by decide) rfl (fun ls hl => ?_)
      refine lv_aload_n hx hb dX1_readPart_41 rfl (lv_at hl 2 rfl) ?_
      refine va_get (D := D) (ci := 1) (v := rfN ad 38 (V 1 1)) (fs := (xfReader ad V L Z)) (C := RX1) (T := TX1) (N := 9) hx hb hg inX1 hown hK hP 1 xgReader rfl 1 (by decide) (hg _ w305) (fun _ h9 => h9) rfl dX1_readPart_42 ?_
      refine g_topv (v := .ref (ad (38 + b))) (rfN_r (by first | omega | ((try (have i_cd := Imp.go cd (by omega))); omega))) ?_
      refine lv_iconst (v := 1) hx hb dX1_readPart_45 (by decide) ?_
      have r10 : Int32.toInt 1 = 1 := by decide
      refine gA_void (gA_runV (As := [.int 1]) (rest := []) (ci := 0) (q0 := (38 + b)) hx hb hml hown hg hP hD hK hS hA hnw hgk (x_emit l D ks H.size ad kk V L Z 1 (b) hMV (show b < 2 from by first | omega | ((try (have i_cd := Imp.go cd (by omega))); omega))) w971 w972 w973 w167 w974 rfl (xgBook hb2) hdV_yX0_emit ⟨(by show 0 + 1 ≤ 10 * (d9 + 1) + 6; omega), (by show 8 + (2 + 11) + (0) ≤ 300 * (d9 + 1) + 150; omega)⟩ rfl hl.1 rfl (Nat.le_of_ble_eq_true rfl) dX1_readPart_46 ⟨Nat.le_of_ble_eq_true rfl, Nat.le_of_ble_eq_true rfl⟩) hP hD hK hS hA (fun u12 H locs w13 hP hD hK hS => ?_)
      obtain ⟨V15, L16⟩ := u12
      obtain ⟨hMV15, ajV15, axL16, fyV15, t14⟩ := w13
      have axL16 : L = L16 := Eq.symm axL16
      subst axL16
      have hP : va_P D vwCl (xw ad kk V15 L Z) H := hP
      have hD : va_D A (xw ad kk V15 L Z) := hD
      have hMV15 : rgd bX V15 := hMV15
      have ajV15 : agr [] [42, 48] V V15 := ajV15
      have agV15 : agr [(1, 3), (1, 6), (1, 8), (6, 8), (6, 9), (6, 10)] [42, 43, 44, 48] V V15 := agV.tr ajV15 (by decide) (by decide)
      have fwV15 : frX (xR b) V V15 := frX.tr fwV (fyV15)
      have t14 : emX V V15 b 1 := t14
      refine lv_aload_n hx hb dX1_readPart_49 rfl (lv_at hl 2 rfl) ?_
      refine va_get (D := D) (ci := 1) (v := .ref (ad 6)) (fs := (xfReader ad V15 L Z)) (C := RX1) (T := TX1) (N := 9) hx hb hg inX1 hown hK hP 1 xgReader rfl 0 (by decide) (hg _ w304) (fun _ h9 => h9) rfl dX1_readPart_50 ?_
      refine gA_void (gA_runV (As := []) (rest := []) (ci := 9) (q0 := 6) hx hb hml hown hg hP hD hK hS hA hnw hgk (x_next l D ks H.size ad kk V15 L Z  hMV15 ) w871 w852 w853 w157 w854 rfl xgTape hdV_yX9_next ⟨(by show 0 + 1 ≤ 10 * (d9 + 1) + 6; omega), (by show 8 + (1 + 11) + (0) ≤ 300 * (d9 + 1) + 150; omega)⟩ rfl hl.1 rfl (Nat.le_of_ble_eq_true rfl) dX1_readPart_53 ⟨Nat.le_of_ble_eq_true rfl, Nat.le_of_ble_eq_true rfl⟩) hP hD hK hS hA (fun u18 H locs w19 hP hD hK hS => ?_)
      obtain ⟨V20, L21⟩ := u18
      obtain ⟨hMV20, ajV20, axL21⟩ := w19
      have alL21 : agL [6, 44] L L21 := agL.tr alL axL21 (by decide)
      have hP : va_P D vwCl (xw ad kk V20 L21 Z) H := hP
      have hD : va_D A (xw ad kk V20 L21 Z) := hD
      have hMV20 : rgd bX V20 := hMV20
      have ajV20 : agr [(6, 8), (6, 9), (6, 10)] [] V15 V20 := ajV20
      have agV20 : agr [(1, 3), (1, 6), (1, 8), (6, 8), (6, 9), (6, 10)] [42, 43, 44, 48] V V20 := agV15.tr ajV20 (by decide) (by decide)
      have fwV20 : frX (xR b) V V20 := frX.tr fwV15 (frX.ag ajV20 (by decide) (by decide))
      refine lv_iload_n hx hb dX1_readPart_56 rfl (lv_at hl 1 rfl) ?_
      by_cases q22 : (V 6 9) = 2
      · refine g_top (v := 2) q22 ?_
        have fq22 : ((V 6 9)).toInt = 2 := b_eq rfl (by decide) q22
        refine lv_lookup (x := 2) (off := 75) (tgt := 132) hx hb dX1_readPart_57 (by decide) (by decide) (by decide) ?_
        refine lv_aload_n hx hb dX1_readPart_132 rfl (lv_at hl 2 rfl) ?_
        refine lv_bipush (v := 10) hx hb dX1_readPart_133 (by decide) ?_
        refine lv_lload_n hx hb dX1_readPart_135 rfl (lv_at hl 0 rfl) ?_
        refine lv_l2i hx hb dX1_readPart_136 rfl ?_
        refine lv_topi (fun z23 ez23 => ?_)
        have r24 : Int32.toInt 10 = 10 := by decide
        have pq25 : (V20 1 1).toInt = ((V 1 1)).toInt := congrArg Int32.toInt ((ajV20 1 1 rfl).trans (ajV15 1 1 rfl))
        have cl26 : 0 ≤ (V 42 b).toInt ∧ (V 42 b).toInt ≤ 8200 := hMV 42 b
        have cd27 : CD V15 b := ⟨CB.e1 cd.1 t14 (by omega) (by decide), CO.e1 cd.2 t14 (by decide) (by omega)⟩
        have cd28 : CD V20 b := ⟨CB.ag cd27.1 (show agr [(6, 8), (6, 9), (6, 10)] [] V15 V20 from (agr.tr agr.rf ajV20 (by decide) (by decide))) (fun _ => rfl) (fun _ => rfl), CO.ag cd27.2 (show agr [(6, 8), (6, 9), (6, 10)] [] V15 V20 from (agr.tr agr.rf ajV20 (by decide) (by decide))) (fun _ => rfl) (fun _ => rfl)⟩
        refine gA_int (gA_runV (As := [.int 10, .int z23]) (rest := []) (ci := 1) (q0 := 1) hx hb hml hown hg hP hD hK hS hA hnw hgk (x_put l D ks H.size ad kk V20 L21 Z 10 z23 (b) hMV20 (by decide) (show b < 2 from by first | omega | ((try (have i_cd := Imp.go cd (by omega))); omega)) (show (V20 1 1).toInt = (b : Int) from by first | omega | ((try (have i_cd := Imp.go cd (by omega))); omega)) cd28 (Imp.mk (fun hp => absurd hp (by decide))) (Imp.mk (fun hp => absurd hp (by decide))) (Imp.mk (fun hp => have hp : (Int32.toInt 10) = 13 ∨ (Int32.toInt 10) = 14 := hp; (show z23.toInt = 0 from by first | omega | ((try (have i_cd := Imp.go cd (by omega))); omega))))) w975 w977 w26 w162 w978 rfl xgReader hdV_yX1_put ⟨(by show 1 + 1 ≤ 10 * (d9 + 1) + 6; omega), (by show 8 + (3 + 11) + (21) ≤ 300 * (d9 + 1) + 150; omega)⟩ rfl hl.1 rfl (Nat.le_of_ble_eq_true rfl) dX1_readPart_137 ⟨Nat.le_of_ble_eq_true rfl, Nat.le_of_ble_eq_true rfl⟩) hP hD hK hS hA (fun z29 u30 H locs w31 hP hD hK hS => ?_)
        obtain ⟨V35, L36⟩ := u30
        obtain ⟨hMV35, ajV35, axL36, fyV35, rgz29, t32, t33, t34⟩ := w31
        have axL36 : L21 = L36 := Eq.symm axL36
        subst axL36
        have hP : va_P D vwCl (xw ad kk V35 L21 Z) H := hP
        have hD : va_D A (xw ad kk V35 L21 Z) := hD
        have hMV35 : rgd bX V35 := hMV35
        have ajV35 : agr [] [42, 48] V20 V35 := ajV35
        have agV35 : agr [(1, 3), (1, 6), (1, 8), (6, 8), (6, 9), (6, 10)] [42, 43, 44, 48] V V35 := agV20.tr ajV35 (by decide) (by decide)
        have fwV35 : frX (xR b) V V35 := frX.tr fwV20 (fyV35)
        have rgz29 : 1 ≤ z29.toInt ∧ z29.toInt ≤ 1 := rgz29
        have t32 : Imp ((Int32.toInt 10) = 13 ∨ (Int32.toInt 10) = 14) (jp V35 b (V20 42 b).toInt.toNat) := t32
        have t33 : CD V35 b := t33
        have t34 : px V20 V35 b := t34
        have px37 : px V V15 b := px.tr (px.rf : px V V b) ⟨emX.p0x t14, ajV15 43 _ rfl⟩
        have px38 : px V V20 b := px.tr px37 (px.ag (show agr [(6, 8), (6, 9), (6, 10)] [] V15 V20 from (agr.tr agr.rf ajV20 (by decide) (by decide))) (fun _ => rfl) (fun _ => rfl) (fun _ => rfl))
        have px39 : px V V35 b := px.tr px38 t34
        exact W.zret (v := z29) hx hb hr (nb_ok (by omega)) (fun t ht hW => ⟨⟨z29, (V35, L21), rfl, ⟨hMV35, agV35, alL21, fwV35, (show 0 ≤ z29.toInt ∧ z29.toInt ≤ 1 from by first | omega | ((try (have i_cd := Imp.go cd (by omega))); omega)), t33, px39⟩, by rw [ht]; exact hP, va_K.moved hW.alike hK, hD⟩, hS.F ht⟩) hS.2.2 dX1_readPart_140
      by_cases q40 : (V 6 9) = 40
      · refine g_top (v := 40) q40 ?_
        have fq40 : ((V 6 9)).toInt = 40 := b_eq rfl (by decide) q40
        refine lv_lookup (x := 40) (off := 90) (tgt := 147) hx hb dX1_readPart_57 (by decide) (by decide) (by decide) ?_
        refine lv_aload_n hx hb dX1_readPart_147 rfl (lv_at hl 2 rfl) ?_
        refine lv_iload_n hx hb dX1_readPart_148 rfl (lv_at hl 3 rfl) ?_
        refine lv_iconst (v := 1) hx hb dX1_readPart_149 (by decide) ?_
        refine lv_iadd hx hb dX1_readPart_150 ?_
        refine lv_topi (fun z41 ez41 => ?_)
        have hz41 : z41.toInt = p0.toInt + 1 := i_add ez41 rfl (by decide) (by omega)
        have pq42 : (V20 1 1).toInt = ((V 1 1)).toInt := congrArg Int32.toInt ((ajV20 1 1 rfl).trans (ajV15 1 1 rfl))
        have cl43 : 0 ≤ (V 42 b).toInt ∧ (V 42 b).toInt ≤ 8200 := hMV 42 b
        have cd44 : CD V15 b := ⟨CB.e1 cd.1 t14 (by omega) (by decide), CO.e1 cd.2 t14 (by decide) (by omega)⟩
        have cd45 : CD V20 b := ⟨CB.ag cd44.1 (show agr [(6, 8), (6, 9), (6, 10)] [] V15 V20 from (agr.tr agr.rf ajV20 (by decide) (by decide))) (fun _ => rfl) (fun _ => rfl), CO.ag cd44.2 (show agr [(6, 8), (6, 9), (6, 10)] [] V15 V20 from (agr.tr agr.rf ajV20 (by decide) (by decide))) (fun _ => rfl) (fun _ => rfl)⟩
        refine gA_int (gA_runV (As := [.int z41]) (rest := []) (ci := 1) (q0 := 1) hx hb hml hown hg hP hD hK hS hA hnw hgk ((hk_x_readExpression d9 rfl) H.size ad kk V20 L21 Z z41 (b) hMV20 (by first | omega | ((try (have i_cd := Imp.go cd (by omega))); omega)) (show b < 2 from by first | omega | ((try (have i_cd := Imp.go cd (by omega))); omega)) (show (V20 1 1).toInt = (b : Int) from by first | omega | ((try (have i_cd := Imp.go cd (by omega))); omega)) cd45 (show 8 - z41.toInt ≤ ((d9 : Nat) : Int) from by first | omega | ((try (have i_cd := Imp.go cd (by omega))); omega))) w951 w953 w21 w162 w954 rfl xgReader hdV_yX1_readExpression ⟨(by show 10 * d9 + 9 + 1 ≤ 10 * (d9 + 1) + 6; omega), (by show 8 + (3 + 11) + (300 * d9 + 240) ≤ 300 * (d9 + 1) + 150; omega)⟩ rfl hl.1 rfl (Nat.le_of_ble_eq_true rfl) dX1_readPart_151 ⟨Nat.le_of_ble_eq_true rfl, Nat.le_of_ble_eq_true rfl⟩) hP hD hK hS hA (fun z46 u47 H locs w48 hP hD hK hS => ?_)
        obtain ⟨V51, L52⟩ := u47
        obtain ⟨hMV51, ajV51, axL52, fyV51, rgz46, t49, t50⟩ := w48
        have alL52 : agL [6, 44] L L52 := agL.tr alL21 axL52 (by decide)
        have hP : va_P D vwCl (xw ad kk V51 L52 Z) H := hP
        have hD : va_D A (xw ad kk V51 L52 Z) := hD
        have hMV51 : rgd bX V51 := hMV51
        have ajV51 : agr [(1, 3), (1, 6), (1, 8), (6, 8), (6, 9), (6, 10)] [42, 43, 44, 48] V20 V51 := ajV51
        have agV51 : agr [(1, 3), (1, 6), (1, 8), (6, 8), (6, 9), (6, 10)] [42, 43, 44, 48] V V51 := agV20.tr ajV51 (by decide) (by decide)
        have fwV51 : frX (xR b) V V51 := frX.tr fwV20 (fyV51)
        have rgz46 : 0 ≤ z46.toInt ∧ z46.toInt ≤ 1 := rgz46
        have t49 : CD V51 b := t49
        have t50 : px V20 V51 b := t50
        refine lv_if_eq (tgt := 170) hx hb dX1_readPart_154 (by decide) (fun c53 => ?_) (fun c53 => ?_)
        · skip
          have f54 : z46.toInt = 0 := b_eq rfl (by decide) c53
          refine lv_iconst (v := 0) hx hb dX1_readPart_170 (by decide) ?_
          have px55 : px V V15 b := px.tr (px.rf : px V V b) ⟨emX.p0x t14, ajV15 43 _ rfl⟩
          have px56 : px V V20 b := px.tr px55 (px.ag (show agr [(6, 8), (6, 9), (6, 10)] [] V15 V20 from (agr.tr agr.rf ajV20 (by decide) (by decide))) (fun _ => rfl) (fun _ => rfl) (fun _ => rfl))
          have px57 : px V V51 b := px.tr px56 t50
          exact W.zret (v := 0) hx hb hr rfl (fun t ht hW => ⟨⟨0, (V51, L52), rfl, ⟨hMV51, agV51, alL52, fwV51, (by decide), t49, px57⟩, by rw [ht]; exact hP, va_K.moved hW.alike hK, hD⟩, hS.F ht⟩) hS.2.2 dX1_readPart_171
        · skip
          have f58 : z46.toInt ≠ 0 := b_neq rfl (by decide) c53
          refine lv_aload_n hx hb dX1_readPart_157 rfl (lv_at hl 2 rfl) ?_
          refine lv_bipush (v := 41) hx hb dX1_readPart_158 (by decide) ?_
          have r59 : Int32.toInt 41 = 41 := by decide
          refine gA_int (gA_runV (As := [.int 41]) (rest := []) (ci := 1) (q0 := 1) hx hb hml hown hg hP hD hK hS hA hnw hgk (x_take l D ks H.size ad kk V51 L52 Z 41 hMV51 ) w893 w895 w10 w162 w896 rfl xgReader hdV_yX1_take ⟨(by show 1 + 1 ≤ 10 * (d9 + 1) + 6; omega), (by show 8 + (2 + 11) + (21) ≤ 300 * (d9 + 1) + 150; omega)⟩ rfl hl.1 rfl (Nat.le_of_ble_eq_true rfl) dX1_readPart_160 ⟨Nat.le_of_ble_eq_true rfl, Nat.le_of_ble_eq_true rfl⟩) hP hD hK hS hA (fun z60 u61 H locs w62 hP hD hK hS => ?_)
          obtain ⟨V63, L64⟩ := u61
          obtain ⟨hMV63, ajV63, axL64, rgz60⟩ := w62
          have alL64 : agL [6, 44] L L64 := agL.tr alL52 axL64 (by decide)
          have hP : va_P D vwCl (xw ad kk V63 L64 Z) H := hP
          have hD : va_D A (xw ad kk V63 L64 Z) := hD
          have hMV63 : rgd bX V63 := hMV63
          have ajV63 : agr [(1, 3), (6, 8), (6, 9), (6, 10)] [] V51 V63 := ajV63
          have agV63 : agr [(1, 3), (1, 6), (1, 8), (6, 8), (6, 9), (6, 10)] [42, 43, 44, 48] V V63 := agV51.tr ajV63 (by decide) (by decide)
          have fwV63 : frX (xR b) V V63 := frX.tr fwV51 (frX.ag ajV63 (by decide) (by decide))
          have rgz60 : 0 ≤ z60.toInt ∧ z60.toInt ≤ 1 := rgz60
          refine lv_if_eq (tgt := 170) hx hb dX1_readPart_163 (by decide) (fun c65 => ?_) (fun c65 => ?_)
          · skip
            have f66 : z60.toInt = 0 := b_eq rfl (by decide) c65
            refine lv_iconst (v := 0) hx hb dX1_readPart_170 (by decide) ?_
            have cd67 : CD V63 b := ⟨CB.ag t49.1 (show agr [(1, 3), (6, 8), (6, 9), (6, 10)] [] V51 V63 from (agr.tr agr.rf ajV63 (by decide) (by decide))) (fun _ => rfl) (fun _ => rfl), CO.ag t49.2 (show agr [(1, 3), (6, 8), (6, 9), (6, 10)] [] V51 V63 from (agr.tr agr.rf ajV63 (by decide) (by decide))) (fun _ => rfl) (fun _ => rfl)⟩
            have px68 : px V V15 b := px.tr (px.rf : px V V b) ⟨emX.p0x t14, ajV15 43 _ rfl⟩
            have px69 : px V V20 b := px.tr px68 (px.ag (show agr [(6, 8), (6, 9), (6, 10)] [] V15 V20 from (agr.tr agr.rf ajV20 (by decide) (by decide))) (fun _ => rfl) (fun _ => rfl) (fun _ => rfl))
            have px70 : px V V51 b := px.tr px69 t50
            have px71 : px V V63 b := px.tr px70 (px.ag (show agr [(1, 3), (6, 8), (6, 9), (6, 10)] [] V51 V63 from (agr.tr agr.rf ajV63 (by decide) (by decide))) (fun _ => rfl) (fun _ => rfl) (fun _ => rfl))
            exact W.zret (v := 0) hx hb hr rfl (fun t ht hW => ⟨⟨0, (V63, L64), rfl, ⟨hMV63, agV63, alL64, fwV63, (by decide), cd67, px71⟩, by rw [ht]; exact hP, va_K.moved hW.alike hK, hD⟩, hS.F ht⟩) hS.2.2 dX1_readPart_171
          · skip
            have f72 : z60.toInt ≠ 0 := b_neq rfl (by decide) c65
            refine lv_iconst (v := 1) hx hb dX1_readPart_166 (by decide) ?_
            refine lv_goto (tgt := 171) hx hb dX1_readPart_167 (by decide) ?_
            have cd73 : CD V63 b := ⟨CB.ag t49.1 (show agr [(1, 3), (6, 8), (6, 9), (6, 10)] [] V51 V63 from (agr.tr agr.rf ajV63 (by decide) (by decide))) (fun _ => rfl) (fun _ => rfl), CO.ag t49.2 (show agr [(1, 3), (6, 8), (6, 9), (6, 10)] [] V51 V63 from (agr.tr agr.rf ajV63 (by decide) (by decide))) (fun _ => rfl) (fun _ => rfl)⟩
            have px74 : px V V15 b := px.tr (px.rf : px V V b) ⟨emX.p0x t14, ajV15 43 _ rfl⟩
            have px75 : px V V20 b := px.tr px74 (px.ag (show agr [(6, 8), (6, 9), (6, 10)] [] V15 V20 from (agr.tr agr.rf ajV20 (by decide) (by decide))) (fun _ => rfl) (fun _ => rfl) (fun _ => rfl))
            have px76 : px V V51 b := px.tr px75 t50
            have px77 : px V V63 b := px.tr px76 (px.ag (show agr [(1, 3), (6, 8), (6, 9), (6, 10)] [] V51 V63 from (agr.tr agr.rf ajV63 (by decide) (by decide))) (fun _ => rfl) (fun _ => rfl) (fun _ => rfl))
            exact W.zret (v := 1) hx hb hr rfl (fun t ht hW => ⟨⟨1, (V63, L64), rfl, ⟨hMV63, agV63, alL64, fwV63, (by decide), cd73, px77⟩, by rw [ht]; exact hP, va_K.moved hW.alike hK, hD⟩, hS.F ht⟩) hS.2.2 dX1_readPart_171
      by_cases q78 : (V 6 9) = 45
      · refine g_top (v := 45) q78 ?_
        have fq78 : ((V 6 9)).toInt = 45 := b_eq rfl (by decide) q78
        refine lv_lookup (x := 45) (off := 115) (tgt := 172) hx hb dX1_readPart_57 (by decide) (by decide) (by decide) ?_
        refine lv_aload_n hx hb dX1_readPart_172 rfl (lv_at hl 2 rfl) ?_
        refine lv_iload_n hx hb dX1_readPart_173 rfl (lv_at hl 3 rfl) ?_
        refine lv_iconst (v := 1) hx hb dX1_readPart_174 (by decide) ?_
        refine lv_iadd hx hb dX1_readPart_175 ?_
        refine lv_topi (fun z79 ez79 => ?_)
        have hz79 : z79.toInt = p0.toInt + 1 := i_add ez79 rfl (by decide) (by omega)
        have pq80 : (V20 1 1).toInt = ((V 1 1)).toInt := congrArg Int32.toInt ((ajV20 1 1 rfl).trans (ajV15 1 1 rfl))
        have cl81 : 0 ≤ (V 42 b).toInt ∧ (V 42 b).toInt ≤ 8200 := hMV 42 b
        have cd82 : CD V15 b := ⟨CB.e1 cd.1 t14 (by omega) (by decide), CO.e1 cd.2 t14 (by decide) (by omega)⟩
        have cd83 : CD V20 b := ⟨CB.ag cd82.1 (show agr [(6, 8), (6, 9), (6, 10)] [] V15 V20 from (agr.tr agr.rf ajV20 (by decide) (by decide))) (fun _ => rfl) (fun _ => rfl), CO.ag cd82.2 (show agr [(6, 8), (6, 9), (6, 10)] [] V15 V20 from (agr.tr agr.rf ajV20 (by decide) (by decide))) (fun _ => rfl) (fun _ => rfl)⟩
        refine gA_int (gA_runV (As := [.int z79]) (rest := []) (ci := 1) (q0 := 1) hx hb hml hown hg hP hD hK hS hA hnw hgk ((hk_x_readPart d9 rfl) H.size ad kk V20 L21 Z z79 (b) hMV20 (by first | omega | ((try (have i_cd := Imp.go cd (by omega))); omega)) (show b < 2 from by first | omega | ((try (have i_cd := Imp.go cd (by omega))); omega)) (show (V20 1 1).toInt = (b : Int) from by first | omega | ((try (have i_cd := Imp.go cd (by omega))); omega)) cd83 (show 8 - z79.toInt ≤ ((d9 : Nat) : Int) from by first | omega | ((try (have i_cd := Imp.go cd (by omega))); omega))) w963 w965 w24 w162 w966 rfl xgReader hdV_yX1_readPart ⟨(by show 10 * d9 + 6 + 1 ≤ 10 * (d9 + 1) + 6; omega), (by show 8 + (5 + 11) + (300 * d9 + 150) ≤ 300 * (d9 + 1) + 150; omega)⟩ rfl hl.1 rfl (Nat.le_of_ble_eq_true rfl) dX1_readPart_176 ⟨Nat.le_of_ble_eq_true rfl, Nat.le_of_ble_eq_true rfl⟩) hP hD hK hS hA (fun z84 u85 H locs w86 hP hD hK hS => ?_)
        obtain ⟨V89, L90⟩ := u85
        obtain ⟨hMV89, ajV89, axL90, fyV89, rgz84, t87, t88⟩ := w86
        have alL90 : agL [6, 44] L L90 := agL.tr alL21 axL90 (by decide)
        have hP : va_P D vwCl (xw ad kk V89 L90 Z) H := hP
        have hD : va_D A (xw ad kk V89 L90 Z) := hD
        have hMV89 : rgd bX V89 := hMV89
        have ajV89 : agr [(1, 3), (1, 6), (1, 8), (6, 8), (6, 9), (6, 10)] [42, 43, 44, 48] V20 V89 := ajV89
        have agV89 : agr [(1, 3), (1, 6), (1, 8), (6, 8), (6, 9), (6, 10)] [42, 43, 44, 48] V V89 := agV20.tr ajV89 (by decide) (by decide)
        have fwV89 : frX (xR b) V V89 := frX.tr fwV20 (fyV89)
        have rgz84 : 0 ≤ z84.toInt ∧ z84.toInt ≤ 1 := rgz84
        have t87 : CD V89 b := t87
        have t88 : px V20 V89 b := t88
        refine lv_if_eq (tgt := 194) hx hb dX1_readPart_179 (by decide) (fun c91 => ?_) (fun c91 => ?_)
        · skip
          have f92 : z84.toInt = 0 := b_eq rfl (by decide) c91
          refine lv_iconst (v := 0) hx hb dX1_readPart_194 (by decide) ?_
          have px93 : px V V15 b := px.tr (px.rf : px V V b) ⟨emX.p0x t14, ajV15 43 _ rfl⟩
          have px94 : px V V20 b := px.tr px93 (px.ag (show agr [(6, 8), (6, 9), (6, 10)] [] V15 V20 from (agr.tr agr.rf ajV20 (by decide) (by decide))) (fun _ => rfl) (fun _ => rfl) (fun _ => rfl))
          have px95 : px V V89 b := px.tr px94 t88
          exact W.zret (v := 0) hx hb hr rfl (fun t ht hW => ⟨⟨0, (V89, L90), rfl, ⟨hMV89, agV89, alL90, fwV89, (by decide), t87, px95⟩, by rw [ht]; exact hP, va_K.moved hW.alike hK, hD⟩, hS.F ht⟩) hS.2.2 dX1_readPart_195
        · skip
          have f96 : z84.toInt ≠ 0 := b_neq rfl (by decide) c91
          refine lv_aload_n hx hb dX1_readPart_182 rfl (lv_at hl 2 rfl) ?_
          refine lv_iconst (v := 3) hx hb dX1_readPart_183 (by decide) ?_
          have r97 : Int32.toInt 3 = 3 := by decide
          have pq98 : (V89 1 1).toInt = ((V 1 1)).toInt := congrArg Int32.toInt ((ajV89 1 1 rfl).trans ((ajV20 1 1 rfl).trans (ajV15 1 1 rfl)))
          refine gA_int (gA_runV (As := [.int 3]) (rest := []) (ci := 1) (q0 := 1) hx hb hml hown hg hP hD hK hS hA hnw hgk (x_putAlone l D ks H.size ad kk V89 L90 Z 3 (b) hMV89 (by decide) (show b < 2 from by first | omega | ((try (have i_cd := Imp.go cd (by omega))); omega)) (show (V89 1 1).toInt = (b : Int) from by first | omega | ((try (have i_cd := Imp.go cd (by omega))); omega)) t87) w979 w981 w27 w162 w982 rfl xgReader hdV_yX1_putAlone ⟨(by show 1 + 1 ≤ 10 * (d9 + 1) + 6; omega), (by show 8 + (2 + 11) + (21) ≤ 300 * (d9 + 1) + 150; omega)⟩ rfl hl.1 rfl (Nat.le_of_ble_eq_true rfl) dX1_readPart_184 ⟨Nat.le_of_ble_eq_true rfl, Nat.le_of_ble_eq_true rfl⟩) hP hD hK hS hA (fun z99 u100 H locs w101 hP hD hK hS => ?_)
          obtain ⟨V104, L105⟩ := u100
          obtain ⟨hMV104, ajV104, axL105, fyV104, rgz99, t102, t103⟩ := w101
          have axL105 : L90 = L105 := Eq.symm axL105
          subst axL105
          have hP : va_P D vwCl (xw ad kk V104 L90 Z) H := hP
          have hD : va_D A (xw ad kk V104 L90 Z) := hD
          have hMV104 : rgd bX V104 := hMV104
          have ajV104 : agr [] [42, 48] V89 V104 := ajV104
          have agV104 : agr [(1, 3), (1, 6), (1, 8), (6, 8), (6, 9), (6, 10)] [42, 43, 44, 48] V V104 := agV89.tr ajV104 (by decide) (by decide)
          have fwV104 : frX (xR b) V V104 := frX.tr fwV89 (fyV104)
          have rgz99 : 1 ≤ z99.toInt ∧ z99.toInt ≤ 1 := rgz99
          have t102 : CD V104 b := t102
          have t103 : px V89 V104 b := t103
          refine lv_if_eq (tgt := 194) hx hb dX1_readPart_187 (by decide) (fun c106 => ?_) (fun c106 => ?_)
          · skip
            have f107 : z99.toInt = 0 := b_eq rfl (by decide) c106
            exfalso; first | omega | ((try (have i_cd := Imp.go cd (by omega))); omega)
          · skip
            have f108 : z99.toInt ≠ 0 := b_neq rfl (by decide) c106
            refine lv_iconst (v := 1) hx hb dX1_readPart_190 (by decide) ?_
            refine lv_goto (tgt := 195) hx hb dX1_readPart_191 (by decide) ?_
            have px109 : px V V15 b := px.tr (px.rf : px V V b) ⟨emX.p0x t14, ajV15 43 _ rfl⟩
            have px110 : px V V20 b := px.tr px109 (px.ag (show agr [(6, 8), (6, 9), (6, 10)] [] V15 V20 from (agr.tr agr.rf ajV20 (by decide) (by decide))) (fun _ => rfl) (fun _ => rfl) (fun _ => rfl))
            have px111 : px V V89 b := px.tr px110 t88
            have px112 : px V V104 b := px.tr px111 t103
            exact W.zret (v := 1) hx hb hr rfl (fun t ht hW => ⟨⟨1, (V104, L90), rfl, ⟨hMV104, agV104, alL90, fwV104, (by decide), t102, px112⟩, by rw [ht]; exact hP, va_K.moved hW.alike hK, hD⟩, hS.F ht⟩) hS.2.2 dX1_readPart_195
      by_cases q113 : (V 6 9) = 130
      · refine g_top (v := 130) q113 ?_
        have fq113 : ((V 6 9)).toInt = 130 := b_eq rfl (by decide) q113
        refine lv_lookup (x := 130) (off := 168) (tgt := 225) hx hb dX1_readPart_57 (by decide) (by decide) (by decide) ?_
        refine lv_aload_n hx hb dX1_readPart_225 rfl (lv_at hl 2 rfl) ?_
        have pq114 : (V20 1 1).toInt = ((V 1 1)).toInt := congrArg Int32.toInt ((ajV20 1 1 rfl).trans (ajV15 1 1 rfl))
        refine gA_int (gA_runV (As := []) (rest := []) (ci := 1) (q0 := 1) hx hb hml hown hg hP hD hK hS hA hnw hgk (x_takeSetting l D ks H.size ad kk V20 L21 Z (b) hMV20 (show b < 2 from by first | omega | ((try (have i_cd := Imp.go cd (by omega))); omega)) (show (V20 1 1).toInt = (b : Int) from by first | omega | ((try (have i_cd := Imp.go cd (by omega))); omega))) w931 w933 w17 w162 w934 rfl xgReader hdV_yX1_takeSetting ⟨(by show 1 + 1 ≤ 10 * (d9 + 1) + 6; omega), (by show 8 + (1 + 11) + (23) ≤ 300 * (d9 + 1) + 150; omega)⟩ rfl hl.1 rfl (Nat.le_of_ble_eq_true rfl) dX1_readPart_226 ⟨Nat.le_of_ble_eq_true rfl, Nat.le_of_ble_eq_true rfl⟩) hP hD hK hS hA (fun z115 u116 H locs w117 hP hD hK hS => ?_)
        obtain ⟨V119, L120⟩ := u116
        obtain ⟨hMV119, ajV119, axL120, rgz115, t118⟩ := w117
        have alL120 : agL [6, 44] L L120 := agL.tr alL21 axL120 (by decide)
        have hP : va_P D vwCl (xw ad kk V119 L120 Z) H := hP
        have hD : va_D A (xw ad kk V119 L120 Z) := hD
        have hMV119 : rgd bX V119 := hMV119
        have ajV119 : agr [(1, 3), (1, 6), (6, 8), (6, 9), (6, 10)] [] V20 V119 := ajV119
        have agV119 : agr [(1, 3), (1, 6), (1, 8), (6, 8), (6, 9), (6, 10)] [42, 43, 44, 48] V V119 := agV20.tr ajV119 (by decide) (by decide)
        have fwV119 : frX (xR b) V V119 := frX.tr fwV20 (frX.ag ajV119 (by decide) (by decide))
        have rgz115 : 0 ≤ z115.toInt ∧ z115.toInt ≤ 1 := rgz115
        have t118 : Imp (z115.toInt = 1) (0 ≤ (V119 1 6).toInt ∧ (V119 1 6).toInt ≤ 11) := t118
        have r121 : (-1) ≤ ((V119 1 6)).toInt ∧ ((V119 1 6)).toInt ≤ 23 := hMV119 1 6
        refine lv_if_eq (tgt := 249) hx hb dX1_readPart_229 (by decide) (fun c122 => ?_) (fun c122 => ?_)
        · skip
          have f123 : z115.toInt = 0 := b_eq rfl (by decide) c122
          refine lv_iconst (v := 0) hx hb dX1_readPart_249 (by decide) ?_
          have cl124 : 0 ≤ (V 42 b).toInt ∧ (V 42 b).toInt ≤ 8200 := hMV 42 b
          have cd125 : CD V15 b := ⟨CB.e1 cd.1 t14 (by omega) (by decide), CO.e1 cd.2 t14 (by decide) (by omega)⟩
          have cd126 : CD V119 b := ⟨CB.ag cd125.1 (show agr [(1, 3), (1, 6), (6, 8), (6, 9), (6, 10)] [] V15 V119 from (agr.tr (agr.tr agr.rf ajV20 (by decide) (by decide)) ajV119 (by decide) (by decide))) (fun _ => rfl) (fun _ => rfl), CO.ag cd125.2 (show agr [(1, 3), (1, 6), (6, 8), (6, 9), (6, 10)] [] V15 V119 from (agr.tr (agr.tr agr.rf ajV20 (by decide) (by decide)) ajV119 (by decide) (by decide))) (fun _ => rfl) (fun _ => rfl)⟩
          have px127 : px V V15 b := px.tr (px.rf : px V V b) ⟨emX.p0x t14, ajV15 43 _ rfl⟩
          have px128 : px V V119 b := px.tr px127 (px.ag (show agr [(1, 3), (1, 6), (6, 8), (6, 9), (6, 10)] [] V15 V119 from (agr.tr (agr.tr agr.rf ajV20 (by decide) (by decide)) ajV119 (by decide) (by decide))) (fun _ => rfl) (fun _ => rfl) (fun _ => rfl))
          exact W.zret (v := 0) hx hb hr rfl (fun t ht hW => ⟨⟨0, (V119, L120), rfl, ⟨hMV119, agV119, alL120, fwV119, (by decide), cd126, px128⟩, by rw [ht]; exact hP, va_K.moved hW.alike hK, hD⟩, hS.F ht⟩) hS.2.2 dX1_readPart_250
        · skip
          have f129 : z115.toInt ≠ 0 := b_neq rfl (by decide) c122
          refine lv_aload_n hx hb dX1_readPart_232 rfl (lv_at hl 2 rfl) ?_
          refine lv_bipush (v := 11) hx hb dX1_readPart_233 (by decide) ?_
          refine lv_aload_n hx hb dX1_readPart_235 rfl (lv_at hl 2 rfl) ?_
          refine va_get (D := D) (ci := 1) (v := .int (V119 1 6)) (fs := (xfReader ad V119 L120 Z)) (C := RX1) (T := TX1) (N := 9) hx hb hg inX1 hown hK hP 1 xgReader rfl 6 (by decide) (hg _ w310) (fun _ h9 => h9) rfl dX1_readPart_236 ?_
          have r130 : Int32.toInt 11 = 11 := by decide
          have pq131 : (V119 1 1).toInt = ((V 1 1)).toInt := congrArg Int32.toInt ((ajV119 1 1 rfl).trans ((ajV20 1 1 rfl).trans (ajV15 1 1 rfl)))
          have cl132 : 0 ≤ (V 42 b).toInt ∧ (V 42 b).toInt ≤ 8200 := hMV 42 b
          have cd133 : CD V15 b := ⟨CB.e1 cd.1 t14 (by omega) (by decide), CO.e1 cd.2 t14 (by decide) (by omega)⟩
          have cd134 : CD V119 b := ⟨CB.ag cd133.1 (show agr [(1, 3), (1, 6), (6, 8), (6, 9), (6, 10)] [] V15 V119 from (agr.tr (agr.tr agr.rf ajV20 (by decide) (by decide)) ajV119 (by decide) (by decide))) (fun _ => rfl) (fun _ => rfl), CO.ag cd133.2 (show agr [(1, 3), (1, 6), (6, 8), (6, 9), (6, 10)] [] V15 V119 from (agr.tr (agr.tr agr.rf ajV20 (by decide) (by decide)) ajV119 (by decide) (by decide))) (fun _ => rfl) (fun _ => rfl)⟩
          refine gA_int (gA_runV (As := [.int 11, .int (V119 1 6)]) (rest := []) (ci := 1) (q0 := 1) hx hb hml hown hg hP hD hK hS hA hnw hgk (x_put l D ks H.size ad kk V119 L120 Z 11 (V119 1 6) (b) hMV119 (by decide) (show b < 2 from by first | omega | ((try (have i_t118 := Imp.go t118 (by omega))); (try (have i_cd := Imp.go cd (by omega))); (try (have i_cd := Imp.go cd (by omega))); (try (have i_t118 := Imp.go t118 (by omega))); omega)) (show (V119 1 1).toInt = (b : Int) from by first | omega | ((try (have i_t118 := Imp.go t118 (by omega))); (try (have i_cd := Imp.go cd (by omega))); (try (have i_cd := Imp.go cd (by omega))); (try (have i_t118 := Imp.go t118 (by omega))); omega)) cd134 (Imp.mk (fun _ => (show 0 ≤ ((V119 1 6)).toInt ∧ ((V119 1 6)).toInt ≤ 11 from by first | omega | ((try (have i_t118 := Imp.go t118 (by omega))); (try (have i_cd := Imp.go cd (by omega))); (try (have i_cd := Imp.go cd (by omega))); (try (have i_t118 := Imp.go t118 (by omega))); omega)))) (Imp.mk (fun hp => absurd hp (by decide))) (Imp.mk (fun hp => have hp : (Int32.toInt 11) = 13 ∨ (Int32.toInt 11) = 14 := hp; (show ((V119 1 6)).toInt = 0 from by first | omega | ((try (have i_t118 := Imp.go t118 (by omega))); (try (have i_cd := Imp.go cd (by omega))); (try (have i_cd := Imp.go cd (by omega))); (try (have i_t118 := Imp.go t118 (by omega))); omega))))) w975 w977 w26 w162 w978 rfl xgReader hdV_yX1_put ⟨(by show 1 + 1 ≤ 10 * (d9 + 1) + 6; omega), (by show 8 + (3 + 11) + (21) ≤ 300 * (d9 + 1) + 150; omega)⟩ rfl hl.1 rfl (Nat.le_of_ble_eq_true rfl) dX1_readPart_239 ⟨Nat.le_of_ble_eq_true rfl, Nat.le_of_ble_eq_true rfl⟩) hP hD hK hS hA (fun z135 u136 H locs w137 hP hD hK hS => ?_)
          obtain ⟨V141, L142⟩ := u136
          obtain ⟨hMV141, ajV141, axL142, fyV141, rgz135, t138, t139, t140⟩ := w137
          have axL142 : L120 = L142 := Eq.symm axL142
          subst axL142
          have hP : va_P D vwCl (xw ad kk V141 L120 Z) H := hP
          have hD : va_D A (xw ad kk V141 L120 Z) := hD
          have hMV141 : rgd bX V141 := hMV141
          have ajV141 : agr [] [42, 48] V119 V141 := ajV141
          have agV141 : agr [(1, 3), (1, 6), (1, 8), (6, 8), (6, 9), (6, 10)] [42, 43, 44, 48] V V141 := agV119.tr ajV141 (by decide) (by decide)
          have fwV141 : frX (xR b) V V141 := frX.tr fwV119 (fyV141)
          have rgz135 : 1 ≤ z135.toInt ∧ z135.toInt ≤ 1 := rgz135
          have t138 : Imp ((Int32.toInt 11) = 13 ∨ (Int32.toInt 11) = 14) (jp V141 b (V119 42 b).toInt.toNat) := t138
          have t139 : CD V141 b := t139
          have t140 : px V119 V141 b := t140
          refine lv_if_eq (tgt := 249) hx hb dX1_readPart_242 (by decide) (fun c143 => ?_) (fun c143 => ?_)
          · skip
            have f144 : z135.toInt = 0 := b_eq rfl (by decide) c143
            exfalso; first | omega | ((try (have i_t118 := Imp.go t118 (by omega))); (try (have i_cd := Imp.go cd (by omega))); (try (have i_cd := Imp.go cd (by omega))); (try (have i_t118 := Imp.go t118 (by omega))); omega)
          · skip
            have f145 : z135.toInt ≠ 0 := b_neq rfl (by decide) c143
            refine lv_iconst (v := 1) hx hb dX1_readPart_245 (by decide) ?_
            refine lv_goto (tgt := 250) hx hb dX1_readPart_246 (by decide) ?_
            have px146 : px V V15 b := px.tr (px.rf : px V V b) ⟨emX.p0x t14, ajV15 43 _ rfl⟩
            have px147 : px V V119 b := px.tr px146 (px.ag (show agr [(1, 3), (1, 6), (6, 8), (6, 9), (6, 10)] [] V15 V119 from (agr.tr (agr.tr agr.rf ajV20 (by decide) (by decide)) ajV119 (by decide) (by decide))) (fun _ => rfl) (fun _ => rfl) (fun _ => rfl))
            have px148 : px V V141 b := px.tr px147 t140
            exact W.zret (v := 1) hx hb hr rfl (fun t ht hW => ⟨⟨1, (V141, L120), rfl, ⟨hMV141, agV141, alL120, fwV141, (by decide), t139, px148⟩, by rw [ht]; exact hP, va_K.moved hW.alike hK, hD⟩, hS.F ht⟩) hS.2.2 dX1_readPart_250
      by_cases q149 : (V 6 9) = 143
      · refine g_top (v := 143) q149 ?_
        have fq149 : ((V 6 9)).toInt = 143 := b_eq rfl (by decide) q149
        refine lv_lookup (x := 143) (off := 84) (tgt := 141) hx hb dX1_readPart_57 (by decide) (by decide) (by decide) ?_
        refine lv_aload_n hx hb dX1_readPart_141 rfl (lv_at hl 2 rfl) ?_
        refine lv_iconst (v := 2) hx hb dX1_readPart_142 (by decide) ?_
        have r150 : Int32.toInt 2 = 2 := by decide
        have pq151 : (V20 1 1).toInt = ((V 1 1)).toInt := congrArg Int32.toInt ((ajV20 1 1 rfl).trans (ajV15 1 1 rfl))
        have cl152 : 0 ≤ (V 42 b).toInt ∧ (V 42 b).toInt ≤ 8200 := hMV 42 b
        have cd153 : CD V15 b := ⟨CB.e1 cd.1 t14 (by omega) (by decide), CO.e1 cd.2 t14 (by decide) (by omega)⟩
        have cd154 : CD V20 b := ⟨CB.ag cd153.1 (show agr [(6, 8), (6, 9), (6, 10)] [] V15 V20 from (agr.tr agr.rf ajV20 (by decide) (by decide))) (fun _ => rfl) (fun _ => rfl), CO.ag cd153.2 (show agr [(6, 8), (6, 9), (6, 10)] [] V15 V20 from (agr.tr agr.rf ajV20 (by decide) (by decide))) (fun _ => rfl) (fun _ => rfl)⟩
        refine gA_int (gA_runV (As := [.int 2]) (rest := []) (ci := 1) (q0 := 1) hx hb hml hown hg hP hD hK hS hA hnw hgk (x_putAlone l D ks H.size ad kk V20 L21 Z 2 (b) hMV20 (by decide) (show b < 2 from by first | omega | ((try (have i_cd := Imp.go cd (by omega))); omega)) (show (V20 1 1).toInt = (b : Int) from by first | omega | ((try (have i_cd := Imp.go cd (by omega))); omega)) cd154) w979 w981 w27 w162 w982 rfl xgReader hdV_yX1_putAlone ⟨(by show 1 + 1 ≤ 10 * (d9 + 1) + 6; omega), (by show 8 + (2 + 11) + (21) ≤ 300 * (d9 + 1) + 150; omega)⟩ rfl hl.1 rfl (Nat.le_of_ble_eq_true rfl) dX1_readPart_143 ⟨Nat.le_of_ble_eq_true rfl, Nat.le_of_ble_eq_true rfl⟩) hP hD hK hS hA (fun z155 u156 H locs w157 hP hD hK hS => ?_)
        obtain ⟨V160, L161⟩ := u156
        obtain ⟨hMV160, ajV160, axL161, fyV160, rgz155, t158, t159⟩ := w157
        have axL161 : L21 = L161 := Eq.symm axL161
        subst axL161
        have hP : va_P D vwCl (xw ad kk V160 L21 Z) H := hP
        have hD : va_D A (xw ad kk V160 L21 Z) := hD
        have hMV160 : rgd bX V160 := hMV160
        have ajV160 : agr [] [42, 48] V20 V160 := ajV160
        have agV160 : agr [(1, 3), (1, 6), (1, 8), (6, 8), (6, 9), (6, 10)] [42, 43, 44, 48] V V160 := agV20.tr ajV160 (by decide) (by decide)
        have fwV160 : frX (xR b) V V160 := frX.tr fwV20 (fyV160)
        have rgz155 : 1 ≤ z155.toInt ∧ z155.toInt ≤ 1 := rgz155
        have t158 : CD V160 b := t158
        have t159 : px V20 V160 b := t159
        have px162 : px V V15 b := px.tr (px.rf : px V V b) ⟨emX.p0x t14, ajV15 43 _ rfl⟩
        have px163 : px V V20 b := px.tr px162 (px.ag (show agr [(6, 8), (6, 9), (6, 10)] [] V15 V20 from (agr.tr agr.rf ajV20 (by decide) (by decide))) (fun _ => rfl) (fun _ => rfl) (fun _ => rfl))
        have px164 : px V V160 b := px.tr px163 t159
        exact W.zret (v := z155) hx hb hr (nb_ok (by omega)) (fun t ht hW => ⟨⟨z155, (V160, L21), rfl, ⟨hMV160, agV160, alL21, fwV160, (show 0 ≤ z155.toInt ∧ z155.toInt ≤ 1 from by first | omega | ((try (have i_cd := Imp.go cd (by omega))); omega)), t158, px164⟩, by rw [ht]; exact hP, va_K.moved hW.alike hK, hD⟩, hS.F ht⟩) hS.2.2 dX1_readPart_146
      by_cases q165 : (V 6 9) = 144
      · refine g_top (v := 144) q165 ?_
        have fq165 : ((V 6 9)).toInt = 144 := b_eq rfl (by decide) q165
        refine lv_lookup (x := 144) (off := 139) (tgt := 196) hx hb dX1_readPart_57 (by decide) (by decide) (by decide) ?_
        refine lv_aload_n hx hb dX1_readPart_196 rfl (lv_at hl 2 rfl) ?_
        refine lv_iconst (v := 1) hx hb dX1_readPart_197 (by decide) ?_
        refine lv_bipush (v := 9) hx hb dX1_readPart_198 (by decide) ?_
        have r166 : Int32.toInt 9 = 9 := by decide
        refine gA_int (gA_runV (As := [.int 1, .int 9]) (rest := []) (ci := 1) (q0 := 1) hx hb hml hown hg hP hD hK hS hA hnw hgk (x_takeNumber l D ks H.size ad kk V20 L21 Z 1 9 hMV20 (show 0 ≤ (Int32.toInt 1) from by first | omega | ((try (have i_cd := Imp.go cd (by omega))); omega)) (show (Int32.toInt 9) ≤ 999999999 from by first | omega | ((try (have i_cd := Imp.go cd (by omega))); omega))) w906 w908 w12 w162 w909 rfl xgReader hdV_yX1_takeNumber ⟨(by show 1 + 1 ≤ 10 * (d9 + 1) + 6; omega), (by show 8 + (3 + 11) + (21) ≤ 300 * (d9 + 1) + 150; omega)⟩ rfl hl.1 rfl (Nat.le_of_ble_eq_true rfl) dX1_readPart_200 ⟨Nat.le_of_ble_eq_true rfl, Nat.le_of_ble_eq_true rfl⟩) hP hD hK hS hA (fun z167 u168 H locs w169 hP hD hK hS => ?_)
        obtain ⟨V171, L172⟩ := u168
        obtain ⟨hMV171, ajV171, axL172, rgz167, t170⟩ := w169
        have alL172 : agL [6, 44] L L172 := agL.tr alL21 axL172 (by decide)
        have hP : va_P D vwCl (xw ad kk V171 L172 Z) H := hP
        have hD : va_D A (xw ad kk V171 L172 Z) := hD
        have hMV171 : rgd bX V171 := hMV171
        have ajV171 : agr [(1, 3), (1, 8), (6, 8), (6, 9), (6, 10)] [] V20 V171 := ajV171
        have agV171 : agr [(1, 3), (1, 6), (1, 8), (6, 8), (6, 9), (6, 10)] [42, 43, 44, 48] V V171 := agV20.tr ajV171 (by decide) (by decide)
        have fwV171 : frX (xR b) V V171 := frX.tr fwV20 (frX.ag ajV171 (by decide) (by decide))
        have rgz167 : 0 ≤ z167.toInt ∧ z167.toInt ≤ 1 := rgz167
        have t170 : Imp (z167.toInt = 1) ((Int32.toInt 1) ≤ (V171 1 8).toInt ∧ (V171 1 8).toInt ≤ (Int32.toInt 9)) := t170
        have r173 : 0 ≤ ((V171 1 8)).toInt ∧ ((V171 1 8)).toInt ≤ 999999999 := hMV171 1 8
        refine lv_if_eq (tgt := 223) hx hb dX1_readPart_203 (by decide) (fun c174 => ?_) (fun c174 => ?_)
        · skip
          have f175 : z167.toInt = 0 := b_eq rfl (by decide) c174
          refine lv_iconst (v := 0) hx hb dX1_readPart_223 (by decide) ?_
          have cl176 : 0 ≤ (V 42 b).toInt ∧ (V 42 b).toInt ≤ 8200 := hMV 42 b
          have cd177 : CD V15 b := ⟨CB.e1 cd.1 t14 (by omega) (by decide), CO.e1 cd.2 t14 (by decide) (by omega)⟩
          have cd178 : CD V171 b := ⟨CB.ag cd177.1 (show agr [(1, 3), (1, 8), (6, 8), (6, 9), (6, 10)] [] V15 V171 from (agr.tr (agr.tr agr.rf ajV20 (by decide) (by decide)) ajV171 (by decide) (by decide))) (fun _ => rfl) (fun _ => rfl), CO.ag cd177.2 (show agr [(1, 3), (1, 8), (6, 8), (6, 9), (6, 10)] [] V15 V171 from (agr.tr (agr.tr agr.rf ajV20 (by decide) (by decide)) ajV171 (by decide) (by decide))) (fun _ => rfl) (fun _ => rfl)⟩
          have px179 : px V V15 b := px.tr (px.rf : px V V b) ⟨emX.p0x t14, ajV15 43 _ rfl⟩
          have px180 : px V V171 b := px.tr px179 (px.ag (show agr [(1, 3), (1, 8), (6, 8), (6, 9), (6, 10)] [] V15 V171 from (agr.tr (agr.tr agr.rf ajV20 (by decide) (by decide)) ajV171 (by decide) (by decide))) (fun _ => rfl) (fun _ => rfl) (fun _ => rfl))
          exact W.zret (v := 0) hx hb hr rfl (fun t ht hW => ⟨⟨0, (V171, L172), rfl, ⟨hMV171, agV171, alL172, fwV171, (by decide), cd178, px180⟩, by rw [ht]; exact hP, va_K.moved hW.alike hK, hD⟩, hS.F ht⟩) hS.2.2 dX1_readPart_224
        · skip
          have f181 : z167.toInt ≠ 0 := b_neq rfl (by decide) c174
          refine lv_aload_n hx hb dX1_readPart_206 rfl (lv_at hl 2 rfl) ?_
          refine lv_bipush (v := 12) hx hb dX1_readPart_207 (by decide) ?_
          refine lv_aload_n hx hb dX1_readPart_209 rfl (lv_at hl 2 rfl) ?_
          refine va_get (D := D) (ci := 1) (v := .int (V171 1 8)) (fs := (xfReader ad V171 L172 Z)) (C := RX1) (T := TX1) (N := 9) hx hb hg inX1 hown hK hP 1 xgReader rfl 8 (by decide) (hg _ w312) (fun _ h9 => h9) rfl dX1_readPart_210 ?_
          have r182 : Int32.toInt 12 = 12 := by decide
          have pq183 : (V171 1 1).toInt = ((V 1 1)).toInt := congrArg Int32.toInt ((ajV171 1 1 rfl).trans ((ajV20 1 1 rfl).trans (ajV15 1 1 rfl)))
          have cl184 : 0 ≤ (V 42 b).toInt ∧ (V 42 b).toInt ≤ 8200 := hMV 42 b
          have cd185 : CD V15 b := ⟨CB.e1 cd.1 t14 (by omega) (by decide), CO.e1 cd.2 t14 (by decide) (by omega)⟩
          have cd186 : CD V171 b := ⟨CB.ag cd185.1 (show agr [(1, 3), (1, 8), (6, 8), (6, 9), (6, 10)] [] V15 V171 from (agr.tr (agr.tr agr.rf ajV20 (by decide) (by decide)) ajV171 (by decide) (by decide))) (fun _ => rfl) (fun _ => rfl), CO.ag cd185.2 (show agr [(1, 3), (1, 8), (6, 8), (6, 9), (6, 10)] [] V15 V171 from (agr.tr (agr.tr agr.rf ajV20 (by decide) (by decide)) ajV171 (by decide) (by decide))) (fun _ => rfl) (fun _ => rfl)⟩
          refine gA_int (gA_runV (As := [.int 12, .int (V171 1 8)]) (rest := []) (ci := 1) (q0 := 1) hx hb hml hown hg hP hD hK hS hA hnw hgk (x_put l D ks H.size ad kk V171 L172 Z 12 (V171 1 8) (b) hMV171 (by decide) (show b < 2 from by first | omega | ((try (have i_t170 := Imp.go t170 (by omega))); (try (have i_cd := Imp.go cd (by omega))); (try (have i_cd := Imp.go cd (by omega))); (try (have i_t170 := Imp.go t170 (by omega))); omega)) (show (V171 1 1).toInt = (b : Int) from by first | omega | ((try (have i_t170 := Imp.go t170 (by omega))); (try (have i_cd := Imp.go cd (by omega))); (try (have i_cd := Imp.go cd (by omega))); (try (have i_t170 := Imp.go t170 (by omega))); omega)) cd186 (Imp.mk (fun hp => absurd hp (by decide))) (Imp.mk (fun hp => absurd hp (by decide))) (Imp.mk (fun hp => have hp : (Int32.toInt 12) = 13 ∨ (Int32.toInt 12) = 14 := hp; (show ((V171 1 8)).toInt = 0 from by first | omega | ((try (have i_t170 := Imp.go t170 (by omega))); (try (have i_cd := Imp.go cd (by omega))); (try (have i_cd := Imp.go cd (by omega))); (try (have i_t170 := Imp.go t170 (by omega))); omega))))) w975 w977 w26 w162 w978 rfl xgReader hdV_yX1_put ⟨(by show 1 + 1 ≤ 10 * (d9 + 1) + 6; omega), (by show 8 + (3 + 11) + (21) ≤ 300 * (d9 + 1) + 150; omega)⟩ rfl hl.1 rfl (Nat.le_of_ble_eq_true rfl) dX1_readPart_213 ⟨Nat.le_of_ble_eq_true rfl, Nat.le_of_ble_eq_true rfl⟩) hP hD hK hS hA (fun z187 u188 H locs w189 hP hD hK hS => ?_)
          obtain ⟨V193, L194⟩ := u188
          obtain ⟨hMV193, ajV193, axL194, fyV193, rgz187, t190, t191, t192⟩ := w189
          have axL194 : L172 = L194 := Eq.symm axL194
          subst axL194
          have hP : va_P D vwCl (xw ad kk V193 L172 Z) H := hP
          have hD : va_D A (xw ad kk V193 L172 Z) := hD
          have hMV193 : rgd bX V193 := hMV193
          have ajV193 : agr [] [42, 48] V171 V193 := ajV193
          have agV193 : agr [(1, 3), (1, 6), (1, 8), (6, 8), (6, 9), (6, 10)] [42, 43, 44, 48] V V193 := agV171.tr ajV193 (by decide) (by decide)
          have fwV193 : frX (xR b) V V193 := frX.tr fwV171 (fyV193)
          have rgz187 : 1 ≤ z187.toInt ∧ z187.toInt ≤ 1 := rgz187
          have t190 : Imp ((Int32.toInt 12) = 13 ∨ (Int32.toInt 12) = 14) (jp V193 b (V171 42 b).toInt.toNat) := t190
          have t191 : CD V193 b := t191
          have t192 : px V171 V193 b := t192
          refine lv_if_eq (tgt := 223) hx hb dX1_readPart_216 (by decide) (fun c195 => ?_) (fun c195 => ?_)
          · skip
            have f196 : z187.toInt = 0 := b_eq rfl (by decide) c195
            exfalso; first | omega | ((try (have i_t170 := Imp.go t170 (by omega))); (try (have i_cd := Imp.go cd (by omega))); (try (have i_cd := Imp.go cd (by omega))); (try (have i_t170 := Imp.go t170 (by omega))); omega)
          · skip
            have f197 : z187.toInt ≠ 0 := b_neq rfl (by decide) c195
            refine lv_iconst (v := 1) hx hb dX1_readPart_219 (by decide) ?_
            refine lv_goto (tgt := 224) hx hb dX1_readPart_220 (by decide) ?_
            have px198 : px V V15 b := px.tr (px.rf : px V V b) ⟨emX.p0x t14, ajV15 43 _ rfl⟩
            have px199 : px V V171 b := px.tr px198 (px.ag (show agr [(1, 3), (1, 8), (6, 8), (6, 9), (6, 10)] [] V15 V171 from (agr.tr (agr.tr agr.rf ajV20 (by decide) (by decide)) ajV171 (by decide) (by decide))) (fun _ => rfl) (fun _ => rfl) (fun _ => rfl))
            have px200 : px V V193 b := px.tr px199 t192
            exact W.zret (v := 1) hx hb hr rfl (fun t ht hW => ⟨⟨1, (V193, L172), rfl, ⟨hMV193, agV193, alL172, fwV193, (by decide), t191, px200⟩, by rw [ht]; exact hP, va_K.moved hW.alike hK, hD⟩, hS.F ht⟩) hS.2.2 dX1_readPart_224
      by_cases q201 : (V 6 9) = 145
      · refine g_top (v := 145) q201 ?_
        have fq201 : ((V 6 9)).toInt = 145 := b_eq rfl (by decide) q201
        refine lv_lookup (x := 145) (off := 194) (tgt := 251) hx hb dX1_readPart_57 (by decide) (by decide) (by decide) ?_
        refine lv_aload_n hx hb dX1_readPart_251 rfl (lv_at hl 2 rfl) ?_
        refine lv_iload_n hx hb dX1_readPart_252 rfl (lv_at hl 3 rfl) ?_
        have pq202 : (V20 1 1).toInt = ((V 1 1)).toInt := congrArg Int32.toInt ((ajV20 1 1 rfl).trans (ajV15 1 1 rfl))
        have cl203 : 0 ≤ (V 42 b).toInt ∧ (V 42 b).toInt ≤ 8200 := hMV 42 b
        have cd204 : CD V15 b := ⟨CB.e1 cd.1 t14 (by omega) (by decide), CO.e1 cd.2 t14 (by decide) (by omega)⟩
        have cd205 : CD V20 b := ⟨CB.ag cd204.1 (show agr [(6, 8), (6, 9), (6, 10)] [] V15 V20 from (agr.tr agr.rf ajV20 (by decide) (by decide))) (fun _ => rfl) (fun _ => rfl), CO.ag cd204.2 (show agr [(6, 8), (6, 9), (6, 10)] [] V15 V20 from (agr.tr agr.rf ajV20 (by decide) (by decide))) (fun _ => rfl) (fun _ => rfl)⟩
        refine gA_int (gA_runV (As := [.int p0]) (rest := []) (ci := 1) (q0 := 1) hx hb hml hown hg hP hD hK hS hA hnw hgk ((hk_x_readPick d9 rfl) H.size ad kk V20 L21 Z p0 (b) hMV20 (by first | omega | ((try (have i_cd := Imp.go cd (by omega))); omega)) (show b < 2 from by first | omega | ((try (have i_cd := Imp.go cd (by omega))); omega)) (show (V20 1 1).toInt = (b : Int) from by first | omega | ((try (have i_cd := Imp.go cd (by omega))); omega)) cd205 (show 7 - p0.toInt ≤ ((d9 : Nat) : Int) from by first | omega | ((try (have i_cd := Imp.go cd (by omega))); omega))) w983 w985 w28 w162 w986 rfl xgReader hdV_yX1_readPick ⟨(by show 10 * d9 + 10 + 1 ≤ 10 * (d9 + 1) + 6; omega), (by show 8 + (4 + 11) + (300 * d9 + 265) ≤ 300 * (d9 + 1) + 150; omega)⟩ rfl hl.1 rfl (Nat.le_of_ble_eq_true rfl) dX1_readPart_253 ⟨Nat.le_of_ble_eq_true rfl, Nat.le_of_ble_eq_true rfl⟩) hP hD hK hS hA (fun z206 u207 H locs w208 hP hD hK hS => ?_)
        obtain ⟨V211, L212⟩ := u207
        obtain ⟨hMV211, ajV211, axL212, fyV211, rgz206, t209, t210⟩ := w208
        have alL212 : agL [6, 44] L L212 := agL.tr alL21 axL212 (by decide)
        have hP : va_P D vwCl (xw ad kk V211 L212 Z) H := hP
        have hD : va_D A (xw ad kk V211 L212 Z) := hD
        have hMV211 : rgd bX V211 := hMV211
        have ajV211 : agr [(1, 3), (1, 6), (1, 8), (6, 8), (6, 9), (6, 10)] [42, 43, 44, 48] V20 V211 := ajV211
        have agV211 : agr [(1, 3), (1, 6), (1, 8), (6, 8), (6, 9), (6, 10)] [42, 43, 44, 48] V V211 := agV20.tr ajV211 (by decide) (by decide)
        have fwV211 : frX (xR b) V V211 := frX.tr fwV20 (fyV211)
        have rgz206 : 0 ≤ z206.toInt ∧ z206.toInt ≤ 1 := rgz206
        have t209 : CD V211 b := t209
        have t210 : px V20 V211 b := t210
        have px213 : px V V15 b := px.tr (px.rf : px V V b) ⟨emX.p0x t14, ajV15 43 _ rfl⟩
        have px214 : px V V20 b := px.tr px213 (px.ag (show agr [(6, 8), (6, 9), (6, 10)] [] V15 V20 from (agr.tr agr.rf ajV20 (by decide) (by decide))) (fun _ => rfl) (fun _ => rfl) (fun _ => rfl))
        have px215 : px V V211 b := px.tr px214 t210
        exact W.zret (v := z206) hx hb hr (nb_ok (by omega)) (fun t ht hW => ⟨⟨z206, (V211, L212), rfl, ⟨hMV211, agV211, alL212, fwV211, (show 0 ≤ z206.toInt ∧ z206.toInt ≤ 1 from by first | omega | ((try (have i_cd := Imp.go cd (by omega))); omega)), t209, px215⟩, by rw [ht]; exact hP, va_K.moved hW.alike hK, hD⟩, hS.F ht⟩) hS.2.2 dX1_readPart_256
      by_cases q216 : (V 6 9) = 146
      · refine g_top (v := 146) q216 ?_
        have fq216 : ((V 6 9)).toInt = 146 := b_eq rfl (by decide) q216
        refine lv_lookup (x := 146) (off := 200) (tgt := 257) hx hb dX1_readPart_57 (by decide) (by decide) (by decide) ?_
        refine lv_aload_n hx hb dX1_readPart_257 rfl (lv_at hl 2 rfl) ?_
        refine lv_iload_n hx hb dX1_readPart_258 rfl (lv_at hl 3 rfl) ?_
        have pq217 : (V20 1 1).toInt = ((V 1 1)).toInt := congrArg Int32.toInt ((ajV20 1 1 rfl).trans (ajV15 1 1 rfl))
        have cl218 : 0 ≤ (V 42 b).toInt ∧ (V 42 b).toInt ≤ 8200 := hMV 42 b
        have cd219 : CD V15 b := ⟨CB.e1 cd.1 t14 (by omega) (by decide), CO.e1 cd.2 t14 (by decide) (by omega)⟩
        have cd220 : CD V20 b := ⟨CB.ag cd219.1 (show agr [(6, 8), (6, 9), (6, 10)] [] V15 V20 from (agr.tr agr.rf ajV20 (by decide) (by decide))) (fun _ => rfl) (fun _ => rfl), CO.ag cd219.2 (show agr [(6, 8), (6, 9), (6, 10)] [] V15 V20 from (agr.tr agr.rf ajV20 (by decide) (by decide))) (fun _ => rfl) (fun _ => rfl)⟩
        refine gA_int (gA_runV (As := [.int p0]) (rest := []) (ci := 1) (q0 := 1) hx hb hml hown hg hP hD hK hS hA hnw hgk ((hk_x_readOf d9 rfl) H.size ad kk V20 L21 Z p0 (b) hMV20 (by first | omega | ((try (have i_cd := Imp.go cd (by omega))); omega)) (show b < 2 from by first | omega | ((try (have i_cd := Imp.go cd (by omega))); omega)) (show (V20 1 1).toInt = (b : Int) from by first | omega | ((try (have i_cd := Imp.go cd (by omega))); omega)) cd220 (show 7 - p0.toInt ≤ ((d9 : Nat) : Int) from by first | omega | ((try (have i_cd := Imp.go cd (by omega))); omega))) w991 w993 w29 w162 w994 rfl xgReader hdV_yX1_readOf ⟨(by show 10 * d9 + 11 + 1 ≤ 10 * (d9 + 1) + 6; omega), (by show 8 + (4 + 11) + (300 * d9 + 290) ≤ 300 * (d9 + 1) + 150; omega)⟩ rfl hl.1 rfl (Nat.le_of_ble_eq_true rfl) dX1_readPart_259 ⟨Nat.le_of_ble_eq_true rfl, Nat.le_of_ble_eq_true rfl⟩) hP hD hK hS hA (fun z221 u222 H locs w223 hP hD hK hS => ?_)
        obtain ⟨V226, L227⟩ := u222
        obtain ⟨hMV226, ajV226, axL227, fyV226, rgz221, t224, t225⟩ := w223
        have alL227 : agL [6, 44] L L227 := agL.tr alL21 axL227 (by decide)
        have hP : va_P D vwCl (xw ad kk V226 L227 Z) H := hP
        have hD : va_D A (xw ad kk V226 L227 Z) := hD
        have hMV226 : rgd bX V226 := hMV226
        have ajV226 : agr [(1, 3), (1, 6), (1, 8), (6, 8), (6, 9), (6, 10)] [42, 43, 44, 48] V20 V226 := ajV226
        have agV226 : agr [(1, 3), (1, 6), (1, 8), (6, 8), (6, 9), (6, 10)] [42, 43, 44, 48] V V226 := agV20.tr ajV226 (by decide) (by decide)
        have fwV226 : frX (xR b) V V226 := frX.tr fwV20 (fyV226)
        have rgz221 : 0 ≤ z221.toInt ∧ z221.toInt ≤ 1 := rgz221
        have t224 : CD V226 b := t224
        have t225 : px V20 V226 b := t225
        have px228 : px V V15 b := px.tr (px.rf : px V V b) ⟨emX.p0x t14, ajV15 43 _ rfl⟩
        have px229 : px V V20 b := px.tr px228 (px.ag (show agr [(6, 8), (6, 9), (6, 10)] [] V15 V20 from (agr.tr agr.rf ajV20 (by decide) (by decide))) (fun _ => rfl) (fun _ => rfl) (fun _ => rfl))
        have px230 : px V V226 b := px.tr px229 t225
        exact W.zret (v := z221) hx hb hr (nb_ok (by omega)) (fun t ht hW => ⟨⟨z221, (V226, L227), rfl, ⟨hMV226, agV226, alL227, fwV226, (show 0 ≤ z221.toInt ∧ z221.toInt ≤ 1 from by first | omega | ((try (have i_cd := Imp.go cd (by omega))); omega)), t224, px230⟩, by rw [ht]; exact hP, va_K.moved hW.alike hK, hD⟩, hS.F ht⟩) hS.2.2 dX1_readPart_262
      refine lv_lookup (x := (V 6 9)) (off := 206) (tgt := 263) hx hb dX1_readPart_57 (by decide) ((lv_osw q22 (by decide)).trans ((lv_osw q40 (by decide)).trans ((lv_osw q78 (by decide)).trans ((lv_osw q113 (by decide)).trans ((lv_osw q149 (by decide)).trans ((lv_osw q165 (by decide)).trans ((lv_osw q201 (by decide)).trans ((lv_osw q216 (by decide)).trans rfl)))))))) (by decide) ?_
      have gq22 : ((V 6 9)).toInt ≠ 2 := b_neq rfl (by decide) q22
      have gq40 : ((V 6 9)).toInt ≠ 40 := b_neq rfl (by decide) q40
      have gq78 : ((V 6 9)).toInt ≠ 45 := b_neq rfl (by decide) q78
      have gq113 : ((V 6 9)).toInt ≠ 130 := b_neq rfl (by decide) q113
      have gq149 : ((V 6 9)).toInt ≠ 143 := b_neq rfl (by decide) q149
      have gq165 : ((V 6 9)).toInt ≠ 144 := b_neq rfl (by decide) q165
      have gq201 : ((V 6 9)).toInt ≠ 145 := b_neq rfl (by decide) q201
      have gq216 : ((V 6 9)).toInt ≠ 146 := b_neq rfl (by decide) q216
      refine lv_aload_n hx hb dX1_readPart_263 rfl (lv_at hl 2 rfl) ?_
      refine lv_iload_n hx hb dX1_readPart_264 rfl (lv_at hl 3 rfl) ?_
      have pq231 : (V20 1 1).toInt = ((V 1 1)).toInt := congrArg Int32.toInt ((ajV20 1 1 rfl).trans (ajV15 1 1 rfl))
      have cl232 : 0 ≤ (V 42 b).toInt ∧ (V 42 b).toInt ≤ 8200 := hMV 42 b
      have cd233 : CD V15 b := ⟨CB.e1 cd.1 t14 (by omega) (by decide), CO.e1 cd.2 t14 (by decide) (by omega)⟩
      have cd234 : CD V20 b := ⟨CB.ag cd233.1 (show agr [(6, 8), (6, 9), (6, 10)] [] V15 V20 from (agr.tr agr.rf ajV20 (by decide) (by decide))) (fun _ => rfl) (fun _ => rfl), CO.ag cd233.2 (show agr [(6, 8), (6, 9), (6, 10)] [] V15 V20 from (agr.tr agr.rf ajV20 (by decide) (by decide))) (fun _ => rfl) (fun _ => rfl)⟩
      refine gA_int (gA_runV (As := [.int p0]) (rest := []) (ci := 1) (q0 := 1) hx hb hml hown hg hP hD hK hS hA hnw hgk ((hk_x_readWithin d9 rfl) H.size ad kk V20 L21 Z p0 (b) hMV20 (by first | omega | ((try (have i_cd := Imp.go cd (by omega))); omega)) (show b < 2 from by first | omega | ((try (have i_cd := Imp.go cd (by omega))); omega)) (show (V20 1 1).toInt = (b : Int) from by first | omega | ((try (have i_cd := Imp.go cd (by omega))); omega)) cd234 (show 7 - p0.toInt ≤ ((d9 : Nat) : Int) from by first | omega | ((try (have i_cd := Imp.go cd (by omega))); omega))) w995 w997 w30 w162 w998 rfl xgReader hdV_yX1_readWithin ⟨(by show 10 * d9 + 10 + 1 ≤ 10 * (d9 + 1) + 6; omega), (by show 8 + (2 + 11) + (300 * d9 + 265) ≤ 300 * (d9 + 1) + 150; omega)⟩ rfl hl.1 rfl (Nat.le_of_ble_eq_true rfl) dX1_readPart_265 ⟨Nat.le_of_ble_eq_true rfl, Nat.le_of_ble_eq_true rfl⟩) hP hD hK hS hA (fun z235 u236 H locs w237 hP hD hK hS => ?_)
      obtain ⟨V240, L241⟩ := u236
      obtain ⟨hMV240, ajV240, axL241, fyV240, rgz235, t238, t239⟩ := w237
      have alL241 : agL [6, 44] L L241 := agL.tr alL21 axL241 (by decide)
      have hP : va_P D vwCl (xw ad kk V240 L241 Z) H := hP
      have hD : va_D A (xw ad kk V240 L241 Z) := hD
      have hMV240 : rgd bX V240 := hMV240
      have ajV240 : agr [(1, 3), (1, 6), (1, 8), (6, 8), (6, 9), (6, 10)] [42, 43, 44, 48] V20 V240 := ajV240
      have agV240 : agr [(1, 3), (1, 6), (1, 8), (6, 8), (6, 9), (6, 10)] [42, 43, 44, 48] V V240 := agV20.tr ajV240 (by decide) (by decide)
      have fwV240 : frX (xR b) V V240 := frX.tr fwV20 (fyV240)
      have rgz235 : 0 ≤ z235.toInt ∧ z235.toInt ≤ 1 := rgz235
      have t238 : CD V240 b := t238
      have t239 : px V20 V240 b := t239
      refine lv_if_eq (tgt := 283) hx hb dX1_readPart_268 (by decide) (fun c242 => ?_) (fun c242 => ?_)
      · skip
        have f243 : z235.toInt = 0 := b_eq rfl (by decide) c242
        refine lv_iconst (v := 0) hx hb dX1_readPart_283 (by decide) ?_
        have px244 : px V V15 b := px.tr (px.rf : px V V b) ⟨emX.p0x t14, ajV15 43 _ rfl⟩
        have px245 : px V V20 b := px.tr px244 (px.ag (show agr [(6, 8), (6, 9), (6, 10)] [] V15 V20 from (agr.tr agr.rf ajV20 (by decide) (by decide))) (fun _ => rfl) (fun _ => rfl) (fun _ => rfl))
        have px246 : px V V240 b := px.tr px245 t239
        exact W.zret (v := 0) hx hb hr rfl (fun t ht hW => ⟨⟨0, (V240, L241), rfl, ⟨hMV240, agV240, alL241, fwV240, (by decide), t238, px246⟩, by rw [ht]; exact hP, va_K.moved hW.alike hK, hD⟩, hS.F ht⟩) hS.2.2 dX1_readPart_284
      · skip
        have f247 : z235.toInt ≠ 0 := b_neq rfl (by decide) c242
        refine lv_aload_n hx hb dX1_readPart_271 rfl (lv_at hl 2 rfl) ?_
        refine lv_iconst (v := 4) hx hb dX1_readPart_272 (by decide) ?_
        have r248 : Int32.toInt 4 = 4 := by decide
        have pq249 : (V240 1 1).toInt = ((V 1 1)).toInt := congrArg Int32.toInt ((ajV240 1 1 rfl).trans ((ajV20 1 1 rfl).trans (ajV15 1 1 rfl)))
        refine gA_int (gA_runV (As := [.int 4]) (rest := []) (ci := 1) (q0 := 1) hx hb hml hown hg hP hD hK hS hA hnw hgk (x_putAlone l D ks H.size ad kk V240 L241 Z 4 (b) hMV240 (by decide) (show b < 2 from by first | omega | ((try (have i_cd := Imp.go cd (by omega))); omega)) (show (V240 1 1).toInt = (b : Int) from by first | omega | ((try (have i_cd := Imp.go cd (by omega))); omega)) t238) w979 w981 w27 w162 w982 rfl xgReader hdV_yX1_putAlone ⟨(by show 1 + 1 ≤ 10 * (d9 + 1) + 6; omega), (by show 8 + (2 + 11) + (21) ≤ 300 * (d9 + 1) + 150; omega)⟩ rfl hl.1 rfl (Nat.le_of_ble_eq_true rfl) dX1_readPart_273 ⟨Nat.le_of_ble_eq_true rfl, Nat.le_of_ble_eq_true rfl⟩) hP hD hK hS hA (fun z250 u251 H locs w252 hP hD hK hS => ?_)
        obtain ⟨V255, L256⟩ := u251
        obtain ⟨hMV255, ajV255, axL256, fyV255, rgz250, t253, t254⟩ := w252
        have axL256 : L241 = L256 := Eq.symm axL256
        subst axL256
        have hP : va_P D vwCl (xw ad kk V255 L241 Z) H := hP
        have hD : va_D A (xw ad kk V255 L241 Z) := hD
        have hMV255 : rgd bX V255 := hMV255
        have ajV255 : agr [] [42, 48] V240 V255 := ajV255
        have agV255 : agr [(1, 3), (1, 6), (1, 8), (6, 8), (6, 9), (6, 10)] [42, 43, 44, 48] V V255 := agV240.tr ajV255 (by decide) (by decide)
        have fwV255 : frX (xR b) V V255 := frX.tr fwV240 (fyV255)
        have rgz250 : 1 ≤ z250.toInt ∧ z250.toInt ≤ 1 := rgz250
        have t253 : CD V255 b := t253
        have t254 : px V240 V255 b := t254
        refine lv_if_eq (tgt := 283) hx hb dX1_readPart_276 (by decide) (fun c257 => ?_) (fun c257 => ?_)
        · skip
          have f258 : z250.toInt = 0 := b_eq rfl (by decide) c257
          exfalso; first | omega | ((try (have i_cd := Imp.go cd (by omega))); omega)
        · skip
          have f259 : z250.toInt ≠ 0 := b_neq rfl (by decide) c257
          refine lv_iconst (v := 1) hx hb dX1_readPart_279 (by decide) ?_
          refine lv_goto (tgt := 284) hx hb dX1_readPart_280 (by decide) ?_
          have px260 : px V V15 b := px.tr (px.rf : px V V b) ⟨emX.p0x t14, ajV15 43 _ rfl⟩
          have px261 : px V V20 b := px.tr px260 (px.ag (show agr [(6, 8), (6, 9), (6, 10)] [] V15 V20 from (agr.tr agr.rf ajV20 (by decide) (by decide))) (fun _ => rfl) (fun _ => rfl) (fun _ => rfl))
          have px262 : px V V240 b := px.tr px261 t239
          have px263 : px V V255 b := px.tr px262 t254
          exact W.zret (v := 1) hx hb hr rfl (fun t ht hW => ⟨⟨1, (V255, L241), rfl, ⟨hMV255, agV255, alL241, fwV255, (by decide), t253, px263⟩, by rw [ht]; exact hP, va_K.moved hW.alike hK, hD⟩, hS.F ht⟩) hS.2.2 dX1_readPart_284
    · skip
      have f264 : 8 ≤ p0.toInt := b_nlt rfl (by decide) c7
      refine lv_aload_n hx hb dX1_readPart_19 rfl (lv_at hl 0 rfl) ?_
      refine lv_iconst (v := 5) hx hb dX1_readPart_20 (by decide) ?_
      have r265 : Int32.toInt 5 = 5 := by decide
      refine gA_int (gA_runV (As := [.int 5]) (rest := []) (ci := 1) (q0 := 1) hx hb hml hown hg hP hD hK hS hA hnw hgk (x_wrong l D ks H.size ad kk V L Z 5 hMV ) w867 w869 w6 w162 w870 rfl xgReader hdV_yX1_wrong ⟨(by show 0 + 1 ≤ 10 * dd + 6; omega), (by show 8 + (2 + 11) + (0) ≤ 300 * dd + 150; omega)⟩ rfl hl.1 rfl (Nat.le_of_ble_eq_true rfl) dX1_readPart_21 ⟨Nat.le_of_ble_eq_true rfl, Nat.le_of_ble_eq_true rfl⟩) hP hD hK hS hA (fun z266 u267 H locs w268 hP hD hK hS => ?_)
      obtain ⟨V269, L270⟩ := u267
      obtain ⟨hMV269, ajV269, axL270, rgz266⟩ := w268
      have axL270 : L = L270 := Eq.symm axL270
      subst axL270
      have hP : va_P D vwCl (xw ad kk V269 L Z) H := hP
      have hD : va_D A (xw ad kk V269 L Z) := hD
      have hMV269 : rgd bX V269 := hMV269
      have ajV269 : agr [(1, 3)] [] V V269 := ajV269
      have agV269 : agr [(1, 3), (1, 6), (1, 8), (6, 8), (6, 9), (6, 10)] [42, 43, 44, 48] V V269 := agV.tr ajV269 (by decide) (by decide)
      have fwV269 : frX (xR b) V V269 := frX.tr fwV (frX.ag ajV269 (by decide) (by decide))
      have rgz266 : 0 ≤ z266.toInt ∧ z266.toInt ≤ 0 := rgz266
      have cd271 : CD V269 b := ⟨CB.ag cd.1 (show agr [(1, 3)] [] V V269 from (agr.tr agr.rf ajV269 (by decide) (by decide))) (fun _ => rfl) (fun _ => rfl), CO.ag cd.2 (show agr [(1, 3)] [] V V269 from (agr.tr agr.rf ajV269 (by decide) (by decide))) (fun _ => rfl) (fun _ => rfl)⟩
      have px272 : px V V269 b := px.tr (px.rf : px V V b) (px.ag (show agr [(1, 3)] [] V V269 from (agr.tr agr.rf ajV269 (by decide) (by decide))) (fun _ => rfl) (fun _ => rfl) (fun _ => rfl))
      exact W.zret (v := z266) hx hb hr (nb_ok (by omega)) (fun t ht hW => ⟨⟨z266, (V269, L), rfl, ⟨hMV269, agV269, alL, fwV269, (show 0 ≤ z266.toInt ∧ z266.toInt ≤ 1 from by first | omega | ((try (have i_cd := Imp.go cd (by omega))); omega)), cd271, px272⟩, by rw [ht]; exact hP, va_K.moved hW.alike hK, hD⟩, hS.F ht⟩) hS.2.2 dX1_readPart_24
  · skip
    have f273 : z2.toInt = 0 := b_eq rfl (by decide) c5
    refine lv_aload_n hx hb dX1_readPart_7 rfl (lv_at hl 0 rfl) ?_
    refine lv_iconst (v := 1) hx hb dX1_readPart_8 (by decide) ?_
    have r274 : Int32.toInt 1 = 1 := by decide
    refine gA_int (gA_runV (As := [.int 1]) (rest := []) (ci := 1) (q0 := 1) hx hb hml hown hg hP hD hK hS hA hnw hgk (x_wrong l D ks H.size ad kk V L Z 1 hMV ) w867 w869 w6 w162 w870 rfl xgReader hdV_yX1_wrong ⟨(by show 0 + 1 ≤ 10 * dd + 6; omega), (by show 8 + (2 + 11) + (0) ≤ 300 * dd + 150; omega)⟩ rfl hl.1 rfl (Nat.le_of_ble_eq_true rfl) dX1_readPart_9 ⟨Nat.le_of_ble_eq_true rfl, Nat.le_of_ble_eq_true rfl⟩) hP hD hK hS hA (fun z275 u276 H locs w277 hP hD hK hS => ?_)
    obtain ⟨V278, L279⟩ := u276
    obtain ⟨hMV278, ajV278, axL279, rgz275⟩ := w277
    have axL279 : L = L279 := Eq.symm axL279
    subst axL279
    have hP : va_P D vwCl (xw ad kk V278 L Z) H := hP
    have hD : va_D A (xw ad kk V278 L Z) := hD
    have hMV278 : rgd bX V278 := hMV278
    have ajV278 : agr [(1, 3)] [] V V278 := ajV278
    have agV278 : agr [(1, 3), (1, 6), (1, 8), (6, 8), (6, 9), (6, 10)] [42, 43, 44, 48] V V278 := agV.tr ajV278 (by decide) (by decide)
    have fwV278 : frX (xR b) V V278 := frX.tr fwV (frX.ag ajV278 (by decide) (by decide))
    have rgz275 : 0 ≤ z275.toInt ∧ z275.toInt ≤ 0 := rgz275
    have cd280 : CD V278 b := ⟨CB.ag cd.1 (show agr [(1, 3)] [] V V278 from (agr.tr agr.rf ajV278 (by decide) (by decide))) (fun _ => rfl) (fun _ => rfl), CO.ag cd.2 (show agr [(1, 3)] [] V V278 from (agr.tr agr.rf ajV278 (by decide) (by decide))) (fun _ => rfl) (fun _ => rfl)⟩
    have px281 : px V V278 b := px.tr (px.rf : px V V b) (px.ag (show agr [(1, 3)] [] V V278 from (agr.tr agr.rf ajV278 (by decide) (by decide))) (fun _ => rfl) (fun _ => rfl) (fun _ => rfl))
    exact W.zret (v := z275) hx hb hr (nb_ok (by omega)) (fun t ht hW => ⟨⟨z275, (V278, L), rfl, ⟨hMV278, agV278, alL, fwV278, (show 0 ≤ z275.toInt ∧ z275.toInt ≤ 1 from by first | omega | ((try (have i_cd := Imp.go cd (by omega))); omega)), cd280, px281⟩, by rw [ht]; exact hP, va_K.moved hW.alike hK, hD⟩, hS.F ht⟩) hS.2.2 dX1_readPart_12
set_option maxHeartbeats 4000000 in
set_option maxRecDepth 100000 in
theorem x_readOf {l : Launch} {D : va_G} {ks : KS} {dd : Nat} (hk_x_readWithin : K_x_readWithin l D ks dd) : K_x_readOf l D ks dd := by
  intro sz ad kk V L Z p0 b hMV rg_p0 hb2 rbk cd y1
  refine g_met (q_x_readOf D ks ad kk V L Z p0 b) (by decide) (Nat.le_of_ble_eq_true rfl) ?_
  intro p e s m below meth c A ls H locs hx hb hr hml hown hg hlocks hin hnw hgk hP hK hD hS hA hl
  have hown : s.vm.findClass RX1 = some m.cls := hown
  have hl : lv_has ls 4 [(0, .ref (ad 1)), (1, .int p0)] := hl
  have hP : va_P D vwCl (xw ad kk V L Z) H := hP
  have hD : va_D A (xw ad kk V L Z) := hD
  have hK : va_K D vwCl (xty kk Z) s := hK
  have agV : agr [(1, 3), (1, 6), (1, 8), (6, 8), (6, 9), (6, 10)] [42, 43, 44, 48] V V := agr.rf
  have alL : agL [6, 44] L L := agL.rf
  have fwV : frX (xR b) V V := frX.rf
  have r1 : (-1) ≤ ((V 1 1)).toInt ∧ ((V 1 1)).toInt ≤ 1 := hMV 1 1
  have ro : -1 ≤ (V 1 2).toInt ∧ (V 1 2).toInt ≤ 47 := hMV 1 2
  by_cases hon : (V 1 2).toInt < 0
  · skip
    refine lv_aload_n hx hb dX1_readOf_0 rfl (lv_at hl 0 rfl) ?_
    refine lv_iconst (v := 0) hx hb dX1_readOf_1 (by decide) ?_
    refine lv_aload_n hx hb dX1_readOf_2 rfl (lv_at hl 0 rfl) ?_
    refine va_get (D := D) (ci := 1) (v := rfN ad 72 (V 1 2)) (fs := (xfReader ad V L Z)) (C := RX1) (T := TX1) (N := 9) hx hb hg inX1 hown hK hP 1 xgReader rfl 2 (by decide) (hg _ w306) (fun _ h9 => h9) rfl dX1_readOf_3 ?_
    have r2 : (-1) ≤ ((V 1 2)).toInt ∧ ((V 1 2)).toInt ≤ 47 := hMV 1 2
    refine g_topv (v := .null) (rfN_n (by first | omega | ((try (have i_cd := Imp.go cd (by omega))); omega))) ?_
    refine lv_ifnonnullN hx hb dX1_readOf_6 ?_
    refine lv_iconst (v := (-1)) hx hb dX1_readOf_9 (by decide) ?_
    refine lv_goto (tgt := 22) hx hb dX1_readOf_10 (by decide) ?_
    have r3 : Int32.toInt 0 = 0 := by decide
    have r4 : Int32.toInt (-1) = (-1) := by decide
    refine gA_int (gA_runV (As := [.int 0, .int (-1)]) (rest := []) (ci := 1) (q0 := 1) hx hb hml hown hg hP hD hK hS hA hnw hgk (x_takeNumber l D ks H.size ad kk V L Z 0 (-1) hMV (show 0 ≤ (Int32.toInt 0) from by first | omega | ((try (have i_cd := Imp.go cd (by omega))); omega)) (show (Int32.toInt (-1)) ≤ 999999999 from by first | omega | ((try (have i_cd := Imp.go cd (by omega))); omega))) w906 w908 w12 w162 w909 rfl xgReader hdV_yX1_takeNumber ⟨(by show 1 + 1 ≤ 10 * dd + 11; omega), (by show 8 + (3 + 11) + (21) ≤ 300 * dd + 290; omega)⟩ rfl hl.1 rfl (Nat.le_of_ble_eq_true rfl) dX1_readOf_22 ⟨Nat.le_of_ble_eq_true rfl, Nat.le_of_ble_eq_true rfl⟩) hP hD hK hS hA (fun z5 u6 H locs w7 hP hD hK hS => ?_)
    obtain ⟨V9, L10⟩ := u6
    obtain ⟨hMV9, ajV9, axL10, rgz5, t8⟩ := w7
    have alL10 : agL [6, 44] L L10 := agL.tr alL axL10 (by decide)
    have hP : va_P D vwCl (xw ad kk V9 L10 Z) H := hP
    have hD : va_D A (xw ad kk V9 L10 Z) := hD
    have hMV9 : rgd bX V9 := hMV9
    have ajV9 : agr [(1, 3), (1, 8), (6, 8), (6, 9), (6, 10)] [] V V9 := ajV9
    have agV9 : agr [(1, 3), (1, 6), (1, 8), (6, 8), (6, 9), (6, 10)] [42, 43, 44, 48] V V9 := agV.tr ajV9 (by decide) (by decide)
    have fwV9 : frX (xR b) V V9 := frX.tr fwV (frX.ag ajV9 (by decide) (by decide))
    have rgz5 : 0 ≤ z5.toInt ∧ z5.toInt ≤ 1 := rgz5
    have t8 : Imp (z5.toInt = 1) ((Int32.toInt 0) ≤ (V9 1 8).toInt ∧ (V9 1 8).toInt ≤ (Int32.toInt (-1))) := t8
    have r11 : 0 ≤ ((V9 1 8)).toInt ∧ ((V9 1 8)).toInt ≤ 999999999 := hMV9 1 8
    refine lv_if_ne (tgt := 30) hx hb dX1_readOf_25 (by decide) (fun c12 => ?_) (fun c12 => ?_)
    · skip
      have f13 : z5.toInt ≠ 0 := b_neq rfl (by decide) c12
      refine lv_aload_n hx hb dX1_readOf_30 rfl (lv_at hl 0 rfl) ?_
      have tn := Imp.go t8 (by omega)
      exfalso; omega
    · skip
      have f14 : z5.toInt = 0 := b_eq rfl (by decide) c12
      refine lv_iconst (v := 0) hx hb dX1_readOf_28 (by decide) ?_
      have cd15 : CD V9 b := ⟨CB.ag cd.1 (show agr [(1, 3), (1, 8), (6, 8), (6, 9), (6, 10)] [] V V9 from (agr.tr agr.rf ajV9 (by decide) (by decide))) (fun _ => rfl) (fun _ => rfl), CO.ag cd.2 (show agr [(1, 3), (1, 8), (6, 8), (6, 9), (6, 10)] [] V V9 from (agr.tr agr.rf ajV9 (by decide) (by decide))) (fun _ => rfl) (fun _ => rfl)⟩
      have px16 : px V V9 b := px.tr (px.rf : px V V b) (px.ag (show agr [(1, 3), (1, 8), (6, 8), (6, 9), (6, 10)] [] V V9 from (agr.tr agr.rf ajV9 (by decide) (by decide))) (fun _ => rfl) (fun _ => rfl) (fun _ => rfl))
      exact W.zret (v := 0) hx hb hr rfl (fun t ht hW => ⟨⟨0, (V9, L10), rfl, ⟨hMV9, agV9, alL10, fwV9, (by decide), cd15, px16⟩, by rw [ht]; exact hP, va_K.moved hW.alike hK, hD⟩, hS.F ht⟩) hS.2.2 dX1_readOf_29
  · skip
    have ko := i_clamp (x := V 1 2) rfl (by omega)
    refine lv_aload_n hx hb dX1_readOf_0 rfl (lv_at hl 0 rfl) ?_
    refine lv_iconst (v := 0) hx hb dX1_readOf_1 (by decide) ?_
    refine lv_aload_n hx hb dX1_readOf_2 rfl (lv_at hl 0 rfl) ?_
    refine va_get (D := D) (ci := 1) (v := rfN ad 72 (V 1 2)) (fs := (xfReader ad V L Z)) (C := RX1) (T := TX1) (N := 9) hx hb hg inX1 hown hK hP 1 xgReader rfl 2 (by decide) (hg _ w306) (fun _ h9 => h9) rfl dX1_readOf_3 ?_
    have r17 : (-1) ≤ ((V 1 2)).toInt ∧ ((V 1 2)).toInt ≤ 47 := hMV 1 2
    refine g_topv (v := .ref (ad (72 + (Int32.toNatClampNeg (V 1 2))))) (rfN_r (by first | omega | ((try (have i_cd := Imp.go cd (by omega))); omega))) ?_
    refine lv_ifnonnull (tgt := 13) hx hb dX1_readOf_6 (by decide) ?_
    refine lv_aload_n hx hb dX1_readOf_13 rfl (lv_at hl 0 rfl) ?_
    refine va_get (D := D) (ci := 1) (v := rfN ad 72 (V 1 2)) (fs := (xfReader ad V L Z)) (C := RX1) (T := TX1) (N := 9) hx hb hg inX1 hown hK hP 1 xgReader rfl 2 (by decide) (hg _ w306) (fun _ h9 => h9) rfl dX1_readOf_14 ?_
    refine g_topv (v := .ref (ad (72 + (Int32.toNatClampNeg (V 1 2))))) (rfN_r (by first | omega | ((try (have i_cd := Imp.go cd (by omega))); omega))) ?_
    have il18 : (Int32.toNatClampNeg (V 1 2)) < 48 := by first | omega | ((try (have i_cd := Imp.go cd (by omega))); omega)
    refine va_getN (D := D) (ci := 3) (v := .int (V 49 (Int32.toNatClampNeg (V 1 2)))) (fs := (xfComp ad V (Int32.toNatClampNeg (V 1 2)))) (C := RX3) (T := TX3) (N := 13) hx hb hg inX3 hown hK hP (72 + (Int32.toNatClampNeg (V 1 2))) (xgComp il18) rfl 4 (by decide) (hnw.use 513 n513 rfl) (fun _ h9 => h9) rfl dX1_readOf_17 ?_
    have r19 : 0 ≤ ((V 49 (Int32.toNatClampNeg (V 1 2)))).toInt ∧ ((V 49 (Int32.toNatClampNeg (V 1 2)))).toInt ≤ 8 := hMV 49 (Int32.toNatClampNeg (V 1 2))
    refine lv_iconst (v := 1) hx hb dX1_readOf_20 (by decide) ?_
    refine lv_isub hx hb dX1_readOf_21 ?_
    refine lv_topi (fun z20 ez20 => ?_)
    have hz20 : z20.toInt = ((V 49 (Int32.toNatClampNeg (V 1 2)))).toInt - 1 := i_sub ez20 rfl (by decide) (by omega)
    have r21 : Int32.toInt 0 = 0 := by decide
    refine gA_int (gA_runV (As := [.int 0, .int z20]) (rest := []) (ci := 1) (q0 := 1) hx hb hml hown hg hP hD hK hS hA hnw hgk (x_takeNumber l D ks H.size ad kk V L Z 0 z20 hMV (show 0 ≤ (Int32.toInt 0) from by first | omega | ((try (have i_cd := Imp.go cd (by omega))); omega)) (show z20.toInt ≤ 999999999 from by first | omega | ((try (have i_cd := Imp.go cd (by omega))); omega))) w906 w908 w12 w162 w909 rfl xgReader hdV_yX1_takeNumber ⟨(by show 1 + 1 ≤ 10 * dd + 11; omega), (by show 8 + (3 + 11) + (21) ≤ 300 * dd + 290; omega)⟩ rfl hl.1 rfl (Nat.le_of_ble_eq_true rfl) dX1_readOf_22 ⟨Nat.le_of_ble_eq_true rfl, Nat.le_of_ble_eq_true rfl⟩) hP hD hK hS hA (fun z22 u23 H locs w24 hP hD hK hS => ?_)
    obtain ⟨V26, L27⟩ := u23
    obtain ⟨hMV26, ajV26, axL27, rgz22, t25⟩ := w24
    have alL27 : agL [6, 44] L L27 := agL.tr alL axL27 (by decide)
    have hP : va_P D vwCl (xw ad kk V26 L27 Z) H := hP
    have hD : va_D A (xw ad kk V26 L27 Z) := hD
    have hMV26 : rgd bX V26 := hMV26
    have ajV26 : agr [(1, 3), (1, 8), (6, 8), (6, 9), (6, 10)] [] V V26 := ajV26
    have agV26 : agr [(1, 3), (1, 6), (1, 8), (6, 8), (6, 9), (6, 10)] [42, 43, 44, 48] V V26 := agV.tr ajV26 (by decide) (by decide)
    have fwV26 : frX (xR b) V V26 := frX.tr fwV (frX.ag ajV26 (by decide) (by decide))
    have rgz22 : 0 ≤ z22.toInt ∧ z22.toInt ≤ 1 := rgz22
    have t25 : Imp (z22.toInt = 1) ((Int32.toInt 0) ≤ (V26 1 8).toInt ∧ (V26 1 8).toInt ≤ z20.toInt) := t25
    have r28 : 0 ≤ ((V26 1 8)).toInt ∧ ((V26 1 8)).toInt ≤ 999999999 := hMV26 1 8
    refine lv_if_ne (tgt := 30) hx hb dX1_readOf_25 (by decide) (fun c29 => ?_) (fun c29 => ?_)
    · skip
      have f30 : z22.toInt ≠ 0 := b_neq rfl (by decide) c29
      refine lv_aload_n hx hb dX1_readOf_30 rfl (lv_at hl 0 rfl) ?_
      have tn := Imp.go t25 (by omega)
      refine va_get (D := D) (ci := 1) (v := .int (V26 1 8)) (fs := (xfReader ad V26 L27 Z)) (C := RX1) (T := TX1) (N := 9) hx hb hg inX1 hown hK hP 1 xgReader rfl 8 (by decide) (hg _ w312) (fun _ h9 => h9) rfl dX1_readOf_31 ?_
      refine lv_istore_n (lv' := [(2, .int (V26 1 8)), (0, .ref (ad 1)), (1, .int p0)]) hx hb dX1_readOf_34 rfl hl (by decide) rfl (fun ls hl => ?_)
      refine lv_aload_n hx hb dX1_readOf_35 rfl (lv_at hl 1 rfl) ?_
      refine lv_bipush (v := 46) hx hb dX1_readOf_36 (by decide) ?_
      have r31 : Int32.toInt 46 = 46 := by decide
      refine gA_int (gA_runV (As := [.int 46]) (rest := []) (ci := 1) (q0 := 1) hx hb hml hown hg hP hD hK hS hA hnw hgk (x_take l D ks H.size ad kk V26 L27 Z 46 hMV26 ) w893 w895 w10 w162 w896 rfl xgReader hdV_yX1_take ⟨(by show 1 + 1 ≤ 10 * dd + 11; omega), (by show 8 + (2 + 11) + (21) ≤ 300 * dd + 290; omega)⟩ rfl hl.1 rfl (Nat.le_of_ble_eq_true rfl) dX1_readOf_38 ⟨Nat.le_of_ble_eq_true rfl, Nat.le_of_ble_eq_true rfl⟩) hP hD hK hS hA (fun z32 u33 H locs w34 hP hD hK hS => ?_)
      obtain ⟨V35, L36⟩ := u33
      obtain ⟨hMV35, ajV35, axL36, rgz32⟩ := w34
      have alL36 : agL [6, 44] L L36 := agL.tr alL27 axL36 (by decide)
      have hP : va_P D vwCl (xw ad kk V35 L36 Z) H := hP
      have hD : va_D A (xw ad kk V35 L36 Z) := hD
      have hMV35 : rgd bX V35 := hMV35
      have ajV35 : agr [(1, 3), (6, 8), (6, 9), (6, 10)] [] V26 V35 := ajV35
      have agV35 : agr [(1, 3), (1, 6), (1, 8), (6, 8), (6, 9), (6, 10)] [42, 43, 44, 48] V V35 := agV26.tr ajV35 (by decide) (by decide)
      have fwV35 : frX (xR b) V V35 := frX.tr fwV26 (frX.ag ajV35 (by decide) (by decide))
      have rgz32 : 0 ≤ z32.toInt ∧ z32.toInt ≤ 1 := rgz32
      refine lv_if_eq (tgt := 52) hx hb dX1_readOf_41 (by decide) (fun c37 => ?_) (fun c37 => ?_)
      · skip
        have f38 : z32.toInt = 0 := b_eq rfl (by decide) c37
        refine lv_iconst (v := 0) hx hb dX1_readOf_52 (by decide) ?_
        have cd39 : CD V35 b := ⟨CB.ag cd.1 (show agr [(1, 3), (1, 8), (6, 8), (6, 9), (6, 10)] [] V V35 from (agr.tr (agr.tr agr.rf ajV26 (by decide) (by decide)) ajV35 (by decide) (by decide))) (fun _ => rfl) (fun _ => rfl), CO.ag cd.2 (show agr [(1, 3), (1, 8), (6, 8), (6, 9), (6, 10)] [] V V35 from (agr.tr (agr.tr agr.rf ajV26 (by decide) (by decide)) ajV35 (by decide) (by decide))) (fun _ => rfl) (fun _ => rfl)⟩
        have px40 : px V V35 b := px.tr (px.rf : px V V b) (px.ag (show agr [(1, 3), (1, 8), (6, 8), (6, 9), (6, 10)] [] V V35 from (agr.tr (agr.tr agr.rf ajV26 (by decide) (by decide)) ajV35 (by decide) (by decide))) (fun _ => rfl) (fun _ => rfl) (fun _ => rfl))
        exact W.zret (v := 0) hx hb hr rfl (fun t ht hW => ⟨⟨0, (V35, L36), rfl, ⟨hMV35, agV35, alL36, fwV35, (by decide), cd39, px40⟩, by rw [ht]; exact hP, va_K.moved hW.alike hK, hD⟩, hS.F ht⟩) hS.2.2 dX1_readOf_53
      · skip
        have f41 : z32.toInt ≠ 0 := b_neq rfl (by decide) c37
        refine lv_aload_n hx hb dX1_readOf_44 rfl (lv_at hl 1 rfl) ?_
        refine lv_null hx hb dX1_readOf_45 ?_
        have pq42 : (V35 1 1).toInt = ((V 1 1)).toInt := congrArg Int32.toInt ((ajV35 1 1 rfl).trans (ajV26 1 1 rfl))
        refine gA_int (gA_runV (As := [.null]) (rest := []) (ci := 1) (q0 := 1) hx hb hml hown hg hP hD hK hS hA hnw hgk (x_takeMethodN l D ks H.size ad kk V35 L36 Z (b) hMV35 (show b < 2 from by first | omega | ((try (have i_t25 := Imp.go t25 (by omega))); (try (have i_cd := Imp.go cd (by omega))); (try (have i_cd := Imp.go cd (by omega))); (try (have i_t25 := Imp.go t25 (by omega))); omega)) (show (V35 1 1).toInt = (b : Int) from by first | omega | ((try (have i_t25 := Imp.go t25 (by omega))); (try (have i_cd := Imp.go cd (by omega))); (try (have i_cd := Imp.go cd (by omega))); (try (have i_t25 := Imp.go t25 (by omega))); omega))) w939 w941 w19 w162 w942 rfl xgReader hdV_yX1_takeMethod ⟨(by show 2 + 1 ≤ 10 * dd + 11; omega), (by show 8 + (3 + 11) + (44) ≤ 300 * dd + 290; omega)⟩ rfl hl.1 rfl (Nat.le_of_ble_eq_true rfl) dX1_readOf_46 ⟨Nat.le_of_ble_eq_true rfl, Nat.le_of_ble_eq_true rfl⟩) hP hD hK hS hA (fun z43 u44 H locs w45 hP hD hK hS => ?_)
        obtain ⟨V48, L49⟩ := u44
        obtain ⟨hMV48, ajV48, axL49, fyV48, rgz43, t46, t47⟩ := w45
        have alL49 : agL [6, 44] L L49 := agL.tr alL36 axL49 (by decide)
        have hP : va_P D vwCl (xw ad kk V48 L49 Z) H := hP
        have hD : va_D A (xw ad kk V48 L49 Z) := hD
        have hMV48 : rgd bX V48 := hMV48
        have ajV48 : agr [(1, 3), (1, 6), (6, 8), (6, 9), (6, 10)] [43, 44] V35 V48 := ajV48
        have agV48 : agr [(1, 3), (1, 6), (1, 8), (6, 8), (6, 9), (6, 10)] [42, 43, 44, 48] V V48 := agV35.tr ajV48 (by decide) (by decide)
        have fwV48 : frX (xR b) V V48 := frX.tr fwV35 (fyV48)
        have rgz43 : 0 ≤ z43.toInt ∧ z43.toInt ≤ 1 := rgz43
        have t46 : Imp (z43.toInt = 1) (0 ≤ (V48 1 6).toInt ∧ (V48 1 6).toInt ≤ 19) := t46
        have t47 : px V35 V48 b := t47
        have r50 : (-1) ≤ ((V48 1 6)).toInt ∧ ((V48 1 6)).toInt ≤ 23 := hMV48 1 6
        refine lv_if_ne (tgt := 54) hx hb dX1_readOf_49 (by decide) (fun c51 => ?_) (fun c51 => ?_)
        · skip
          have f52 : z43.toInt ≠ 0 := b_neq rfl (by decide) c51
          refine lv_aload_n hx hb dX1_readOf_54 rfl (lv_at hl 1 rfl) ?_
          refine va_get (D := D) (ci := 1) (v := .int (V48 1 6)) (fs := (xfReader ad V48 L49 Z)) (C := RX1) (T := TX1) (N := 9) hx hb hg inX1 hown hK hP 1 xgReader rfl 6 (by decide) (hg _ w310) (fun _ h9 => h9) rfl dX1_readOf_55 ?_
          have tm := Imp.go t46 (by omega)
          refine lv_istore_n (lv' := [(3, .int (V48 1 6)), (2, .int (V26 1 8)), (0, .ref (ad 1)), (1, .int p0)]) hx hb dX1_readOf_58 rfl hl (by decide) rfl (fun ls hl => ?_)
          refine lv_aload_n hx hb dX1_readOf_59 rfl (lv_at hl 2 rfl) ?_
          refine lv_iload_n hx hb dX1_readOf_60 rfl (lv_at hl 3 rfl) ?_
          have pq53 : (V48 1 1).toInt = ((V 1 1)).toInt := congrArg Int32.toInt ((ajV48 1 1 rfl).trans ((ajV35 1 1 rfl).trans (ajV26 1 1 rfl)))
          have cd54 : CD V48 b := ⟨CB.ag cd.1 (show agr [(1, 3), (1, 6), (1, 8), (6, 8), (6, 9), (6, 10)] [43, 44] V V48 from (agr.tr (agr.tr (agr.tr agr.rf ajV26 (by decide) (by decide)) ajV35 (by decide) (by decide)) ajV48 (by decide) (by decide))) (fun _ => rfl) (fun _ => rfl), CO.ag cd.2 (show agr [(1, 3), (1, 6), (1, 8), (6, 8), (6, 9), (6, 10)] [43, 44] V V48 from (agr.tr (agr.tr (agr.tr agr.rf ajV26 (by decide) (by decide)) ajV35 (by decide) (by decide)) ajV48 (by decide) (by decide))) (fun _ => rfl) (fun _ => rfl)⟩
          refine gA_int (gA_runV (As := [.int p0]) (rest := []) (ci := 1) (q0 := 1) hx hb hml hown hg hP hD hK hS hA hnw hgk (hk_x_readWithin H.size ad kk V48 L49 Z p0 (b) hMV48 (by first | omega | ((try (have i_t46 := Imp.go t46 (by omega))); (try (have i_t25 := Imp.go t25 (by omega))); (try (have i_cd := Imp.go cd (by omega))); (try (have i_cd := Imp.go cd (by omega))); (try (have i_t25 := Imp.go t25 (by omega))); (try (have i_t46 := Imp.go t46 (by omega))); omega)) (show b < 2 from by first | omega | ((try (have i_t46 := Imp.go t46 (by omega))); (try (have i_t25 := Imp.go t25 (by omega))); (try (have i_cd := Imp.go cd (by omega))); (try (have i_cd := Imp.go cd (by omega))); (try (have i_t25 := Imp.go t25 (by omega))); (try (have i_t46 := Imp.go t46 (by omega))); omega)) (show (V48 1 1).toInt = (b : Int) from by first | omega | ((try (have i_t46 := Imp.go t46 (by omega))); (try (have i_t25 := Imp.go t25 (by omega))); (try (have i_cd := Imp.go cd (by omega))); (try (have i_cd := Imp.go cd (by omega))); (try (have i_t25 := Imp.go t25 (by omega))); (try (have i_t46 := Imp.go t46 (by omega))); omega)) cd54 (show 7 - p0.toInt ≤ (dd : Int) from by first | omega | ((try (have i_t46 := Imp.go t46 (by omega))); (try (have i_t25 := Imp.go t25 (by omega))); (try (have i_cd := Imp.go cd (by omega))); (try (have i_cd := Imp.go cd (by omega))); (try (have i_t25 := Imp.go t25 (by omega))); (try (have i_t46 := Imp.go t46 (by omega))); omega))) w995 w997 w30 w162 w998 rfl xgReader hdV_yX1_readWithin ⟨(by show 10 * dd + 10 + 1 ≤ 10 * dd + 11; omega), (by show 8 + (2 + 11) + (300 * dd + 265) ≤ 300 * dd + 290; omega)⟩ rfl hl.1 rfl (Nat.le_of_ble_eq_true rfl) dX1_readOf_61 ⟨Nat.le_of_ble_eq_true rfl, Nat.le_of_ble_eq_true rfl⟩) hP hD hK hS hA (fun z55 u56 H locs w57 hP hD hK hS => ?_)
          obtain ⟨V60, L61⟩ := u56
          obtain ⟨hMV60, ajV60, axL61, fyV60, rgz55, t58, t59⟩ := w57
          have alL61 : agL [6, 44] L L61 := agL.tr alL49 axL61 (by decide)
          have hP : va_P D vwCl (xw ad kk V60 L61 Z) H := hP
          have hD : va_D A (xw ad kk V60 L61 Z) := hD
          have hMV60 : rgd bX V60 := hMV60
          have ajV60 : agr [(1, 3), (1, 6), (1, 8), (6, 8), (6, 9), (6, 10)] [42, 43, 44, 48] V48 V60 := ajV60
          have agV60 : agr [(1, 3), (1, 6), (1, 8), (6, 8), (6, 9), (6, 10)] [42, 43, 44, 48] V V60 := agV48.tr ajV60 (by decide) (by decide)
          have fwV60 : frX (xR b) V V60 := frX.tr fwV48 (fyV60)
          have rgz55 : 0 ≤ z55.toInt ∧ z55.toInt ≤ 1 := rgz55
          have t58 : CD V60 b := t58
          have t59 : px V48 V60 b := t59
          refine lv_if_ne (tgt := 69) hx hb dX1_readOf_64 (by decide) (fun c62 => ?_) (fun c62 => ?_)
          · skip
            have f63 : z55.toInt ≠ 0 := b_neq rfl (by decide) c62
            refine lv_aload_n hx hb dX1_readOf_69 rfl (lv_at hl 2 rfl) ?_
            refine lv_bipush (v := 15) hx hb dX1_readOf_70 (by decide) ?_
            refine lv_iload_n hx hb dX1_readOf_72 rfl (lv_at hl 1 rfl) ?_
            refine lv_bipush (v := 20) hx hb dX1_readOf_73 (by decide) ?_
            refine lv_imul hx hb dX1_readOf_75 ?_
            refine lv_topi (fun z64 ez64 => ?_)
            have hz64 : z64.toInt = ((V26 1 8)).toInt * 20 := i_mul ez64 rfl (by decide) (by omega)
            refine lv_iload_n hx hb dX1_readOf_76 rfl (lv_at hl 0 rfl) ?_
            refine lv_iadd hx hb dX1_readOf_77 ?_
            refine lv_topi (fun z65 ez65 => ?_)
            have hz65 : z65.toInt = z64.toInt + ((V48 1 6)).toInt := i_add ez65 rfl rfl (by omega)
            have r66 : Int32.toInt 15 = 15 := by decide
            have pq67 : (V60 1 1).toInt = ((V 1 1)).toInt := congrArg Int32.toInt ((ajV60 1 1 rfl).trans ((ajV48 1 1 rfl).trans ((ajV35 1 1 rfl).trans (ajV26 1 1 rfl))))
            refine gA_int (gA_runV (As := [.int 15, .int z65]) (rest := []) (ci := 1) (q0 := 1) hx hb hml hown hg hP hD hK hS hA hnw hgk (x_put l D ks H.size ad kk V60 L61 Z 15 z65 (b) hMV60 (by decide) (show b < 2 from by first | omega | ((try (have i_t46 := Imp.go t46 (by omega))); (try (have i_t25 := Imp.go t25 (by omega))); (try (have i_cd := Imp.go cd (by omega))); (try (have i_cd := Imp.go cd (by omega))); (try (have i_t25 := Imp.go t25 (by omega))); (try (have i_t46 := Imp.go t46 (by omega))); omega)) (show (V60 1 1).toInt = (b : Int) from by first | omega | ((try (have i_t46 := Imp.go t46 (by omega))); (try (have i_t25 := Imp.go t25 (by omega))); (try (have i_cd := Imp.go cd (by omega))); (try (have i_cd := Imp.go cd (by omega))); (try (have i_t25 := Imp.go t25 (by omega))); (try (have i_t46 := Imp.go t46 (by omega))); omega)) t58 (Imp.mk (fun hp => absurd hp (by decide))) (Imp.mk (fun _ => (show 0 ≤ z65.toInt ∧ z65.toInt ≤ 159 from by first | omega | ((try (have i_t46 := Imp.go t46 (by omega))); (try (have i_t25 := Imp.go t25 (by omega))); (try (have i_cd := Imp.go cd (by omega))); (try (have i_cd := Imp.go cd (by omega))); (try (have i_t25 := Imp.go t25 (by omega))); (try (have i_t46 := Imp.go t46 (by omega))); omega)))) (Imp.mk (fun hp => have hp : (Int32.toInt 15) = 13 ∨ (Int32.toInt 15) = 14 := hp; (show z65.toInt = 0 from by first | omega | ((try (have i_t46 := Imp.go t46 (by omega))); (try (have i_t25 := Imp.go t25 (by omega))); (try (have i_cd := Imp.go cd (by omega))); (try (have i_cd := Imp.go cd (by omega))); (try (have i_t25 := Imp.go t25 (by omega))); (try (have i_t46 := Imp.go t46 (by omega))); omega))))) w975 w977 w26 w162 w978 rfl xgReader hdV_yX1_put ⟨(by show 1 + 1 ≤ 10 * dd + 11; omega), (by show 8 + (3 + 11) + (21) ≤ 300 * dd + 290; omega)⟩ rfl hl.1 rfl (Nat.le_of_ble_eq_true rfl) dX1_readOf_78 ⟨Nat.le_of_ble_eq_true rfl, Nat.le_of_ble_eq_true rfl⟩) hP hD hK hS hA (fun z68 u69 H locs w70 hP hD hK hS => ?_)
            obtain ⟨V74, L75⟩ := u69
            obtain ⟨hMV74, ajV74, axL75, fyV74, rgz68, t71, t72, t73⟩ := w70
            have axL75 : L61 = L75 := Eq.symm axL75
            subst axL75
            have hP : va_P D vwCl (xw ad kk V74 L61 Z) H := hP
            have hD : va_D A (xw ad kk V74 L61 Z) := hD
            have hMV74 : rgd bX V74 := hMV74
            have ajV74 : agr [] [42, 48] V60 V74 := ajV74
            have agV74 : agr [(1, 3), (1, 6), (1, 8), (6, 8), (6, 9), (6, 10)] [42, 43, 44, 48] V V74 := agV60.tr ajV74 (by decide) (by decide)
            have fwV74 : frX (xR b) V V74 := frX.tr fwV60 (fyV74)
            have rgz68 : 1 ≤ z68.toInt ∧ z68.toInt ≤ 1 := rgz68
            have t71 : Imp ((Int32.toInt 15) = 13 ∨ (Int32.toInt 15) = 14) (jp V74 b (V60 42 b).toInt.toNat) := t71
            have t72 : CD V74 b := t72
            have t73 : px V60 V74 b := t73
            have px76 : px V V35 b := px.tr (px.rf : px V V b) (px.ag (show agr [(1, 3), (1, 8), (6, 8), (6, 9), (6, 10)] [] V V35 from (agr.tr (agr.tr agr.rf ajV26 (by decide) (by decide)) ajV35 (by decide) (by decide))) (fun _ => rfl) (fun _ => rfl) (fun _ => rfl))
            have px77 : px V V48 b := px.tr px76 t47
            have px78 : px V V60 b := px.tr px77 t59
            have px79 : px V V74 b := px.tr px78 t73
            exact W.zret (v := z68) hx hb hr (nb_ok (by omega)) (fun t ht hW => ⟨⟨z68, (V74, L61), rfl, ⟨hMV74, agV74, alL61, fwV74, (show 0 ≤ z68.toInt ∧ z68.toInt ≤ 1 from by first | omega | ((try (have i_t46 := Imp.go t46 (by omega))); (try (have i_t25 := Imp.go t25 (by omega))); (try (have i_cd := Imp.go cd (by omega))); (try (have i_cd := Imp.go cd (by omega))); (try (have i_t25 := Imp.go t25 (by omega))); (try (have i_t46 := Imp.go t46 (by omega))); omega)), t72, px79⟩, by rw [ht]; exact hP, va_K.moved hW.alike hK, hD⟩, hS.F ht⟩) hS.2.2 dX1_readOf_81
          · skip
            have f80 : z55.toInt = 0 := b_eq rfl (by decide) c62
            refine lv_iconst (v := 0) hx hb dX1_readOf_67 (by decide) ?_
            have px81 : px V V35 b := px.tr (px.rf : px V V b) (px.ag (show agr [(1, 3), (1, 8), (6, 8), (6, 9), (6, 10)] [] V V35 from (agr.tr (agr.tr agr.rf ajV26 (by decide) (by decide)) ajV35 (by decide) (by decide))) (fun _ => rfl) (fun _ => rfl) (fun _ => rfl))
            have px82 : px V V48 b := px.tr px81 t47
            have px83 : px V V60 b := px.tr px82 t59
            exact W.zret (v := 0) hx hb hr rfl (fun t ht hW => ⟨⟨0, (V60, L61), rfl, ⟨hMV60, agV60, alL61, fwV60, (by decide), t58, px83⟩, by rw [ht]; exact hP, va_K.moved hW.alike hK, hD⟩, hS.F ht⟩) hS.2.2 dX1_readOf_68
        · skip
          have f84 : z43.toInt = 0 := b_eq rfl (by decide) c51
          refine lv_iconst (v := 0) hx hb dX1_readOf_52 (by decide) ?_
          have cd85 : CD V48 b := ⟨CB.ag cd.1 (show agr [(1, 3), (1, 6), (1, 8), (6, 8), (6, 9), (6, 10)] [43, 44] V V48 from (agr.tr (agr.tr (agr.tr agr.rf ajV26 (by decide) (by decide)) ajV35 (by decide) (by decide)) ajV48 (by decide) (by decide))) (fun _ => rfl) (fun _ => rfl), CO.ag cd.2 (show agr [(1, 3), (1, 6), (1, 8), (6, 8), (6, 9), (6, 10)] [43, 44] V V48 from (agr.tr (agr.tr (agr.tr agr.rf ajV26 (by decide) (by decide)) ajV35 (by decide) (by decide)) ajV48 (by decide) (by decide))) (fun _ => rfl) (fun _ => rfl)⟩
          have px86 : px V V35 b := px.tr (px.rf : px V V b) (px.ag (show agr [(1, 3), (1, 8), (6, 8), (6, 9), (6, 10)] [] V V35 from (agr.tr (agr.tr agr.rf ajV26 (by decide) (by decide)) ajV35 (by decide) (by decide))) (fun _ => rfl) (fun _ => rfl) (fun _ => rfl))
          have px87 : px V V48 b := px.tr px86 t47
          exact W.zret (v := 0) hx hb hr rfl (fun t ht hW => ⟨⟨0, (V48, L49), rfl, ⟨hMV48, agV48, alL49, fwV48, (by decide), cd85, px87⟩, by rw [ht]; exact hP, va_K.moved hW.alike hK, hD⟩, hS.F ht⟩) hS.2.2 dX1_readOf_53
    · skip
      have f88 : z22.toInt = 0 := b_eq rfl (by decide) c29
      refine lv_iconst (v := 0) hx hb dX1_readOf_28 (by decide) ?_
      have cd89 : CD V26 b := ⟨CB.ag cd.1 (show agr [(1, 3), (1, 8), (6, 8), (6, 9), (6, 10)] [] V V26 from (agr.tr agr.rf ajV26 (by decide) (by decide))) (fun _ => rfl) (fun _ => rfl), CO.ag cd.2 (show agr [(1, 3), (1, 8), (6, 8), (6, 9), (6, 10)] [] V V26 from (agr.tr agr.rf ajV26 (by decide) (by decide))) (fun _ => rfl) (fun _ => rfl)⟩
      have px90 : px V V26 b := px.tr (px.rf : px V V b) (px.ag (show agr [(1, 3), (1, 8), (6, 8), (6, 9), (6, 10)] [] V V26 from (agr.tr agr.rf ajV26 (by decide) (by decide))) (fun _ => rfl) (fun _ => rfl) (fun _ => rfl))
      exact W.zret (v := 0) hx hb hr rfl (fun t ht hW => ⟨⟨0, (V26, L27), rfl, ⟨hMV26, agV26, alL27, fwV26, (by decide), cd89, px90⟩, by rw [ht]; exact hP, va_K.moved hW.alike hK, hD⟩, hS.F ht⟩) hS.2.2 dX1_readOf_29
set_option maxHeartbeats 4000000 in
set_option maxRecDepth 100000 in
theorem x_readPick {l : Launch} {D : va_G} {ks : KS} {dd : Nat} (hk_x_readExpression : K_x_readExpression l D ks dd) : K_x_readPick l D ks dd := by
  intro sz ad kk V L Z p0 b hMV rg_p0 hb2 rbk cd y1
  refine g_met (q_x_readPick D ks ad kk V L Z p0 b) (by decide) (Nat.le_of_ble_eq_true rfl) ?_
  intro p e s m below meth c A ls H locs hx hb hr hml hown hg hlocks hin hnw hgk hP hK hD hS hA hl
  have hown : s.vm.findClass RX1 = some m.cls := hown
  have hl : lv_has ls 4 [(0, .ref (ad 1)), (1, .int p0)] := hl
  have hP : va_P D vwCl (xw ad kk V L Z) H := hP
  have hD : va_D A (xw ad kk V L Z) := hD
  have hK : va_K D vwCl (xty kk Z) s := hK
  have agV : agr [(1, 3), (1, 6), (1, 8), (6, 8), (6, 9), (6, 10)] [42, 43, 44, 48] V V := agr.rf
  have alL : agL [6, 44] L L := agL.rf
  have fwV : frX (xR b) V V := frX.rf
  have r1 : (-1) ≤ ((V 1 1)).toInt ∧ ((V 1 1)).toInt ≤ 1 := hMV 1 1
  refine lv_aload_n hx hb dX1_readPick_0 rfl (lv_at hl 0 rfl) ?_
  refine lv_bipush (v := 40) hx hb dX1_readPick_1 (by decide) ?_
  have r2 : Int32.toInt 40 = 40 := by decide
  refine gA_int (gA_runV (As := [.int 40]) (rest := []) (ci := 1) (q0 := 1) hx hb hml hown hg hP hD hK hS hA hnw hgk (x_take l D ks H.size ad kk V L Z 40 hMV ) w893 w895 w10 w162 w896 rfl xgReader hdV_yX1_take ⟨(by show 1 + 1 ≤ 10 * dd + 10; omega), (by show 8 + (2 + 11) + (21) ≤ 300 * dd + 265; omega)⟩ rfl hl.1 rfl (Nat.le_of_ble_eq_true rfl) dX1_readPick_3 ⟨Nat.le_of_ble_eq_true rfl, Nat.le_of_ble_eq_true rfl⟩) hP hD hK hS hA (fun z3 u4 H locs w5 hP hD hK hS => ?_)
  obtain ⟨V6, L7⟩ := u4
  obtain ⟨hMV6, ajV6, axL7, rgz3⟩ := w5
  have alL7 : agL [6, 44] L L7 := agL.tr alL axL7 (by decide)
  have hP : va_P D vwCl (xw ad kk V6 L7 Z) H := hP
  have hD : va_D A (xw ad kk V6 L7 Z) := hD
  have hMV6 : rgd bX V6 := hMV6
  have ajV6 : agr [(1, 3), (6, 8), (6, 9), (6, 10)] [] V V6 := ajV6
  have agV6 : agr [(1, 3), (1, 6), (1, 8), (6, 8), (6, 9), (6, 10)] [42, 43, 44, 48] V V6 := agV.tr ajV6 (by decide) (by decide)
  have fwV6 : frX (xR b) V V6 := frX.tr fwV (frX.ag ajV6 (by decide) (by decide))
  have rgz3 : 0 ≤ z3.toInt ∧ z3.toInt ≤ 1 := rgz3
  refine lv_if_eq (tgt := 28) hx hb dX1_readPick_6 (by decide) (fun c8 => ?_) (fun c8 => ?_)
  · skip
    have f9 : z3.toInt = 0 := b_eq rfl (by decide) c8
    refine lv_iconst (v := 0) hx hb dX1_readPick_28 (by decide) ?_
    have cd10 : CD V6 b := ⟨CB.ag cd.1 (show agr [(1, 3), (6, 8), (6, 9), (6, 10)] [] V V6 from (agr.tr agr.rf ajV6 (by decide) (by decide))) (fun _ => rfl) (fun _ => rfl), CO.ag cd.2 (show agr [(1, 3), (6, 8), (6, 9), (6, 10)] [] V V6 from (agr.tr agr.rf ajV6 (by decide) (by decide))) (fun _ => rfl) (fun _ => rfl)⟩
    have px11 : px V V6 b := px.tr (px.rf : px V V b) (px.ag (show agr [(1, 3), (6, 8), (6, 9), (6, 10)] [] V V6 from (agr.tr agr.rf ajV6 (by decide) (by decide))) (fun _ => rfl) (fun _ => rfl) (fun _ => rfl))
    exact W.zret (v := 0) hx hb hr rfl (fun t ht hW => ⟨⟨0, (V6, L7), rfl, ⟨hMV6, agV6, alL7, fwV6, (by decide), cd10, px11⟩, by rw [ht]; exact hP, va_K.moved hW.alike hK, hD⟩, hS.F ht⟩) hS.2.2 dX1_readPick_29
  · skip
    have f12 : z3.toInt ≠ 0 := b_neq rfl (by decide) c8
    refine lv_aload_n hx hb dX1_readPick_9 rfl (lv_at hl 0 rfl) ?_
    refine lv_iload_n hx hb dX1_readPick_10 rfl (lv_at hl 1 rfl) ?_
    refine lv_iconst (v := 1) hx hb dX1_readPick_11 (by decide) ?_
    refine lv_iadd hx hb dX1_readPick_12 ?_
    refine lv_topi (fun z13 ez13 => ?_)
    have hz13 : z13.toInt = p0.toInt + 1 := i_add ez13 rfl (by decide) (by omega)
    have pq14 : (V6 1 1).toInt = ((V 1 1)).toInt := congrArg Int32.toInt (ajV6 1 1 rfl)
    have cd15 : CD V6 b := ⟨CB.ag cd.1 (show agr [(1, 3), (6, 8), (6, 9), (6, 10)] [] V V6 from (agr.tr agr.rf ajV6 (by decide) (by decide))) (fun _ => rfl) (fun _ => rfl), CO.ag cd.2 (show agr [(1, 3), (6, 8), (6, 9), (6, 10)] [] V V6 from (agr.tr agr.rf ajV6 (by decide) (by decide))) (fun _ => rfl) (fun _ => rfl)⟩
    refine gA_int (gA_runV (As := [.int z13]) (rest := []) (ci := 1) (q0 := 1) hx hb hml hown hg hP hD hK hS hA hnw hgk (hk_x_readExpression H.size ad kk V6 L7 Z z13 (b) hMV6 (by first | omega | ((try (have i_cd := Imp.go cd (by omega))); omega)) (show b < 2 from by first | omega | ((try (have i_cd := Imp.go cd (by omega))); omega)) (show (V6 1 1).toInt = (b : Int) from by first | omega | ((try (have i_cd := Imp.go cd (by omega))); omega)) cd15 (show 8 - z13.toInt ≤ (dd : Int) from by first | omega | ((try (have i_cd := Imp.go cd (by omega))); omega))) w951 w953 w21 w162 w954 rfl xgReader hdV_yX1_readExpression ⟨(by show 10 * dd + 9 + 1 ≤ 10 * dd + 10; omega), (by show 8 + (3 + 11) + (300 * dd + 240) ≤ 300 * dd + 265; omega)⟩ rfl hl.1 rfl (Nat.le_of_ble_eq_true rfl) dX1_readPick_13 ⟨Nat.le_of_ble_eq_true rfl, Nat.le_of_ble_eq_true rfl⟩) hP hD hK hS hA (fun z16 u17 H locs w18 hP hD hK hS => ?_)
    obtain ⟨V21, L22⟩ := u17
    obtain ⟨hMV21, ajV21, axL22, fyV21, rgz16, t19, t20⟩ := w18
    have alL22 : agL [6, 44] L L22 := agL.tr alL7 axL22 (by decide)
    have hP : va_P D vwCl (xw ad kk V21 L22 Z) H := hP
    have hD : va_D A (xw ad kk V21 L22 Z) := hD
    have hMV21 : rgd bX V21 := hMV21
    have ajV21 : agr [(1, 3), (1, 6), (1, 8), (6, 8), (6, 9), (6, 10)] [42, 43, 44, 48] V6 V21 := ajV21
    have agV21 : agr [(1, 3), (1, 6), (1, 8), (6, 8), (6, 9), (6, 10)] [42, 43, 44, 48] V V21 := agV6.tr ajV21 (by decide) (by decide)
    have fwV21 : frX (xR b) V V21 := frX.tr fwV6 (fyV21)
    have rgz16 : 0 ≤ z16.toInt ∧ z16.toInt ≤ 1 := rgz16
    have t19 : CD V21 b := t19
    have t20 : px V6 V21 b := t20
    refine lv_if_eq (tgt := 28) hx hb dX1_readPick_16 (by decide) (fun c23 => ?_) (fun c23 => ?_)
    · skip
      have f24 : z16.toInt = 0 := b_eq rfl (by decide) c23
      refine lv_iconst (v := 0) hx hb dX1_readPick_28 (by decide) ?_
      have px25 : px V V6 b := px.tr (px.rf : px V V b) (px.ag (show agr [(1, 3), (6, 8), (6, 9), (6, 10)] [] V V6 from (agr.tr agr.rf ajV6 (by decide) (by decide))) (fun _ => rfl) (fun _ => rfl) (fun _ => rfl))
      have px26 : px V V21 b := px.tr px25 t20
      exact W.zret (v := 0) hx hb hr rfl (fun t ht hW => ⟨⟨0, (V21, L22), rfl, ⟨hMV21, agV21, alL22, fwV21, (by decide), t19, px26⟩, by rw [ht]; exact hP, va_K.moved hW.alike hK, hD⟩, hS.F ht⟩) hS.2.2 dX1_readPick_29
    · skip
      have f27 : z16.toInt ≠ 0 := b_neq rfl (by decide) c23
      refine lv_aload_n hx hb dX1_readPick_19 rfl (lv_at hl 0 rfl) ?_
      refine lv_bipush (v := 44) hx hb dX1_readPick_20 (by decide) ?_
      have r28 : Int32.toInt 44 = 44 := by decide
      refine gA_int (gA_runV (As := [.int 44]) (rest := []) (ci := 1) (q0 := 1) hx hb hml hown hg hP hD hK hS hA hnw hgk (x_take l D ks H.size ad kk V21 L22 Z 44 hMV21 ) w893 w895 w10 w162 w896 rfl xgReader hdV_yX1_take ⟨(by show 1 + 1 ≤ 10 * dd + 10; omega), (by show 8 + (2 + 11) + (21) ≤ 300 * dd + 265; omega)⟩ rfl hl.1 rfl (Nat.le_of_ble_eq_true rfl) dX1_readPick_22 ⟨Nat.le_of_ble_eq_true rfl, Nat.le_of_ble_eq_true rfl⟩) hP hD hK hS hA (fun z29 u30 H locs w31 hP hD hK hS => ?_)
      obtain ⟨V32, L33⟩ := u30
      obtain ⟨hMV32, ajV32, axL33, rgz29⟩ := w31
      have alL33 : agL [6, 44] L L33 := agL.tr alL22 axL33 (by decide)
      have hP : va_P D vwCl (xw ad kk V32 L33 Z) H := hP
      have hD : va_D A (xw ad kk V32 L33 Z) := hD
      have hMV32 : rgd bX V32 := hMV32
      have ajV32 : agr [(1, 3), (6, 8), (6, 9), (6, 10)] [] V21 V32 := ajV32
      have agV32 : agr [(1, 3), (1, 6), (1, 8), (6, 8), (6, 9), (6, 10)] [42, 43, 44, 48] V V32 := agV21.tr ajV32 (by decide) (by decide)
      have fwV32 : frX (xR b) V V32 := frX.tr fwV21 (frX.ag ajV32 (by decide) (by decide))
      have rgz29 : 0 ≤ z29.toInt ∧ z29.toInt ≤ 1 := rgz29
      refine lv_if_ne (tgt := 30) hx hb dX1_readPick_25 (by decide) (fun c34 => ?_) (fun c34 => ?_)
      · skip
        have f35 : z29.toInt ≠ 0 := b_neq rfl (by decide) c34
        refine lv_aload_n hx hb dX1_readPick_30 rfl (lv_at hl 0 rfl) ?_
        refine va_get (D := D) (ci := 1) (v := rfN ad 38 (V32 1 1)) (fs := (xfReader ad V32 L33 Z)) (C := RX1) (T := TX1) (N := 9) hx hb hg inX1 hown hK hP 1 xgReader rfl 1 (by decide) (hg _ w305) (fun _ h9 => h9) rfl dX1_readPick_31 ?_
        have pq36 : (V32 1 1).toInt = ((V 1 1)).toInt := congrArg Int32.toInt ((ajV32 1 1 rfl).trans ((ajV21 1 1 rfl).trans (ajV6 1 1 rfl)))
        refine g_topv (v := .ref (ad (38 + b))) (rfN_r (by first | omega | ((try (have i_cd := Imp.go cd (by omega))); omega))) ?_
        refine va_getN (D := D) (ci := 0) (v := .int (V32 42 b)) (fs := (xfBook ad V32 b)) (C := RX0) (T := TX0) (N := 13) hx hb hg inX0 hown hK hP (38 + b) (xgBook hb2) rfl 12 (by decide) (hnw.use 630 n630 rfl) (fun _ h9 => h9) rfl dX1_readPick_34 ?_
        refine g_top (v := (V21 42 b)) (ajV32 42 b rfl) ?_
        have r37 : 0 ≤ ((V21 42 b)).toInt ∧ ((V21 42 b)).toInt ≤ 8200 := hMV21 42 b
        refine lv_iconst (v := 1) hx hb dX1_readPick_37 (by decide) ?_
        refine lv_iadd hx hb dX1_readPick_38 ?_
        refine lv_topi (fun z38 ez38 => ?_)
        have hz38 : z38.toInt = ((V21 42 b)).toInt + 1 := i_add ez38 rfl (by decide) (by omega)
        refine lv_istore_n (lv' := [(2, .int z38), (0, .ref (ad 1)), (1, .int p0)]) hx hb dX1_readPick_39 rfl hl (by decide) rfl (fun ls hl => ?_)
        refine lv_aload_n hx hb dX1_readPick_40 rfl (lv_at hl 1 rfl) ?_
        refine lv_bipush (v := 13) hx hb dX1_readPick_41 (by decide) ?_
        refine lv_iconst (v := 0) hx hb dX1_readPick_43 (by decide) ?_
        have r39 : Int32.toInt 13 = 13 := by decide
        have r40 : Int32.toInt 0 = 0 := by decide
        have cd41 : CD V32 b := ⟨CB.ag t19.1 (show agr [(1, 3), (6, 8), (6, 9), (6, 10)] [] V21 V32 from (agr.tr agr.rf ajV32 (by decide) (by decide))) (fun _ => rfl) (fun _ => rfl), CO.ag t19.2 (show agr [(1, 3), (6, 8), (6, 9), (6, 10)] [] V21 V32 from (agr.tr agr.rf ajV32 (by decide) (by decide))) (fun _ => rfl) (fun _ => rfl)⟩
        refine gA_int (gA_runV (As := [.int 13, .int 0]) (rest := []) (ci := 1) (q0 := 1) hx hb hml hown hg hP hD hK hS hA hnw hgk (x_put l D ks H.size ad kk V32 L33 Z 13 0 (b) hMV32 (by decide) (show b < 2 from by first | omega | ((try (have i_cd := Imp.go cd (by omega))); omega)) (show (V32 1 1).toInt = (b : Int) from by first | omega | ((try (have i_cd := Imp.go cd (by omega))); omega)) cd41 (Imp.mk (fun hp => absurd hp (by decide))) (Imp.mk (fun hp => absurd hp (by decide))) (Imp.mk (fun hp => have hp : (Int32.toInt 13) = 13 ∨ (Int32.toInt 13) = 14 := hp; (show (Int32.toInt 0) = 0 from by first | omega | ((try (have i_cd := Imp.go cd (by omega))); omega))))) w975 w977 w26 w162 w978 rfl xgReader hdV_yX1_put ⟨(by show 1 + 1 ≤ 10 * dd + 10; omega), (by show 8 + (3 + 11) + (21) ≤ 300 * dd + 265; omega)⟩ rfl hl.1 rfl (Nat.le_of_ble_eq_true rfl) dX1_readPick_44 ⟨Nat.le_of_ble_eq_true rfl, Nat.le_of_ble_eq_true rfl⟩) hP hD hK hS hA (fun z42 u43 H locs w44 hP hD hK hS => ?_)
        obtain ⟨V48, L49⟩ := u43
        obtain ⟨hMV48, ajV48, axL49, fyV48, rgz42, t45, t46, t47⟩ := w44
        have axL49 : L33 = L49 := Eq.symm axL49
        subst axL49
        have hP : va_P D vwCl (xw ad kk V48 L33 Z) H := hP
        have hD : va_D A (xw ad kk V48 L33 Z) := hD
        have hMV48 : rgd bX V48 := hMV48
        have ajV48 : agr [] [42, 48] V32 V48 := ajV48
        have agV48 : agr [(1, 3), (1, 6), (1, 8), (6, 8), (6, 9), (6, 10)] [42, 43, 44, 48] V V48 := agV32.tr ajV48 (by decide) (by decide)
        have fwV48 : frX (xR b) V V48 := frX.tr fwV32 (fyV48)
        have rgz42 : 1 ≤ z42.toInt ∧ z42.toInt ≤ 1 := rgz42
        have t45 : Imp ((Int32.toInt 13) = 13 ∨ (Int32.toInt 13) = 14) (jp V48 b (V32 42 b).toInt.toNat) := t45
        have t46 : CD V48 b := t46
        have t47 : px V32 V48 b := t47
        have jp50 := Imp.go t45 (by decide)
        have cl51 : 0 ≤ (V32 42 b).toInt ∧ (V32 42 b).toInt ≤ 8200 := hMV32 42 b
        refine lv_pop hx hb dX1_readPick_47 rfl ?_
        refine lv_aload_n hx hb dX1_readPick_48 rfl (lv_at hl 1 rfl) ?_
        refine lv_iload_n hx hb dX1_readPick_49 rfl (lv_at hl 2 rfl) ?_
        refine lv_iconst (v := 1) hx hb dX1_readPick_50 (by decide) ?_
        refine lv_iadd hx hb dX1_readPick_51 ?_
        refine lv_topi (fun z52 ez52 => ?_)
        have hz52 : z52.toInt = p0.toInt + 1 := i_add ez52 rfl (by decide) (by omega)
        have pq53 : (V48 1 1).toInt = ((V 1 1)).toInt := congrArg Int32.toInt ((ajV48 1 1 rfl).trans ((ajV32 1 1 rfl).trans ((ajV21 1 1 rfl).trans (ajV6 1 1 rfl))))
        refine gA_int (gA_runV (As := [.int z52]) (rest := []) (ci := 1) (q0 := 1) hx hb hml hown hg hP hD hK hS hA hnw hgk (hk_x_readExpression H.size ad kk V48 L33 Z z52 (b) hMV48 (by first | omega | ((try (have i_cd := Imp.go cd (by omega))); omega)) (show b < 2 from by first | omega | ((try (have i_cd := Imp.go cd (by omega))); omega)) (show (V48 1 1).toInt = (b : Int) from by first | omega | ((try (have i_cd := Imp.go cd (by omega))); omega)) t46 (show 8 - z52.toInt ≤ (dd : Int) from by first | omega | ((try (have i_cd := Imp.go cd (by omega))); omega))) w951 w953 w21 w162 w954 rfl xgReader hdV_yX1_readExpression ⟨(by show 10 * dd + 9 + 1 ≤ 10 * dd + 10; omega), (by show 8 + (3 + 11) + (300 * dd + 240) ≤ 300 * dd + 265; omega)⟩ rfl hl.1 rfl (Nat.le_of_ble_eq_true rfl) dX1_readPick_52 ⟨Nat.le_of_ble_eq_true rfl, Nat.le_of_ble_eq_true rfl⟩) hP hD hK hS hA (fun z54 u55 H locs w56 hP hD hK hS => ?_)
        obtain ⟨V59, L60⟩ := u55
        obtain ⟨hMV59, ajV59, axL60, fyV59, rgz54, t57, t58⟩ := w56
        have alL60 : agL [6, 44] L L60 := agL.tr alL33 axL60 (by decide)
        have hP : va_P D vwCl (xw ad kk V59 L60 Z) H := hP
        have hD : va_D A (xw ad kk V59 L60 Z) := hD
        have hMV59 : rgd bX V59 := hMV59
        have ajV59 : agr [(1, 3), (1, 6), (1, 8), (6, 8), (6, 9), (6, 10)] [42, 43, 44, 48] V48 V59 := ajV59
        have agV59 : agr [(1, 3), (1, 6), (1, 8), (6, 8), (6, 9), (6, 10)] [42, 43, 44, 48] V V59 := agV48.tr ajV59 (by decide) (by decide)
        have fwV59 : frX (xR b) V V59 := frX.tr fwV48 (fyV59)
        have rgz54 : 0 ≤ z54.toInt ∧ z54.toInt ≤ 1 := rgz54
        have t57 : CD V59 b := t57
        have t58 : px V48 V59 b := t58
        refine lv_if_eq (tgt := 67) hx hb dX1_readPick_55 (by decide) (fun c61 => ?_) (fun c61 => ?_)
        · skip
          have f62 : z54.toInt = 0 := b_eq rfl (by decide) c61
          refine lv_iconst (v := 0) hx hb dX1_readPick_67 (by decide) ?_
          have px63 : px V V6 b := px.tr (px.rf : px V V b) (px.ag (show agr [(1, 3), (6, 8), (6, 9), (6, 10)] [] V V6 from (agr.tr agr.rf ajV6 (by decide) (by decide))) (fun _ => rfl) (fun _ => rfl) (fun _ => rfl))
          have px64 : px V V21 b := px.tr px63 t20
          have px65 : px V V32 b := px.tr px64 (px.ag (show agr [(1, 3), (6, 8), (6, 9), (6, 10)] [] V21 V32 from (agr.tr agr.rf ajV32 (by decide) (by decide))) (fun _ => rfl) (fun _ => rfl) (fun _ => rfl))
          have px66 : px V V48 b := px.tr px65 t47
          have px67 : px V V59 b := px.tr px66 t58
          exact W.zret (v := 0) hx hb hr rfl (fun t ht hW => ⟨⟨0, (V59, L60), rfl, ⟨hMV59, agV59, alL60, fwV59, (by decide), t57, px67⟩, by rw [ht]; exact hP, va_K.moved hW.alike hK, hD⟩, hS.F ht⟩) hS.2.2 dX1_readPick_68
        · skip
          have f68 : z54.toInt ≠ 0 := b_neq rfl (by decide) c61
          refine lv_aload_n hx hb dX1_readPick_58 rfl (lv_at hl 1 rfl) ?_
          refine lv_bipush (v := 44) hx hb dX1_readPick_59 (by decide) ?_
          refine gA_int (gA_runV (As := [.int 44]) (rest := []) (ci := 1) (q0 := 1) hx hb hml hown hg hP hD hK hS hA hnw hgk (x_take l D ks H.size ad kk V59 L60 Z 44 hMV59 ) w893 w895 w10 w162 w896 rfl xgReader hdV_yX1_take ⟨(by show 1 + 1 ≤ 10 * dd + 10; omega), (by show 8 + (2 + 11) + (21) ≤ 300 * dd + 265; omega)⟩ rfl hl.1 rfl (Nat.le_of_ble_eq_true rfl) dX1_readPick_61 ⟨Nat.le_of_ble_eq_true rfl, Nat.le_of_ble_eq_true rfl⟩) hP hD hK hS hA (fun z69 u70 H locs w71 hP hD hK hS => ?_)
          obtain ⟨V72, L73⟩ := u70
          obtain ⟨hMV72, ajV72, axL73, rgz69⟩ := w71
          have alL73 : agL [6, 44] L L73 := agL.tr alL60 axL73 (by decide)
          have hP : va_P D vwCl (xw ad kk V72 L73 Z) H := hP
          have hD : va_D A (xw ad kk V72 L73 Z) := hD
          have hMV72 : rgd bX V72 := hMV72
          have ajV72 : agr [(1, 3), (6, 8), (6, 9), (6, 10)] [] V59 V72 := ajV72
          have agV72 : agr [(1, 3), (1, 6), (1, 8), (6, 8), (6, 9), (6, 10)] [42, 43, 44, 48] V V72 := agV59.tr ajV72 (by decide) (by decide)
          have fwV72 : frX (xR b) V V72 := frX.tr fwV59 (frX.ag ajV72 (by decide) (by decide))
          have rgz69 : 0 ≤ z69.toInt ∧ z69.toInt ≤ 1 := rgz69
          refine lv_if_ne (tgt := 69) hx hb dX1_readPick_64 (by decide) (fun c74 => ?_) (fun c74 => ?_)
          · skip
            have f75 : z69.toInt ≠ 0 := b_neq rfl (by decide) c74
            refine lv_aload_n hx hb dX1_readPick_69 rfl (lv_at hl 1 rfl) ?_
            refine va_get (D := D) (ci := 1) (v := rfN ad 38 (V72 1 1)) (fs := (xfReader ad V72 L73 Z)) (C := RX1) (T := TX1) (N := 9) hx hb hg inX1 hown hK hP 1 xgReader rfl 1 (by decide) (hg _ w305) (fun _ h9 => h9) rfl dX1_readPick_70 ?_
            have pq76 : (V72 1 1).toInt = ((V 1 1)).toInt := congrArg Int32.toInt ((ajV72 1 1 rfl).trans ((ajV59 1 1 rfl).trans ((ajV48 1 1 rfl).trans ((ajV32 1 1 rfl).trans ((ajV21 1 1 rfl).trans (ajV6 1 1 rfl))))))
            refine g_topv (v := .ref (ad (38 + b))) (rfN_r (by first | omega | ((try (have i_cd := Imp.go cd (by omega))); omega))) ?_
            refine va_getN (D := D) (ci := 0) (v := .int (V72 42 b)) (fs := (xfBook ad V72 b)) (C := RX0) (T := TX0) (N := 13) hx hb hg inX0 hown hK hP (38 + b) (xgBook hb2) rfl 12 (by decide) (hnw.use 630 n630 rfl) (fun _ h9 => h9) rfl dX1_readPick_73 ?_
            refine g_top (v := (V59 42 b)) (ajV72 42 b rfl) ?_
            have r77 : 0 ≤ ((V59 42 b)).toInt ∧ ((V59 42 b)).toInt ≤ 8200 := hMV59 42 b
            refine lv_iconst (v := 1) hx hb dX1_readPick_76 (by decide) ?_
            refine lv_iadd hx hb dX1_readPick_77 ?_
            refine lv_topi (fun z78 ez78 => ?_)
            have hz78 : z78.toInt = ((V59 42 b)).toInt + 1 := i_add ez78 rfl (by decide) (by omega)
            refine lv_istore_n (lv' := [(3, .int z78), (2, .int z38), (0, .ref (ad 1)), (1, .int p0)]) hx hb dX1_readPick_78 rfl hl (by decide) rfl (fun ls hl => ?_)
            refine lv_aload_n hx hb dX1_readPick_79 rfl (lv_at hl 2 rfl) ?_
            refine lv_bipush (v := 14) hx hb dX1_readPick_80 (by decide) ?_
            refine lv_iconst (v := 0) hx hb dX1_readPick_82 (by decide) ?_
            have r79 : Int32.toInt 14 = 14 := by decide
            have cd80 : CD V72 b := ⟨CB.ag t57.1 (show agr [(1, 3), (6, 8), (6, 9), (6, 10)] [] V59 V72 from (agr.tr agr.rf ajV72 (by decide) (by decide))) (fun _ => rfl) (fun _ => rfl), CO.ag t57.2 (show agr [(1, 3), (6, 8), (6, 9), (6, 10)] [] V59 V72 from (agr.tr agr.rf ajV72 (by decide) (by decide))) (fun _ => rfl) (fun _ => rfl)⟩
            refine gA_int (gA_runV (As := [.int 14, .int 0]) (rest := []) (ci := 1) (q0 := 1) hx hb hml hown hg hP hD hK hS hA hnw hgk (x_put l D ks H.size ad kk V72 L73 Z 14 0 (b) hMV72 (by decide) (show b < 2 from by first | omega | ((try (have i_cd := Imp.go cd (by omega))); omega)) (show (V72 1 1).toInt = (b : Int) from by first | omega | ((try (have i_cd := Imp.go cd (by omega))); omega)) cd80 (Imp.mk (fun hp => absurd hp (by decide))) (Imp.mk (fun hp => absurd hp (by decide))) (Imp.mk (fun hp => have hp : (Int32.toInt 14) = 13 ∨ (Int32.toInt 14) = 14 := hp; (show (Int32.toInt 0) = 0 from by first | omega | ((try (have i_cd := Imp.go cd (by omega))); omega))))) w975 w977 w26 w162 w978 rfl xgReader hdV_yX1_put ⟨(by show 1 + 1 ≤ 10 * dd + 10; omega), (by show 8 + (3 + 11) + (21) ≤ 300 * dd + 265; omega)⟩ rfl hl.1 rfl (Nat.le_of_ble_eq_true rfl) dX1_readPick_83 ⟨Nat.le_of_ble_eq_true rfl, Nat.le_of_ble_eq_true rfl⟩) hP hD hK hS hA (fun z81 u82 H locs w83 hP hD hK hS => ?_)
            obtain ⟨V87, L88⟩ := u82
            obtain ⟨hMV87, ajV87, axL88, fyV87, rgz81, t84, t85, t86⟩ := w83
            have axL88 : L73 = L88 := Eq.symm axL88
            subst axL88
            have hP : va_P D vwCl (xw ad kk V87 L73 Z) H := hP
            have hD : va_D A (xw ad kk V87 L73 Z) := hD
            have hMV87 : rgd bX V87 := hMV87
            have ajV87 : agr [] [42, 48] V72 V87 := ajV87
            have agV87 : agr [(1, 3), (1, 6), (1, 8), (6, 8), (6, 9), (6, 10)] [42, 43, 44, 48] V V87 := agV72.tr ajV87 (by decide) (by decide)
            have fwV87 : frX (xR b) V V87 := frX.tr fwV72 (fyV87)
            have rgz81 : 1 ≤ z81.toInt ∧ z81.toInt ≤ 1 := rgz81
            have t84 : Imp ((Int32.toInt 14) = 13 ∨ (Int32.toInt 14) = 14) (jp V87 b (V72 42 b).toInt.toNat) := t84
            have t85 : CD V87 b := t85
            have t86 : px V72 V87 b := t86
            have jp89 := Imp.go t84 (by decide)
            have cl90 : 0 ≤ (V72 42 b).toInt ∧ (V72 42 b).toInt ≤ 8200 := hMV72 42 b
            refine lv_pop hx hb dX1_readPick_86 rfl ?_
            refine lv_aload_n hx hb dX1_readPick_87 rfl (lv_at hl 2 rfl) ?_
            refine va_get (D := D) (ci := 1) (v := rfN ad 38 (V87 1 1)) (fs := (xfReader ad V87 L73 Z)) (C := RX1) (T := TX1) (N := 9) hx hb hg inX1 hown hK hP 1 xgReader rfl 1 (by decide) (hg _ w305) (fun _ h9 => h9) rfl dX1_readPick_88 ?_
            have pq91 : (V87 1 1).toInt = ((V 1 1)).toInt := congrArg Int32.toInt ((ajV87 1 1 rfl).trans ((ajV72 1 1 rfl).trans ((ajV59 1 1 rfl).trans ((ajV48 1 1 rfl).trans ((ajV32 1 1 rfl).trans ((ajV21 1 1 rfl).trans (ajV6 1 1 rfl)))))))
            refine g_topv (v := .ref (ad (38 + b))) (rfN_r (by first | omega | ((try (have i_cd := Imp.go cd (by omega))); omega))) ?_
            refine lv_iload_n hx hb dX1_readPick_91 rfl (lv_at hl 1 rfl) ?_
            refine lv_aload_n hx hb dX1_readPick_92 rfl (lv_at hl 2 rfl) ?_
            refine va_get (D := D) (ci := 1) (v := rfN ad 38 (V87 1 1)) (fs := (xfReader ad V87 L73 Z)) (C := RX1) (T := TX1) (N := 9) hx hb hg inX1 hown hK hP 1 xgReader rfl 1 (by decide) (hg _ w305) (fun _ h9 => h9) rfl dX1_readPick_93 ?_
            refine g_topv (v := .ref (ad (38 + b))) (rfN_r (by first | omega | ((try (have i_cd := Imp.go cd (by omega))); omega))) ?_
            refine va_getN (D := D) (ci := 0) (v := .int (V87 42 b)) (fs := (xfBook ad V87 b)) (C := RX0) (T := TX0) (N := 13) hx hb hg inX0 hown hK hP (38 + b) (xgBook hb2) rfl 12 (by decide) (hnw.use 630 n630 rfl) (fun _ h9 => h9) rfl dX1_readPick_96 ?_
            have r92 : 0 ≤ ((V87 42 b)).toInt ∧ ((V87 42 b)).toInt ≤ 8200 := hMV87 42 b
            refine gA_void (gA_runV (As := [.int z38, .int (V87 42 b)]) (rest := []) (ci := 0) (q0 := (38 + b)) hx hb hml hown hg hP hD hK hS hA hnw hgk (x_patch l D ks H.size ad kk V87 L73 Z z38 (V87 42 b) (b) hMV87 (show b < 2 from by first | omega | ((try (have i_cd := Imp.go cd (by omega))); omega))) w987 w988 w989 w167 w990 rfl (xgBook hb2) hdV_yX0_patch ⟨(by show 0 + 1 ≤ 10 * dd + 10; omega), (by show 8 + (3 + 11) + (0) ≤ 300 * dd + 265; omega)⟩ rfl hl.1 rfl (Nat.le_of_ble_eq_true rfl) dX1_readPick_99 ⟨Nat.le_of_ble_eq_true rfl, Nat.le_of_ble_eq_true rfl⟩) hP hD hK hS hA (fun u94 H locs w95 hP hD hK hS => ?_)
            obtain ⟨V97, L98⟩ := u94
            obtain ⟨hMV97, ajV97, axL98, fyV97, t96⟩ := w95
            have axL98 : L73 = L98 := Eq.symm axL98
            subst axL98
            have hP : va_P D vwCl (xw ad kk V97 L73 Z) H := hP
            have hD : va_D A (xw ad kk V97 L73 Z) := hD
            have hMV97 : rgd bX V97 := hMV97
            have ajV97 : agr [] [48] V87 V97 := ajV97
            have agV97 : agr [(1, 3), (1, 6), (1, 8), (6, 8), (6, 9), (6, 10)] [42, 43, 44, 48] V V97 := agV87.tr ajV97 (by decide) (by decide)
            have fwV97 : frX (xR b) V V97 := frX.tr fwV87 (fyV97)
            have t96 : (z38.toInt < 0 ∨ 8200 ≤ z38.toInt) ∧ V97 = V87 ∨ (0 ≤ z38.toInt ∧ z38.toInt < 8200 ∧ V97 = up2 V87 48 (8200 * b + Int32.toNatClampNeg z38) (V87 42 b)) := t96
            have px99 : px V V6 b := px.tr (px.rf : px V V b) (px.ag (show agr [(1, 3), (6, 8), (6, 9), (6, 10)] [] V V6 from (agr.tr agr.rf ajV6 (by decide) (by decide))) (fun _ => rfl) (fun _ => rfl) (fun _ => rfl))
            have px100 : px V V21 b := px.tr px99 t20
            have px101 : px V V32 b := px.tr px100 (px.ag (show agr [(1, 3), (6, 8), (6, 9), (6, 10)] [] V21 V32 from (agr.tr agr.rf ajV32 (by decide) (by decide))) (fun _ => rfl) (fun _ => rfl) (fun _ => rfl))
            have px102 : px V V48 b := px.tr px101 t47
            have px103 : px V V59 b := px.tr px102 t58
            have px104 : px V V72 b := px.tr px103 (px.ag (show agr [(1, 3), (6, 8), (6, 9), (6, 10)] [] V59 V72 from (agr.tr agr.rf ajV72 (by decide) (by decide))) (fun _ => rfl) (fun _ => rfl) (fun _ => rfl))
            have px105 : px V V87 b := px.tr px104 t86
            have cl106 : 0 ≤ (V87 42 b).toInt ∧ (V87 42 b).toInt ≤ 8200 := hMV87 42 b
            have cl107 : 0 ≤ (V 42 b).toInt ∧ (V 42 b).toInt ≤ 8200 := hMV 42 b
            have px108 : px V48 V59 b := px.tr (px.rf : px V48 V48 b) t58
            have px109 : px V48 V72 b := px.tr px108 (px.ag (show agr [(1, 3), (6, 8), (6, 9), (6, 10)] [] V59 V72 from (agr.tr agr.rf ajV72 (by decide) (by decide))) (fun _ => rfl) (fun _ => rfl) (fun _ => rfl))
            have px110 : px V48 V87 b := px.tr px109 t86
            have jp111 := jp.up jp50 px110.1
            have px112 : px V V6 b := px.tr (px.rf : px V V b) (px.ag (show agr [(1, 3), (6, 8), (6, 9), (6, 10)] [] V V6 from (agr.tr agr.rf ajV6 (by decide) (by decide))) (fun _ => rfl) (fun _ => rfl) (fun _ => rfl))
            have px113 : px V V21 b := px.tr px112 t20
            have px114 : px V V32 b := px.tr px113 (px.ag (show agr [(1, 3), (6, 8), (6, 9), (6, 10)] [] V21 V32 from (agr.tr agr.rf ajV32 (by decide) (by decide))) (fun _ => rfl) (fun _ => rfl) (fun _ => rfl))
            have cz115 := px114.1.1
            have pq116 : (V32 42 b).toInt = ((V21 42 b)).toInt := congrArg Int32.toInt (ajV32 42 b rfl)
            have pt : ptX V87 V97 b z38 (V87 42 b) := t96
            have cd117 : CD V97 b := pt.cd t85 (a := (V32 42 b).toInt.toNat) jp111 (by omega) (by omega) (by omega)
            have px118 : px V V97 b := ⟨pt.px px105.1 (by omega), (ajV97 43 _ rfl).trans px105.2⟩
            have cl119 : 0 ≤ (V48 42 b).toInt ∧ (V48 42 b).toInt ≤ 8200 := hMV48 42 b
            have px120 : px V48 V59 b := px.tr (px.rf : px V48 V48 b) t58
            have px121 : px V48 V72 b := px.tr px120 (px.ag (show agr [(1, 3), (6, 8), (6, 9), (6, 10)] [] V59 V72 from (agr.tr agr.rf ajV72 (by decide) (by decide))) (fun _ => rfl) (fun _ => rfl) (fun _ => rfl))
            have cz8 := px121.1.1
            have pq122 : (V72 42 b).toInt = ((V59 42 b)).toInt := congrArg Int32.toInt (ajV72 42 b rfl)
            have r123 : 0 ≤ ((V48 42 b)).toInt ∧ ((V48 42 b)).toInt ≤ 8200 := hMV48 42 b
            have px124 : px V32 V48 b := px.tr (px.rf : px V32 V32 b) t47
            have cz9 := px124.1.1
            have jp125 : jp V97 b (V72 42 b).toInt.toNat := pt.jp jp111 jp89 (by omega) (by omega) (fun h9 => by have h8 := (jp50 h9).1; omega)
            refine lv_aload_n hx hb dX1_readPick_102 rfl (lv_at hl 2 rfl) ?_
            refine lv_iload_n hx hb dX1_readPick_103 rfl (lv_at hl 3 rfl) ?_
            refine lv_iconst (v := 1) hx hb dX1_readPick_104 (by decide) ?_
            refine lv_iadd hx hb dX1_readPick_105 ?_
            refine lv_topi (fun z126 ez126 => ?_)
            have hz126 : z126.toInt = p0.toInt + 1 := i_add ez126 rfl (by decide) (by omega)
            have pq127 : (V97 1 1).toInt = ((V 1 1)).toInt := congrArg Int32.toInt ((ajV97 1 1 rfl).trans ((ajV87 1 1 rfl).trans ((ajV72 1 1 rfl).trans ((ajV59 1 1 rfl).trans ((ajV48 1 1 rfl).trans ((ajV32 1 1 rfl).trans ((ajV21 1 1 rfl).trans (ajV6 1 1 rfl))))))))
            refine gA_int (gA_runV (As := [.int z126]) (rest := []) (ci := 1) (q0 := 1) hx hb hml hown hg hP hD hK hS hA hnw hgk (hk_x_readExpression H.size ad kk V97 L73 Z z126 (b) hMV97 (by first | omega | ((try (have i_cd := Imp.go cd (by omega))); omega)) (show b < 2 from by first | omega | ((try (have i_cd := Imp.go cd (by omega))); omega)) (show (V97 1 1).toInt = (b : Int) from by first | omega | ((try (have i_cd := Imp.go cd (by omega))); omega)) cd117 (show 8 - z126.toInt ≤ (dd : Int) from by first | omega | ((try (have i_cd := Imp.go cd (by omega))); omega))) w951 w953 w21 w162 w954 rfl xgReader hdV_yX1_readExpression ⟨(by show 10 * dd + 9 + 1 ≤ 10 * dd + 10; omega), (by show 8 + (3 + 11) + (300 * dd + 240) ≤ 300 * dd + 265; omega)⟩ rfl hl.1 rfl (Nat.le_of_ble_eq_true rfl) dX1_readPick_106 ⟨Nat.le_of_ble_eq_true rfl, Nat.le_of_ble_eq_true rfl⟩) hP hD hK hS hA (fun z128 u129 H locs w130 hP hD hK hS => ?_)
            obtain ⟨V133, L134⟩ := u129
            obtain ⟨hMV133, ajV133, axL134, fyV133, rgz128, t131, t132⟩ := w130
            have alL134 : agL [6, 44] L L134 := agL.tr alL73 axL134 (by decide)
            have hP : va_P D vwCl (xw ad kk V133 L134 Z) H := hP
            have hD : va_D A (xw ad kk V133 L134 Z) := hD
            have hMV133 : rgd bX V133 := hMV133
            have ajV133 : agr [(1, 3), (1, 6), (1, 8), (6, 8), (6, 9), (6, 10)] [42, 43, 44, 48] V97 V133 := ajV133
            have agV133 : agr [(1, 3), (1, 6), (1, 8), (6, 8), (6, 9), (6, 10)] [42, 43, 44, 48] V V133 := agV97.tr ajV133 (by decide) (by decide)
            have fwV133 : frX (xR b) V V133 := frX.tr fwV97 (fyV133)
            have rgz128 : 0 ≤ z128.toInt ∧ z128.toInt ≤ 1 := rgz128
            have t131 : CD V133 b := t131
            have t132 : px V97 V133 b := t132
            refine lv_if_eq (tgt := 121) hx hb dX1_readPick_109 (by decide) (fun c135 => ?_) (fun c135 => ?_)
            · skip
              have f136 : z128.toInt = 0 := b_eq rfl (by decide) c135
              refine lv_iconst (v := 0) hx hb dX1_readPick_121 (by decide) ?_
              have px137 : px V V133 b := px.tr px118 t132
              exact W.zret (v := 0) hx hb hr rfl (fun t ht hW => ⟨⟨0, (V133, L134), rfl, ⟨hMV133, agV133, alL134, fwV133, (by decide), t131, px137⟩, by rw [ht]; exact hP, va_K.moved hW.alike hK, hD⟩, hS.F ht⟩) hS.2.2 dX1_readPick_122
            · skip
              have f138 : z128.toInt ≠ 0 := b_neq rfl (by decide) c135
              refine lv_aload_n hx hb dX1_readPick_112 rfl (lv_at hl 2 rfl) ?_
              refine lv_bipush (v := 41) hx hb dX1_readPick_113 (by decide) ?_
              have r139 : Int32.toInt 41 = 41 := by decide
              refine gA_int (gA_runV (As := [.int 41]) (rest := []) (ci := 1) (q0 := 1) hx hb hml hown hg hP hD hK hS hA hnw hgk (x_take l D ks H.size ad kk V133 L134 Z 41 hMV133 ) w893 w895 w10 w162 w896 rfl xgReader hdV_yX1_take ⟨(by show 1 + 1 ≤ 10 * dd + 10; omega), (by show 8 + (2 + 11) + (21) ≤ 300 * dd + 265; omega)⟩ rfl hl.1 rfl (Nat.le_of_ble_eq_true rfl) dX1_readPick_115 ⟨Nat.le_of_ble_eq_true rfl, Nat.le_of_ble_eq_true rfl⟩) hP hD hK hS hA (fun z140 u141 H locs w142 hP hD hK hS => ?_)
              obtain ⟨V143, L144⟩ := u141
              obtain ⟨hMV143, ajV143, axL144, rgz140⟩ := w142
              have alL144 : agL [6, 44] L L144 := agL.tr alL134 axL144 (by decide)
              have hP : va_P D vwCl (xw ad kk V143 L144 Z) H := hP
              have hD : va_D A (xw ad kk V143 L144 Z) := hD
              have hMV143 : rgd bX V143 := hMV143
              have ajV143 : agr [(1, 3), (6, 8), (6, 9), (6, 10)] [] V133 V143 := ajV143
              have agV143 : agr [(1, 3), (1, 6), (1, 8), (6, 8), (6, 9), (6, 10)] [42, 43, 44, 48] V V143 := agV133.tr ajV143 (by decide) (by decide)
              have fwV143 : frX (xR b) V V143 := frX.tr fwV133 (frX.ag ajV143 (by decide) (by decide))
              have rgz140 : 0 ≤ z140.toInt ∧ z140.toInt ≤ 1 := rgz140
              refine lv_if_ne (tgt := 123) hx hb dX1_readPick_118 (by decide) (fun c145 => ?_) (fun c145 => ?_)
              · skip
                have f146 : z140.toInt ≠ 0 := b_neq rfl (by decide) c145
                refine lv_aload_n hx hb dX1_readPick_123 rfl (lv_at hl 2 rfl) ?_
                refine va_get (D := D) (ci := 1) (v := rfN ad 38 (V143 1 1)) (fs := (xfReader ad V143 L144 Z)) (C := RX1) (T := TX1) (N := 9) hx hb hg inX1 hown hK hP 1 xgReader rfl 1 (by decide) (hg _ w305) (fun _ h9 => h9) rfl dX1_readPick_124 ?_
                have pq147 : (V143 1 1).toInt = ((V 1 1)).toInt := congrArg Int32.toInt ((ajV143 1 1 rfl).trans ((ajV133 1 1 rfl).trans ((ajV97 1 1 rfl).trans ((ajV87 1 1 rfl).trans ((ajV72 1 1 rfl).trans ((ajV59 1 1 rfl).trans ((ajV48 1 1 rfl).trans ((ajV32 1 1 rfl).trans ((ajV21 1 1 rfl).trans (ajV6 1 1 rfl))))))))))
                refine g_topv (v := .ref (ad (38 + b))) (rfN_r (by first | omega | ((try (have i_cd := Imp.go cd (by omega))); omega))) ?_
                refine lv_iload_n hx hb dX1_readPick_127 rfl (lv_at hl 0 rfl) ?_
                refine lv_aload_n hx hb dX1_readPick_128 rfl (lv_at hl 2 rfl) ?_
                refine va_get (D := D) (ci := 1) (v := rfN ad 38 (V143 1 1)) (fs := (xfReader ad V143 L144 Z)) (C := RX1) (T := TX1) (N := 9) hx hb hg inX1 hown hK hP 1 xgReader rfl 1 (by decide) (hg _ w305) (fun _ h9 => h9) rfl dX1_readPick_129 ?_
                refine g_topv (v := .ref (ad (38 + b))) (rfN_r (by first | omega | ((try (have i_cd := Imp.go cd (by omega))); omega))) ?_
                refine va_getN (D := D) (ci := 0) (v := .int (V143 42 b)) (fs := (xfBook ad V143 b)) (C := RX0) (T := TX0) (N := 13) hx hb hg inX0 hown hK hP (38 + b) (xgBook hb2) rfl 12 (by decide) (hnw.use 630 n630 rfl) (fun _ h9 => h9) rfl dX1_readPick_132 ?_
                refine g_top (v := (V133 42 b)) (ajV143 42 b rfl) ?_
                have r148 : 0 ≤ ((V133 42 b)).toInt ∧ ((V133 42 b)).toInt ≤ 8200 := hMV133 42 b
                refine gA_void (gA_runV (As := [.int z78, .int (V133 42 b)]) (rest := []) (ci := 0) (q0 := (38 + b)) hx hb hml hown hg hP hD hK hS hA hnw hgk (x_patch l D ks H.size ad kk V143 L144 Z z78 (V133 42 b) (b) hMV143 (show b < 2 from by first | omega | ((try (have i_cd := Imp.go cd (by omega))); omega))) w987 w988 w989 w167 w990 rfl (xgBook hb2) hdV_yX0_patch ⟨(by show 0 + 1 ≤ 10 * dd + 10; omega), (by show 8 + (3 + 11) + (0) ≤ 300 * dd + 265; omega)⟩ rfl hl.1 rfl (Nat.le_of_ble_eq_true rfl) dX1_readPick_135 ⟨Nat.le_of_ble_eq_true rfl, Nat.le_of_ble_eq_true rfl⟩) hP hD hK hS hA (fun u150 H locs w151 hP hD hK hS => ?_)
                obtain ⟨V153, L154⟩ := u150
                obtain ⟨hMV153, ajV153, axL154, fyV153, t152⟩ := w151
                have axL154 : L144 = L154 := Eq.symm axL154
                subst axL154
                have hP : va_P D vwCl (xw ad kk V153 L144 Z) H := hP
                have hD : va_D A (xw ad kk V153 L144 Z) := hD
                have hMV153 : rgd bX V153 := hMV153
                have ajV153 : agr [] [48] V143 V153 := ajV153
                have agV153 : agr [(1, 3), (1, 6), (1, 8), (6, 8), (6, 9), (6, 10)] [42, 43, 44, 48] V V153 := agV143.tr ajV153 (by decide) (by decide)
                have fwV153 : frX (xR b) V V153 := frX.tr fwV143 (fyV153)
                have t152 : (z78.toInt < 0 ∨ 8200 ≤ z78.toInt) ∧ V153 = V143 ∨ (0 ≤ z78.toInt ∧ z78.toInt < 8200 ∧ V153 = up2 V143 48 (8200 * b + Int32.toNatClampNeg z78) (V133 42 b)) := t152
                have cd155 : CD V143 b := ⟨CB.ag t131.1 (show agr [(1, 3), (6, 8), (6, 9), (6, 10)] [] V133 V143 from (agr.tr agr.rf ajV143 (by decide) (by decide))) (fun _ => rfl) (fun _ => rfl), CO.ag t131.2 (show agr [(1, 3), (6, 8), (6, 9), (6, 10)] [] V133 V143 from (agr.tr agr.rf ajV143 (by decide) (by decide))) (fun _ => rfl) (fun _ => rfl)⟩
                have px156 : px V V133 b := px.tr px118 t132
                have px157 : px V V143 b := px.tr px156 (px.ag (show agr [(1, 3), (6, 8), (6, 9), (6, 10)] [] V133 V143 from (agr.tr agr.rf ajV143 (by decide) (by decide))) (fun _ => rfl) (fun _ => rfl) (fun _ => rfl))
                have cl158 : 0 ≤ (V143 42 b).toInt ∧ (V143 42 b).toInt ≤ 8200 := hMV143 42 b
                have px159 : px V97 V133 b := px.tr (px.rf : px V97 V97 b) t132
                have px160 : px V97 V143 b := px.tr px159 (px.ag (show agr [(1, 3), (6, 8), (6, 9), (6, 10)] [] V133 V143 from (agr.tr agr.rf ajV143 (by decide) (by decide))) (fun _ => rfl) (fun _ => rfl) (fun _ => rfl))
                have jp161 := jp.up jp125 px160.1
                have px162 : px V V6 b := px.tr (px.rf : px V V b) (px.ag (show agr [(1, 3), (6, 8), (6, 9), (6, 10)] [] V V6 from (agr.tr agr.rf ajV6 (by decide) (by decide))) (fun _ => rfl) (fun _ => rfl) (fun _ => rfl))
                have px163 : px V V21 b := px.tr px162 t20
                have px164 : px V V32 b := px.tr px163 (px.ag (show agr [(1, 3), (6, 8), (6, 9), (6, 10)] [] V21 V32 from (agr.tr agr.rf ajV32 (by decide) (by decide))) (fun _ => rfl) (fun _ => rfl) (fun _ => rfl))
                have px165 : px V V48 b := px.tr px164 t47
                have px166 : px V V59 b := px.tr px165 t58
                have px167 : px V V72 b := px.tr px166 (px.ag (show agr [(1, 3), (6, 8), (6, 9), (6, 10)] [] V59 V72 from (agr.tr agr.rf ajV72 (by decide) (by decide))) (fun _ => rfl) (fun _ => rfl) (fun _ => rfl))
                have cz168 := px167.1.1
                have pq169 : (V143 42 b).toInt = ((V133 42 b)).toInt := congrArg Int32.toInt (ajV143 42 b rfl)
                have pt : ptX V143 V153 b z78 (V133 42 b) := t152
                have cd170 : CD V153 b := pt.cd cd155 (a := (V72 42 b).toInt.toNat) jp161 (by omega) (by omega) (by omega)
                have px171 : px V V153 b := ⟨pt.px px157.1 (by omega), (ajV153 43 _ rfl).trans px157.2⟩
                refine lv_iconst (v := 1) hx hb dX1_readPick_138 (by decide) ?_
                exact W.zret (v := 1) hx hb hr rfl (fun t ht hW => ⟨⟨1, (V153, L144), rfl, ⟨hMV153, agV153, alL144, fwV153, (by decide), cd170, px171⟩, by rw [ht]; exact hP, va_K.moved hW.alike hK, hD⟩, hS.F ht⟩) hS.2.2 dX1_readPick_139
              · skip
                have f172 : z140.toInt = 0 := b_eq rfl (by decide) c145
                refine lv_iconst (v := 0) hx hb dX1_readPick_121 (by decide) ?_
                have cd173 : CD V143 b := ⟨CB.ag t131.1 (show agr [(1, 3), (6, 8), (6, 9), (6, 10)] [] V133 V143 from (agr.tr agr.rf ajV143 (by decide) (by decide))) (fun _ => rfl) (fun _ => rfl), CO.ag t131.2 (show agr [(1, 3), (6, 8), (6, 9), (6, 10)] [] V133 V143 from (agr.tr agr.rf ajV143 (by decide) (by decide))) (fun _ => rfl) (fun _ => rfl)⟩
                have px174 : px V V133 b := px.tr px118 t132
                have px175 : px V V143 b := px.tr px174 (px.ag (show agr [(1, 3), (6, 8), (6, 9), (6, 10)] [] V133 V143 from (agr.tr agr.rf ajV143 (by decide) (by decide))) (fun _ => rfl) (fun _ => rfl) (fun _ => rfl))
                exact W.zret (v := 0) hx hb hr rfl (fun t ht hW => ⟨⟨0, (V143, L144), rfl, ⟨hMV143, agV143, alL144, fwV143, (by decide), cd173, px175⟩, by rw [ht]; exact hP, va_K.moved hW.alike hK, hD⟩, hS.F ht⟩) hS.2.2 dX1_readPick_122
          · skip
            have f176 : z69.toInt = 0 := b_eq rfl (by decide) c74
            refine lv_iconst (v := 0) hx hb dX1_readPick_67 (by decide) ?_
            have cd177 : CD V72 b := ⟨CB.ag t57.1 (show agr [(1, 3), (6, 8), (6, 9), (6, 10)] [] V59 V72 from (agr.tr agr.rf ajV72 (by decide) (by decide))) (fun _ => rfl) (fun _ => rfl), CO.ag t57.2 (show agr [(1, 3), (6, 8), (6, 9), (6, 10)] [] V59 V72 from (agr.tr agr.rf ajV72 (by decide) (by decide))) (fun _ => rfl) (fun _ => rfl)⟩
            have px178 : px V V6 b := px.tr (px.rf : px V V b) (px.ag (show agr [(1, 3), (6, 8), (6, 9), (6, 10)] [] V V6 from (agr.tr agr.rf ajV6 (by decide) (by decide))) (fun _ => rfl) (fun _ => rfl) (fun _ => rfl))
            have px179 : px V V21 b := px.tr px178 t20
            have px180 : px V V32 b := px.tr px179 (px.ag (show agr [(1, 3), (6, 8), (6, 9), (6, 10)] [] V21 V32 from (agr.tr agr.rf ajV32 (by decide) (by decide))) (fun _ => rfl) (fun _ => rfl) (fun _ => rfl))
            have px181 : px V V48 b := px.tr px180 t47
            have px182 : px V V59 b := px.tr px181 t58
            have px183 : px V V72 b := px.tr px182 (px.ag (show agr [(1, 3), (6, 8), (6, 9), (6, 10)] [] V59 V72 from (agr.tr agr.rf ajV72 (by decide) (by decide))) (fun _ => rfl) (fun _ => rfl) (fun _ => rfl))
            exact W.zret (v := 0) hx hb hr rfl (fun t ht hW => ⟨⟨0, (V72, L73), rfl, ⟨hMV72, agV72, alL73, fwV72, (by decide), cd177, px183⟩, by rw [ht]; exact hP, va_K.moved hW.alike hK, hD⟩, hS.F ht⟩) hS.2.2 dX1_readPick_68
      · skip
        have f184 : z29.toInt = 0 := b_eq rfl (by decide) c34
        refine lv_iconst (v := 0) hx hb dX1_readPick_28 (by decide) ?_
        have cd185 : CD V32 b := ⟨CB.ag t19.1 (show agr [(1, 3), (6, 8), (6, 9), (6, 10)] [] V21 V32 from (agr.tr agr.rf ajV32 (by decide) (by decide))) (fun _ => rfl) (fun _ => rfl), CO.ag t19.2 (show agr [(1, 3), (6, 8), (6, 9), (6, 10)] [] V21 V32 from (agr.tr agr.rf ajV32 (by decide) (by decide))) (fun _ => rfl) (fun _ => rfl)⟩
        have px186 : px V V6 b := px.tr (px.rf : px V V b) (px.ag (show agr [(1, 3), (6, 8), (6, 9), (6, 10)] [] V V6 from (agr.tr agr.rf ajV6 (by decide) (by decide))) (fun _ => rfl) (fun _ => rfl) (fun _ => rfl))
        have px187 : px V V21 b := px.tr px186 t20
        have px188 : px V V32 b := px.tr px187 (px.ag (show agr [(1, 3), (6, 8), (6, 9), (6, 10)] [] V21 V32 from (agr.tr agr.rf ajV32 (by decide) (by decide))) (fun _ => rfl) (fun _ => rfl) (fun _ => rfl))
        exact W.zret (v := 0) hx hb hr rfl (fun t ht hW => ⟨⟨0, (V32, L33), rfl, ⟨hMV32, agV32, alL33, fwV32, (by decide), cd185, px188⟩, by rw [ht]; exact hP, va_K.moved hW.alike hK, hD⟩, hS.F ht⟩) hS.2.2 dX1_readPick_29
theorem K_xpart {l : Launch} {D : va_G} {ks : KS} : ∀ dd, K_x_readPart l D ks dd
  | 0 => x_readPart (fun d9 h => absurd h (by omega)) (fun d9 h => absurd h (by omega)) (fun d9 h => absurd h (by omega)) (fun d9 h => absurd h (by omega)) (fun d9 h => absurd h (by omega))
  | d + 1 => by
    have k1 := K_xpart (l := l) (D := D) (ks := ks) d
    have k4 := x_readExpression (x_readSum (x_readProduct k1))
    have kw := x_readWithin k4
    refine x_readPart (fun d9 h => ?_) (fun d9 h => ?_) (fun d9 h => ?_) (fun d9 h => ?_) (fun d9 h => ?_)
    all_goals (have e : d9 = d := by omega)
    all_goals subst e
    · exact k4
    · exact k1
    · exact x_readPick k4
    · exact x_readOf kw
    · exact kw
theorem K_xexpr {l : Launch} {D : va_G} {ks : KS} (dd : Nat) : K_x_readExpression l D ks dd := x_readExpression (x_readSum (x_readProduct (K_xpart dd)))
