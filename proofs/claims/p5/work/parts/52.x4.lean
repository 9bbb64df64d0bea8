/-! how many components are not on the path yet -/
def cx (V : Vf) : Nat → Nat
  | 0 => 0
  | n + 1 => cx V n + (if (V 20 n).toInt = -1 then 1 else 0)
theorem cx_le (V : Vf) : ∀ n, cx V n ≤ n
  | 0 => Nat.le_refl _
  | n + 1 => by
    have := cx_le V n
    show cx V n + (if (V 20 n).toInt = -1 then 1 else 0) ≤ n + 1
    split <;> omega
theorem cx_same {V W : Vf} : ∀ n, (∀ k, k < n → ((W 20 k).toInt = -1 ↔ (V 20 k).toInt = -1)) → cx W n = cx V n
  | 0, _ => rfl
  | n + 1, h => by
    have ih := cx_same (V := V) (W := W) n (fun k hk => h k (by omega))
    have e := h n (by omega)
    show cx W n + (if (W 20 n).toInt = -1 then 1 else 0) = cx V n + (if (V 20 n).toInt = -1 then 1 else 0)
    rw [ih]
    by_cases q : (V 20 n).toInt = -1
    · rw [if_pos q, if_pos (e.mpr q)]
    · rw [if_neg q, if_neg (fun z => q (e.mp z))]
theorem cx_up {V W : Vf} {x : Nat} {v : Int32} (e : W = up2 V 20 x v) (h1 : (V 20 x).toInt = -1) (h2 : v.toInt ≠ -1) : ∀ n, (x < n → cx W n + 1 = cx V n) ∧ (n ≤ x → cx W n = cx V n)
  | 0 => ⟨fun h => absurd h (by omega), fun _ => rfl⟩
  | n + 1 => by
    have ih := cx_up e h1 h2 n
    show (_ → cx W n + (if (W 20 n).toInt = -1 then 1 else 0) + 1 = cx V n + (if (V 20 n).toInt = -1 then 1 else 0)) ∧ (_ → cx W n + (if (W 20 n).toInt = -1 then 1 else 0) = cx V n + (if (V 20 n).toInt = -1 then 1 else 0))
    by_cases q : n = x
    · subst q
      rw [up2_s e, if_pos h1, if_neg h2]
      have := ih.2 (Nat.le_refl _)
      exact ⟨fun _ => by omega, fun h => absurd h (by omega)⟩
    · rw [up2_k e q]
      refine ⟨fun h => ?_, fun h => ?_⟩
      · have := ih.1 (by omega)
        omega
      · have := ih.2 (by omega)
        omega
theorem cx_lo {V W : Vf} {x : Nat} {v : Int32} (e : W = up2 V 20 x v) (h1 : (V 20 x).toInt ≠ -1) (h2 : v.toInt ≠ -1) (n : Nat) : cx W n = cx V n := by
  refine cx_same n (fun k _ => ?_)
  by_cases q : k = x
  · subst q
    rw [up2_s e]
    exact ⟨fun h => absurd h h2, fun h => absurd h h1⟩
  · rw [up2_k e q]
theorem cx_ag {fs : List (Nat × Nat)} {cs : List Nat} {V W : Vf} (a : agr fs cs V W) (h : ∀ k, wrL fs cs 20 k = false) (n : Nat) : cx W n = cx V n := cx_same n (fun k _ => by rw [a 20 k (h k)])

theorem w372 : Cond.code yJ7_fill_53178 cJ7_fill_53178 4 none ∈ GW := gw_mem 372 (by decide +kernel) rfl
theorem w370 : Cond.methodLink RX8 49 yJ7_fill_53178 ∈ GW := gw_mem 370 (by decide +kernel) rfl
theorem w371 : Cond.static yJ7_fill_53178 ∈ GW := gw_mem 371 (by decide +kernel) rfl
theorem hdS_yJ7_fill_53178 : yJ7_fill_53178.cls ≠ "java/lang/invoke/MethodHandle" ∧ yJ7_fill_53178.cls ≠ "java/lang/invoke/VarHandle" ∧ (parseMethodDescriptor yJ7_fill_53178.desc).map (fun d => d.parameters.length) = some 2 := by decide +kernel
theorem w394 : Cond.fieldLink RX8 69 "WiringHouse$Stock" "linkCount" "I" ∈ GW := gw_mem 394 (by decide +kernel) rfl
theorem w1030 : Cond.code yX8_shut cX8_shut 2 none ∈ GW := gw_mem 1030 (by decide +kernel) rfl
theorem w1027 : Cond.methodLink RX8 59 yX8_shut ∈ GW := gw_mem 1027 (by decide +kernel) rfl
theorem w1028 : Cond.instanceMethod yX8_shut ∈ GW := gw_mem 1028 (by decide +kernel) rfl
theorem w1029 : Cond.selects RX8 yX8_shut yX8_shut ∈ GW := gw_mem 1029 (by decide +kernel) rfl
theorem hdV_yX8_shut : yX8_shut.cls = RX8 ∧ yX8_shut.cls ≠ "java/lang/invoke/MethodHandle" ∧ yX8_shut.cls ≠ "java/lang/invoke/VarHandle" ∧ (parseMethodDescriptor yX8_shut.desc).map (fun d => d.parameters.length) = some 1 := by decide +kernel
theorem w507 : Cond.fieldLink RX3 21 "WiringHouse$Component" "methodStarts" "[I" ∈ GW := gw_mem 507 (by decide +kernel) rfl
theorem w918 : Cond.methodLink RX3 24 yJ7_fill_53178 ∈ GW := gw_mem 918 (by decide +kernel) rfl
theorem w515 : Cond.fieldLink RX3 34 "WiringHouse$Component" "under" "I" ∈ GW := gw_mem 515 (by decide +kernel) rfl
theorem w518 : Cond.fieldLink RX3 37 "WiringHouse$Component" "scope" "I" ∈ GW := gw_mem 518 (by decide +kernel) rfl
theorem w523 : Cond.fieldLink RX3 40 "WiringHouse$Component" "calledWord" "I" ∈ GW := gw_mem 523 (by decide +kernel) rfl
theorem w527 : Cond.fieldLink RX3 43 "WiringHouse$Component" "rank" "I" ∈ GW := gw_mem 527 (by decide +kernel) rfl
theorem w531 : Cond.fieldLink RX3 46 "WiringHouse$Component" "whenSetting" "I" ∈ GW := gw_mem 531 (by decide +kernel) rfl
theorem w534 : Cond.fieldLink RX3 49 "WiringHouse$Component" "whenValue" "I" ∈ GW := gw_mem 534 (by decide +kernel) rfl
theorem w537 : Cond.fieldLink RX3 52 "WiringHouse$Component" "openedStart" "I" ∈ GW := gw_mem 537 (by decide +kernel) rfl
theorem w540 : Cond.fieldLink RX3 55 "WiringHouse$Component" "closedStart" "I" ∈ GW := gw_mem 540 (by decide +kernel) rfl
theorem w345 : Cond.fieldLink RX2 30 "WiringHouse$Checker" "faults" "I" ∈ GW := gw_mem 345 (by decide +kernel) rfl
theorem w338 : Cond.fieldLink RX2 9 "WiringHouse$Checker" "kinds" "[I" ∈ GW := gw_mem 338 (by decide +kernel) rfl
theorem w339 : Cond.fieldLink RX2 15 "WiringHouse$Checker" "whose" "[I" ∈ GW := gw_mem 339 (by decide +kernel) rfl
theorem w340 : Cond.fieldLink RX2 18 "WiringHouse$Checker" "details" "[I" ∈ GW := gw_mem 340 (by decide +kernel) rfl
theorem w1124 : Cond.code yX2_tells cX2_tells 2 (some .boolean) ∈ GW := gw_mem 1124 (by decide +kernel) rfl
theorem w1121 : Cond.methodLink RX2 109 yX2_tells ∈ GW := gw_mem 1121 (by decide +kernel) rfl
theorem w163 : Cond.initialized RX2 ∈ GW := gw_mem 163 (by decide +kernel) rfl
theorem w1123 : Cond.instanceMethod yX2_tells ∈ GW := gw_mem 1123 (by decide +kernel) rfl
theorem w41 : Cond.selects RX2 yX2_tells yX2_tells ∈ GW := gw_mem 41 (by decide +kernel) rfl
theorem hdV_yX2_tells : yX2_tells.cls = RX2 ∧ yX2_tells.cls ≠ "java/lang/invoke/MethodHandle" ∧ yX2_tells.cls ≠ "java/lang/invoke/VarHandle" ∧ (parseMethodDescriptor yX2_tells.desc).map (fun d => d.parameters.length) = some 1 := by decide +kernel
theorem w341 : Cond.fieldLink RX2 21 "WiringHouse$Checker" "rings" "[I" ∈ GW := gw_mem 341 (by decide +kernel) rfl
theorem w342 : Cond.fieldLink RX2 24 "WiringHouse$Checker" "path" "[I" ∈ GW := gw_mem 342 (by decide +kernel) rfl
theorem w1099 : Cond.code yX2_note cX2_note 4 none ∈ GW := gw_mem 1099 (by decide +kernel) rfl
theorem w1096 : Cond.methodLink RX2 80 yX2_note ∈ GW := gw_mem 1096 (by decide +kernel) rfl
theorem w1098 : Cond.instanceMethod yX2_note ∈ GW := gw_mem 1098 (by decide +kernel) rfl
theorem w37 : Cond.selects RX2 yX2_note yX2_note ∈ GW := gw_mem 37 (by decide +kernel) rfl
theorem hdV_yX2_note : yX2_note.cls = RX2 ∧ yX2_note.cls ≠ "java/lang/invoke/MethodHandle" ∧ yX2_note.cls ≠ "java/lang/invoke/VarHandle" ∧ (parseMethodDescriptor yX2_note.desc).map (fun d => d.parameters.length) = some 3 := by decide +kernel
theorem w344 : Cond.fieldLink RX2 34 "WiringHouse$Checker" "book" "LWiringHouse$Book;" ∈ GW := gw_mem 344 (by decide +kernel) rfl
theorem n600 : lw_tbl[600]? = some (Cond.fieldLinkNest RX2 38 "WiringHouse$Book" "names" "LWiringHouse$Names;" "WiringHouse") := by decide +kernel
theorem n482 : lw_tbl[482]? = some (Cond.fieldLinkNest RX2 44 "WiringHouse$Names" "size" "I" "WiringHouse") := by decide +kernel
theorem n615 : lw_tbl[615]? = some (Cond.fieldLinkNest RX2 67 "WiringHouse$Book" "components" "[LWiringHouse$Component;" "WiringHouse") := by decide +kernel
theorem n519 : lw_tbl[519]? = some (Cond.fieldLinkNest RX2 96 "WiringHouse$Component" "scope" "I" "WiringHouse") := by decide +kernel
theorem n504 : lw_tbl[504]? = some (Cond.fieldLinkNest RX2 84 "WiringHouse$Component" "needKinds" "[I" "WiringHouse") := by decide +kernel
theorem w1084 : Cond.code yX0_candidates cX0_candidates 12 (some .int) ∈ GW := gw_mem 1084 (by decide +kernel) rfl
theorem w1081 : Cond.methodLink RX2 87 yX0_candidates ∈ GW := gw_mem 1081 (by decide +kernel) rfl
theorem w1082 : Cond.instanceMethod yX0_candidates ∈ GW := gw_mem 1082 (by decide +kernel) rfl
theorem w1083 : Cond.selects RX0 yX0_candidates yX0_candidates ∈ GW := gw_mem 1083 (by decide +kernel) rfl
theorem hdV_yX0_candidates : yX0_candidates.cls = RX0 ∧ yX0_candidates.cls ≠ "java/lang/invoke/MethodHandle" ∧ yX0_candidates.cls ≠ "java/lang/invoke/VarHandle" ∧ (parseMethodDescriptor yX0_candidates.desc).map (fun d => d.parameters.length) = some 2 := by decide +kernel
theorem w1095 : Cond.code yX2_hasShorter cX2_hasShorter 6 (some .boolean) ∈ GW := gw_mem 1095 (by decide +kernel) rfl
theorem w1092 : Cond.methodLink RX2 99 yX2_hasShorter ∈ GW := gw_mem 1092 (by decide +kernel) rfl
theorem w1094 : Cond.instanceMethod yX2_hasShorter ∈ GW := gw_mem 1094 (by decide +kernel) rfl
theorem w36 : Cond.selects RX2 yX2_hasShorter yX2_hasShorter ∈ GW := gw_mem 36 (by decide +kernel) rfl
theorem hdV_yX2_hasShorter : yX2_hasShorter.cls = RX2 ∧ yX2_hasShorter.cls ≠ "java/lang/invoke/MethodHandle" ∧ yX2_hasShorter.cls ≠ "java/lang/invoke/VarHandle" ∧ (parseMethodDescriptor yX2_hasShorter.desc).map (fun d => d.parameters.length) = some 2 := by decide +kernel
theorem w1088 : Cond.code yJ6_bitCount_0f7a4 cJ6_bitCount_0f7a4 1 (some .int) ∈ GW := gw_mem 1088 (by decide +kernel) rfl
theorem w1086 : Cond.methodLink RX2 90 yJ6_bitCount_0f7a4 ∈ GW := gw_mem 1086 (by decide +kernel) rfl
theorem w175 : Cond.initialized RJ6 ∈ GW := gw_mem 175 (by decide +kernel) rfl
theorem w1087 : Cond.static yJ6_bitCount_0f7a4 ∈ GW := gw_mem 1087 (by decide +kernel) rfl
theorem hdS_yJ6_bitCount_0f7a4 : yJ6_bitCount_0f7a4.cls ≠ "java/lang/invoke/MethodHandle" ∧ yJ6_bitCount_0f7a4.cls ≠ "java/lang/invoke/VarHandle" ∧ (parseMethodDescriptor yJ6_bitCount_0f7a4.desc).map (fun d => d.parameters.length) = some 1 := by decide +kernel
theorem n511 : lw_tbl[511]? = some (Cond.fieldLinkNest RX2 71 "WiringHouse$Component" "needs" "I" "WiringHouse") := by decide +kernel
theorem w1080 : Cond.code yX2_faultOf cX2_faultOf 6 (some .int) ∈ GW := gw_mem 1080 (by decide +kernel) rfl
theorem w1077 : Cond.methodLink RX2 76 yX2_faultOf ∈ GW := gw_mem 1077 (by decide +kernel) rfl
theorem w1079 : Cond.instanceMethod yX2_faultOf ∈ GW := gw_mem 1079 (by decide +kernel) rfl
theorem w35 : Cond.selects RX2 yX2_faultOf yX2_faultOf ∈ GW := gw_mem 35 (by decide +kernel) rfl
theorem hdV_yX2_faultOf : yX2_faultOf.cls = RX2 ∧ yX2_faultOf.cls ≠ "java/lang/invoke/MethodHandle" ∧ yX2_faultOf.cls ≠ "java/lang/invoke/VarHandle" ∧ (parseMethodDescriptor yX2_faultOf.desc).map (fun d => d.parameters.length) = some 2 := by decide +kernel
theorem w343 : Cond.fieldLink RX2 27 "WiringHouse$Checker" "onPath" "[I" ∈ GW := gw_mem 343 (by decide +kernel) rfl
theorem w1108 : Cond.code yX2_followed cX2_followed 4 (some .int) ∈ GW := gw_mem 1108 (by decide +kernel) rfl
theorem w1105 : Cond.methodLink RX2 103 yX2_followed ∈ GW := gw_mem 1105 (by decide +kernel) rfl
theorem w1107 : Cond.instanceMethod yX2_followed ∈ GW := gw_mem 1107 (by decide +kernel) rfl
theorem w39 : Cond.selects RX2 yX2_followed yX2_followed ∈ GW := gw_mem 39 (by decide +kernel) rfl
theorem hdV_yX2_followed : yX2_followed.cls = RX2 ∧ yX2_followed.cls ≠ "java/lang/invoke/MethodHandle" ∧ yX2_followed.cls ≠ "java/lang/invoke/VarHandle" ∧ (parseMethodDescriptor yX2_followed.desc).map (fun d => d.parameters.length) = some 2 := by decide +kernel
theorem w1112 : Cond.code yX2_noteRing cX2_noteRing 4 none ∈ GW := gw_mem 1112 (by decide +kernel) rfl
theorem w1109 : Cond.methodLink RX2 106 yX2_noteRing ∈ GW := gw_mem 1109 (by decide +kernel) rfl
theorem w1111 : Cond.instanceMethod yX2_noteRing ∈ GW := gw_mem 1111 (by decide +kernel) rfl
theorem w40 : Cond.selects RX2 yX2_noteRing yX2_noteRing ∈ GW := gw_mem 40 (by decide +kernel) rfl
theorem hdV_yX2_noteRing : yX2_noteRing.cls = RX2 ∧ yX2_noteRing.cls ≠ "java/lang/invoke/MethodHandle" ∧ yX2_noteRing.cls ≠ "java/lang/invoke/VarHandle" ∧ (parseMethodDescriptor yX2_noteRing.desc).map (fun d => d.parameters.length) = some 2 := by decide +kernel
theorem w1104 : Cond.code yX2_follow cX2_follow 6 none ∈ GW := gw_mem 1104 (by decide +kernel) rfl
theorem w1101 : Cond.methodLink RX2 63 yX2_follow ∈ GW := gw_mem 1101 (by decide +kernel) rfl
theorem w1103 : Cond.instanceMethod yX2_follow ∈ GW := gw_mem 1103 (by decide +kernel) rfl
theorem w38 : Cond.selects RX2 yX2_follow yX2_follow ∈ GW := gw_mem 38 (by decide +kernel) rfl
theorem hdV_yX2_follow : yX2_follow.cls = RX2 ∧ yX2_follow.cls ≠ "java/lang/invoke/MethodHandle" ∧ yX2_follow.cls ≠ "java/lang/invoke/VarHandle" ∧ (parseMethodDescriptor yX2_follow.desc).map (fun d => d.parameters.length) = some 2 := by decide +kernel
theorem dX8_clear_0 : decode cX8_clear 0 = .ok (.aload_n 0, 1) := by decide +kernel
theorem dX8_clear_1 : decode cX8_clear 1 = .ok (.getfield 25, 3) := by decide +kernel
theorem dX8_clear_4 : decode cX8_clear 4 = .ok (.iconst (-1), 1) := by decide +kernel
theorem dX8_clear_5 : decode cX8_clear 5 = .ok (.invokestatic 49, 3) := by decide +kernel
theorem dX8_clear_8 : decode cX8_clear 8 = .ok (.iconst 0, 1) := by decide +kernel
theorem dX8_clear_9 : decode cX8_clear 9 = .ok (.istore_n 1, 1) := by decide +kernel
theorem dX8_clear_10 : decode cX8_clear 10 = .ok (.iload_n 1, 1) := by decide +kernel
theorem dX8_clear_11 : decode cX8_clear 11 = .ok (.bipush 40, 2) := by decide +kernel
theorem dX8_clear_13 : decode cX8_clear 13 = .ok (.if_icmp .ge 14, 3) := by decide +kernel
theorem dX8_clear_27 : decode cX8_clear 27 = .ok (.aload_n 0, 1) := by decide +kernel
theorem dX8_clear_28 : decode cX8_clear 28 = .ok (.getfield 18, 3) := by decide +kernel
theorem dX8_clear_31 : decode cX8_clear 31 = .ok (.iconst 0, 1) := by decide +kernel
theorem dX8_clear_32 : decode cX8_clear 32 = .ok (.iconst 1, 1) := by decide +kernel
theorem dX8_clear_33 : decode cX8_clear 33 = .ok (.bastore, 1) := by decide +kernel
theorem dX8_clear_34 : decode cX8_clear 34 = .ok (.aload_n 0, 1) := by decide +kernel
theorem dX8_clear_35 : decode cX8_clear 35 = .ok (.iconst 1, 1) := by decide +kernel
theorem dX8_clear_36 : decode cX8_clear 36 = .ok (.putfield 55, 3) := by decide +kernel
theorem dX8_clear_39 : decode cX8_clear 39 = .ok (.aload_n 0, 1) := by decide +kernel
theorem dX8_clear_40 : decode cX8_clear 40 = .ok (.iconst 0, 1) := by decide +kernel
theorem dX8_clear_41 : decode cX8_clear 41 = .ok (.putfield 63, 3) := by decide +kernel
theorem dX8_clear_44 : decode cX8_clear 44 = .ok (.aload_n 0, 1) := by decide +kernel
theorem dX8_clear_45 : decode cX8_clear 45 = .ok (.iconst 0, 1) := by decide +kernel
theorem dX8_clear_46 : decode cX8_clear 46 = .ok (.putfield 66, 3) := by decide +kernel
theorem dX8_clear_49 : decode cX8_clear 49 = .ok (.aload_n 0, 1) := by decide +kernel
theorem dX8_clear_50 : decode cX8_clear 50 = .ok (.iconst 0, 1) := by decide +kernel
theorem dX8_clear_51 : decode cX8_clear 51 = .ok (.putfield 69, 3) := by decide +kernel
theorem dX8_clear_54 : decode cX8_clear 54 = .ok (.return_, 1) := by decide +kernel
theorem dX8_clear_16 : decode cX8_clear 16 = .ok (.aload_n 0, 1) := by decide +kernel
theorem dX8_clear_17 : decode cX8_clear 17 = .ok (.iload_n 1, 1) := by decide +kernel
theorem dX8_clear_18 : decode cX8_clear 18 = .ok (.invokevirtual 59, 3) := by decide +kernel
theorem dX8_clear_21 : decode cX8_clear 21 = .ok (.iinc 1 1, 3) := by decide +kernel
theorem dX8_clear_24 : decode cX8_clear 24 = .ok (.goto (-14), 3) := by decide +kernel
theorem dX3_clear_0 : decode cX3_clear 0 = .ok (.aload_n 0, 1) := by decide +kernel
theorem dX3_clear_1 : decode cX3_clear 1 = .ok (.getfield 21, 3) := by decide +kernel
theorem dX3_clear_4 : decode cX3_clear 4 = .ok (.iconst (-1), 1) := by decide +kernel
theorem dX3_clear_5 : decode cX3_clear 5 = .ok (.invokestatic 24, 3) := by decide +kernel
theorem dX3_clear_8 : decode cX3_clear 8 = .ok (.aload_n 0, 1) := by decide +kernel
theorem dX3_clear_9 : decode cX3_clear 9 = .ok (.iconst 0, 1) := by decide +kernel
theorem dX3_clear_10 : decode cX3_clear 10 = .ok (.putfield 30, 3) := by decide +kernel
theorem dX3_clear_13 : decode cX3_clear 13 = .ok (.aload_n 0, 1) := by decide +kernel
theorem dX3_clear_14 : decode cX3_clear 14 = .ok (.iconst 0, 1) := by decide +kernel
theorem dX3_clear_15 : decode cX3_clear 15 = .ok (.putfield 34, 3) := by decide +kernel
theorem dX3_clear_18 : decode cX3_clear 18 = .ok (.aload_n 0, 1) := by decide +kernel
theorem dX3_clear_19 : decode cX3_clear 19 = .ok (.iconst 0, 1) := by decide +kernel
theorem dX3_clear_20 : decode cX3_clear 20 = .ok (.putfield 37, 3) := by decide +kernel
theorem dX3_clear_23 : decode cX3_clear 23 = .ok (.aload_n 0, 1) := by decide +kernel
theorem dX3_clear_24 : decode cX3_clear 24 = .ok (.iconst (-1), 1) := by decide +kernel
theorem dX3_clear_25 : decode cX3_clear 25 = .ok (.putfield 40, 3) := by decide +kernel
theorem dX3_clear_28 : decode cX3_clear 28 = .ok (.aload_n 0, 1) := by decide +kernel
theorem dX3_clear_29 : decode cX3_clear 29 = .ok (.iconst 0, 1) := by decide +kernel
theorem dX3_clear_30 : decode cX3_clear 30 = .ok (.putfield 43, 3) := by decide +kernel
theorem dX3_clear_33 : decode cX3_clear 33 = .ok (.aload_n 0, 1) := by decide +kernel
theorem dX3_clear_34 : decode cX3_clear 34 = .ok (.iconst (-1), 1) := by decide +kernel
theorem dX3_clear_35 : decode cX3_clear 35 = .ok (.putfield 46, 3) := by decide +kernel
theorem dX3_clear_38 : decode cX3_clear 38 = .ok (.aload_n 0, 1) := by decide +kernel
theorem dX3_clear_39 : decode cX3_clear 39 = .ok (.iconst 0, 1) := by decide +kernel
theorem dX3_clear_40 : decode cX3_clear 40 = .ok (.putfield 49, 3) := by decide +kernel
theorem dX3_clear_43 : decode cX3_clear 43 = .ok (.aload_n 0, 1) := by decide +kernel
theorem dX3_clear_44 : decode cX3_clear 44 = .ok (.iconst (-1), 1) := by decide +kernel
theorem dX3_clear_45 : decode cX3_clear 45 = .ok (.putfield 52, 3) := by decide +kernel
theorem dX3_clear_48 : decode cX3_clear 48 = .ok (.aload_n 0, 1) := by decide +kernel
theorem dX3_clear_49 : decode cX3_clear 49 = .ok (.iconst (-1), 1) := by decide +kernel
theorem dX3_clear_50 : decode cX3_clear 50 = .ok (.putfield 55, 3) := by decide +kernel
theorem dX3_clear_53 : decode cX3_clear 53 = .ok (.return_, 1) := by decide +kernel
theorem dX2_clear_0 : decode cX2_clear 0 = .ok (.aload_n 0, 1) := by decide +kernel
theorem dX2_clear_1 : decode cX2_clear 1 = .ok (.iconst 0, 1) := by decide +kernel
theorem dX2_clear_2 : decode cX2_clear 2 = .ok (.putfield 30, 3) := by decide +kernel
theorem dX2_clear_5 : decode cX2_clear 5 = .ok (.return_, 1) := by decide +kernel
theorem dX2_tells_0 : decode cX2_tells 0 = .ok (.iload_n 1, 1) := by decide +kernel
theorem dX2_tells_1 : decode cX2_tells 1 = .ok (.ifCond .lt 21, 3) := by decide +kernel
theorem dX2_tells_22 : decode cX2_tells 22 = .ok (.iconst 0, 1) := by decide +kernel
theorem dX2_tells_23 : decode cX2_tells 23 = .ok (.ireturn, 1) := by decide +kernel
theorem dX2_tells_4 : decode cX2_tells 4 = .ok (.iload_n 1, 1) := by decide +kernel
theorem dX2_tells_5 : decode cX2_tells 5 = .ok (.aload_n 0, 1) := by decide +kernel
theorem dX2_tells_6 : decode cX2_tells 6 = .ok (.getfield 30, 3) := by decide +kernel
theorem dX2_tells_9 : decode cX2_tells 9 = .ok (.if_icmp .ge 13, 3) := by decide +kernel
theorem dX2_tells_12 : decode cX2_tells 12 = .ok (.iload_n 1, 1) := by decide +kernel
theorem dX2_tells_13 : decode cX2_tells 13 = .ok (.bipush 100, 2) := by decide +kernel
theorem dX2_tells_15 : decode cX2_tells 15 = .ok (.if_icmp .ge 7, 3) := by decide +kernel
theorem dX2_tells_18 : decode cX2_tells 18 = .ok (.iconst 1, 1) := by decide +kernel
theorem dX2_tells_19 : decode cX2_tells 19 = .ok (.goto 4, 3) := by decide +kernel
theorem dX2_note_0 : decode cX2_note 0 = .ok (.aload_n 0, 1) := by decide +kernel
theorem dX2_note_1 : decode cX2_note 1 = .ok (.getfield 30, 3) := by decide +kernel
theorem dX2_note_4 : decode cX2_note 4 = .ok (.bipush 100, 2) := by decide +kernel
theorem dX2_note_6 : decode cX2_note 6 = .ok (.if_icmp .ge 33, 3) := by decide +kernel
theorem dX2_note_39 : decode cX2_note 39 = .ok (.aload_n 0, 1) := by decide +kernel
theorem dX2_note_40 : decode cX2_note 40 = .ok (.dup, 1) := by decide +kernel
theorem dX2_note_41 : decode cX2_note 41 = .ok (.getfield 30, 3) := by decide +kernel
theorem dX2_note_44 : decode cX2_note 44 = .ok (.iconst 1, 1) := by decide +kernel
theorem dX2_note_45 : decode cX2_note 45 = .ok (.iadd, 1) := by decide +kernel
theorem dX2_note_46 : decode cX2_note 46 = .ok (.putfield 30, 3) := by decide +kernel
theorem dX2_note_49 : decode cX2_note 49 = .ok (.return_, 1) := by decide +kernel
theorem dX2_note_9 : decode cX2_note 9 = .ok (.aload_n 0, 1) := by decide +kernel
theorem dX2_note_10 : decode cX2_note 10 = .ok (.getfield 9, 3) := by decide +kernel
theorem dX2_note_13 : decode cX2_note 13 = .ok (.aload_n 0, 1) := by decide +kernel
theorem dX2_note_14 : decode cX2_note 14 = .ok (.getfield 30, 3) := by decide +kernel
theorem dX2_note_17 : decode cX2_note 17 = .ok (.iload_n 1, 1) := by decide +kernel
theorem dX2_note_18 : decode cX2_note 18 = .ok (.iastore, 1) := by decide +kernel
theorem dX2_note_19 : decode cX2_note 19 = .ok (.aload_n 0, 1) := by decide +kernel
theorem dX2_note_20 : decode cX2_note 20 = .ok (.getfield 15, 3) := by decide +kernel
theorem dX2_note_23 : decode cX2_note 23 = .ok (.aload_n 0, 1) := by decide +kernel
theorem dX2_note_24 : decode cX2_note 24 = .ok (.getfield 30, 3) := by decide +kernel
theorem dX2_note_27 : decode cX2_note 27 = .ok (.iload_n 2, 1) := by decide +kernel
theorem dX2_note_28 : decode cX2_note 28 = .ok (.iastore, 1) := by decide +kernel
theorem dX2_note_29 : decode cX2_note 29 = .ok (.aload_n 0, 1) := by decide +kernel
theorem dX2_note_30 : decode cX2_note 30 = .ok (.getfield 18, 3) := by decide +kernel
theorem dX2_note_33 : decode cX2_note 33 = .ok (.aload_n 0, 1) := by decide +kernel
theorem dX2_note_34 : decode cX2_note 34 = .ok (.getfield 30, 3) := by decide +kernel
theorem dX2_note_37 : decode cX2_note 37 = .ok (.iload_n 3, 1) := by decide +kernel
theorem dX2_note_38 : decode cX2_note 38 = .ok (.iastore, 1) := by decide +kernel
theorem dX2_tell_0 : decode cX2_tell 0 = .ok (.aload_n 0, 1) := by decide +kernel
theorem dX2_tell_1 : decode cX2_tell 1 = .ok (.iload_n 1, 1) := by decide +kernel
theorem dX2_tell_2 : decode cX2_tell 2 = .ok (.invokevirtual 109, 3) := by decide +kernel
theorem dX2_tell_5 : decode cX2_tell 5 = .ok (.ifCond .ne 5, 3) := by decide +kernel
theorem dX2_tell_10 : decode cX2_tell 10 = .ok (.iload_n 2, 1) := by decide +kernel
theorem dX2_tell_11 : decode cX2_tell 11 = .ok (.tableswitch 46 0 2 #[25, 32, 39], 25) := by decide +kernel
theorem dX2_tell_36 : decode cX2_tell 36 = .ok (.aload_n 0, 1) := by decide +kernel
theorem dX2_tell_37 : decode cX2_tell 37 = .ok (.getfield 9, 3) := by decide +kernel
theorem dX2_tell_40 : decode cX2_tell 40 = .ok (.iload_n 1, 1) := by decide +kernel
theorem dX2_tell_41 : decode cX2_tell 41 = .ok (.iaload, 1) := by decide +kernel
theorem dX2_tell_42 : decode cX2_tell 42 = .ok (.ireturn, 1) := by decide +kernel
theorem dX2_tell_43 : decode cX2_tell 43 = .ok (.aload_n 0, 1) := by decide +kernel
theorem dX2_tell_44 : decode cX2_tell 44 = .ok (.getfield 15, 3) := by decide +kernel
theorem dX2_tell_47 : decode cX2_tell 47 = .ok (.iload_n 1, 1) := by decide +kernel
theorem dX2_tell_48 : decode cX2_tell 48 = .ok (.iaload, 1) := by decide +kernel
theorem dX2_tell_49 : decode cX2_tell 49 = .ok (.ireturn, 1) := by decide +kernel
theorem dX2_tell_50 : decode cX2_tell 50 = .ok (.aload_n 0, 1) := by decide +kernel
theorem dX2_tell_51 : decode cX2_tell 51 = .ok (.getfield 18, 3) := by decide +kernel
theorem dX2_tell_54 : decode cX2_tell 54 = .ok (.iload_n 1, 1) := by decide +kernel
theorem dX2_tell_55 : decode cX2_tell 55 = .ok (.iaload, 1) := by decide +kernel
theorem dX2_tell_56 : decode cX2_tell 56 = .ok (.ireturn, 1) := by decide +kernel
theorem dX2_tell_57 : decode cX2_tell 57 = .ok (.iconst (-1), 1) := by decide +kernel
theorem dX2_tell_58 : decode cX2_tell 58 = .ok (.ireturn, 1) := by decide +kernel
theorem dX2_tell_8 : decode cX2_tell 8 = .ok (.iconst (-1), 1) := by decide +kernel
theorem dX2_tell_9 : decode cX2_tell 9 = .ok (.ireturn, 1) := by decide +kernel
theorem dX2_onRing_0 : decode cX2_onRing 0 = .ok (.aload_n 0, 1) := by decide +kernel
theorem dX2_onRing_1 : decode cX2_onRing 1 = .ok (.iload_n 1, 1) := by decide +kernel
theorem dX2_onRing_2 : decode cX2_onRing 2 = .ok (.invokevirtual 109, 3) := by decide +kernel
theorem dX2_onRing_5 : decode cX2_onRing 5 = .ok (.ifCond .eq 17, 3) := by decide +kernel
theorem dX2_onRing_22 : decode cX2_onRing 22 = .ok (.iconst 0, 1) := by decide +kernel
theorem dX2_onRing_23 : decode cX2_onRing 23 = .ok (.istore_n 3, 1) := by decide +kernel
theorem dX2_onRing_24 : decode cX2_onRing 24 = .ok (.iload_n 3, 1) := by decide +kernel
theorem dX2_onRing_25 : decode cX2_onRing 25 = .ok (.ifCond .eq 31, 3) := by decide +kernel
theorem dX2_onRing_56 : decode cX2_onRing 56 = .ok (.iconst (-1), 1) := by decide +kernel
theorem dX2_onRing_57 : decode cX2_onRing 57 = .ok (.ireturn, 1) := by decide +kernel
theorem dX2_onRing_8 : decode cX2_onRing 8 = .ok (.aload_n 0, 1) := by decide +kernel
theorem dX2_onRing_9 : decode cX2_onRing 9 = .ok (.getfield 9, 3) := by decide +kernel
theorem dX2_onRing_12 : decode cX2_onRing 12 = .ok (.iload_n 1, 1) := by decide +kernel
theorem dX2_onRing_13 : decode cX2_onRing 13 = .ok (.iaload, 1) := by decide +kernel
theorem dX2_onRing_14 : decode cX2_onRing 14 = .ok (.iconst 3, 1) := by decide +kernel
theorem dX2_onRing_15 : decode cX2_onRing 15 = .ok (.if_icmp .ne 7, 3) := by decide +kernel
theorem dX2_onRing_18 : decode cX2_onRing 18 = .ok (.iconst 1, 1) := by decide +kernel
theorem dX2_onRing_19 : decode cX2_onRing 19 = .ok (.goto 4, 3) := by decide +kernel
theorem dX2_onRing_28 : decode cX2_onRing 28 = .ok (.iload_n 2, 1) := by decide +kernel
theorem dX2_onRing_29 : decode cX2_onRing 29 = .ok (.ifCond .lt 27, 3) := by decide +kernel
theorem dX2_onRing_32 : decode cX2_onRing 32 = .ok (.iload_n 2, 1) := by decide +kernel
theorem dX2_onRing_33 : decode cX2_onRing 33 = .ok (.aload_n 0, 1) := by decide +kernel
theorem dX2_onRing_34 : decode cX2_onRing 34 = .ok (.getfield 18, 3) := by decide +kernel
theorem dX2_onRing_37 : decode cX2_onRing 37 = .ok (.iload_n 1, 1) := by decide +kernel
theorem dX2_onRing_38 : decode cX2_onRing 38 = .ok (.iaload, 1) := by decide +kernel
theorem dX2_onRing_39 : decode cX2_onRing 39 = .ok (.if_icmp .ge 17, 3) := by decide +kernel
theorem dX2_onRing_42 : decode cX2_onRing 42 = .ok (.aload_n 0, 1) := by decide +kernel
theorem dX2_onRing_43 : decode cX2_onRing 43 = .ok (.getfield 21, 3) := by decide +kernel
theorem dX2_onRing_46 : decode cX2_onRing 46 = .ok (.iload_n 1, 1) := by decide +kernel
theorem dX2_onRing_47 : decode cX2_onRing 47 = .ok (.bipush 24, 2) := by decide +kernel
theorem dX2_onRing_49 : decode cX2_onRing 49 = .ok (.imul, 1) := by decide +kernel
theorem dX2_onRing_50 : decode cX2_onRing 50 = .ok (.iload_n 2, 1) := by decide +kernel
theorem dX2_onRing_51 : decode cX2_onRing 51 = .ok (.iadd, 1) := by decide +kernel
theorem dX2_onRing_52 : decode cX2_onRing 52 = .ok (.iaload, 1) := by decide +kernel
theorem dX2_onRing_53 : decode cX2_onRing 53 = .ok (.goto 4, 3) := by decide +kernel
theorem dX2_noteRing_0 : decode cX2_noteRing 0 = .ok (.aload_n 0, 1) := by decide +kernel
theorem dX2_noteRing_1 : decode cX2_noteRing 1 = .ok (.getfield 30, 3) := by decide +kernel
theorem dX2_noteRing_4 : decode cX2_noteRing 4 = .ok (.bipush 100, 2) := by decide +kernel
theorem dX2_noteRing_6 : decode cX2_noteRing 6 = .ok (.if_icmp .ge 38, 3) := by decide +kernel
theorem dX2_noteRing_44 : decode cX2_noteRing 44 = .ok (.aload_n 0, 1) := by decide +kernel
theorem dX2_noteRing_45 : decode cX2_noteRing 45 = .ok (.iconst 3, 1) := by decide +kernel
theorem dX2_noteRing_46 : decode cX2_noteRing 46 = .ok (.aload_n 0, 1) := by decide +kernel
theorem dX2_noteRing_47 : decode cX2_noteRing 47 = .ok (.getfield 24, 3) := by decide +kernel
theorem dX2_noteRing_50 : decode cX2_noteRing 50 = .ok (.iload_n 1, 1) := by decide +kernel
theorem dX2_noteRing_51 : decode cX2_noteRing 51 = .ok (.iaload, 1) := by decide +kernel
theorem dX2_noteRing_52 : decode cX2_noteRing 52 = .ok (.iload_n 2, 1) := by decide +kernel
theorem dX2_noteRing_53 : decode cX2_noteRing 53 = .ok (.iload_n 1, 1) := by decide +kernel
theorem dX2_noteRing_54 : decode cX2_noteRing 54 = .ok (.isub, 1) := by decide +kernel
theorem dX2_noteRing_55 : decode cX2_noteRing 55 = .ok (.iconst 1, 1) := by decide +kernel
theorem dX2_noteRing_56 : decode cX2_noteRing 56 = .ok (.iadd, 1) := by decide +kernel
theorem dX2_noteRing_57 : decode cX2_noteRing 57 = .ok (.invokevirtual 80, 3) := by decide +kernel
theorem dX2_noteRing_60 : decode cX2_noteRing 60 = .ok (.return_, 1) := by decide +kernel
theorem dX2_noteRing_9 : decode cX2_noteRing 9 = .ok (.iload_n 1, 1) := by decide +kernel
theorem dX2_noteRing_10 : decode cX2_noteRing 10 = .ok (.istore_n 3, 1) := by decide +kernel
theorem dX2_noteRing_11 : decode cX2_noteRing 11 = .ok (.iload_n 3, 1) := by decide +kernel
theorem dX2_noteRing_12 : decode cX2_noteRing 12 = .ok (.iload_n 2, 1) := by decide +kernel
theorem dX2_noteRing_13 : decode cX2_noteRing 13 = .ok (.if_icmp .gt 31, 3) := by decide +kernel
theorem dX2_noteRing_16 : decode cX2_noteRing 16 = .ok (.aload_n 0, 1) := by decide +kernel
theorem dX2_noteRing_17 : decode cX2_noteRing 17 = .ok (.getfield 21, 3) := by decide +kernel
theorem dX2_noteRing_20 : decode cX2_noteRing 20 = .ok (.aload_n 0, 1) := by decide +kernel
theorem dX2_noteRing_21 : decode cX2_noteRing 21 = .ok (.getfield 30, 3) := by decide +kernel
theorem dX2_noteRing_24 : decode cX2_noteRing 24 = .ok (.bipush 24, 2) := by decide +kernel
theorem dX2_noteRing_26 : decode cX2_noteRing 26 = .ok (.imul, 1) := by decide +kernel
theorem dX2_noteRing_27 : decode cX2_noteRing 27 = .ok (.iload_n 3, 1) := by decide +kernel
theorem dX2_noteRing_28 : decode cX2_noteRing 28 = .ok (.iadd, 1) := by decide +kernel
theorem dX2_noteRing_29 : decode cX2_noteRing 29 = .ok (.iload_n 1, 1) := by decide +kernel
theorem dX2_noteRing_30 : decode cX2_noteRing 30 = .ok (.isub, 1) := by decide +kernel
theorem dX2_noteRing_31 : decode cX2_noteRing 31 = .ok (.aload_n 0, 1) := by decide +kernel
theorem dX2_noteRing_32 : decode cX2_noteRing 32 = .ok (.getfield 24, 3) := by decide +kernel
theorem dX2_noteRing_35 : decode cX2_noteRing 35 = .ok (.iload_n 3, 1) := by decide +kernel
theorem dX2_noteRing_36 : decode cX2_noteRing 36 = .ok (.iaload, 1) := by decide +kernel
theorem dX2_noteRing_37 : decode cX2_noteRing 37 = .ok (.iastore, 1) := by decide +kernel
theorem dX2_noteRing_38 : decode cX2_noteRing 38 = .ok (.iinc 3 1, 3) := by decide +kernel
theorem dX2_noteRing_41 : decode cX2_noteRing 41 = .ok (.goto (-30), 3) := by decide +kernel
theorem dX2_hasShorter_0 : decode cX2_hasShorter 0 = .ok (.iload_n 2, 1) := by decide +kernel
theorem dX2_hasShorter_1 : decode cX2_hasShorter 1 = .ok (.iconst 3, 1) := by decide +kernel
theorem dX2_hasShorter_2 : decode cX2_hasShorter 2 = .ok (.if_icmp .ne 7, 3) := by decide +kernel
theorem dX2_hasShorter_9 : decode cX2_hasShorter 9 = .ok (.iload_n 2, 1) := by decide +kernel
theorem dX2_hasShorter_10 : decode cX2_hasShorter 10 = .ok (.istore_n 3, 1) := by decide +kernel
theorem dX2_hasShorter_11 : decode cX2_hasShorter 11 = .ok (.iconst 0, 1) := by decide +kernel
theorem dX2_hasShorter_12 : decode cX2_hasShorter 12 = .ok (.istore 4, 2) := by decide +kernel
theorem dX2_hasShorter_14 : decode cX2_hasShorter 14 = .ok (.iload 4, 2) := by decide +kernel
theorem dX2_hasShorter_16 : decode cX2_hasShorter 16 = .ok (.aload_n 0, 1) := by decide +kernel
theorem dX2_hasShorter_17 : decode cX2_hasShorter 17 = .ok (.getfield 34, 3) := by decide +kernel
theorem dX2_hasShorter_20 : decode cX2_hasShorter 20 = .ok (.getfield 38, 3) := by decide +kernel
theorem dX2_hasShorter_23 : decode cX2_hasShorter 23 = .ok (.getfield 44, 3) := by decide +kernel
theorem dX2_hasShorter_26 : decode cX2_hasShorter 26 = .ok (.if_icmp .ge 47, 3) := by decide +kernel
theorem dX2_hasShorter_73 : decode cX2_hasShorter 73 = .ok (.iconst 0, 1) := by decide +kernel
theorem dX2_hasShorter_74 : decode cX2_hasShorter 74 = .ok (.ireturn, 1) := by decide +kernel
theorem dX2_hasShorter_29 : decode cX2_hasShorter 29 = .ok (.aload_n 0, 1) := by decide +kernel
theorem dX2_hasShorter_30 : decode cX2_hasShorter 30 = .ok (.getfield 34, 3) := by decide +kernel
theorem dX2_hasShorter_33 : decode cX2_hasShorter 33 = .ok (.getfield 67, 3) := by decide +kernel
theorem dX2_hasShorter_36 : decode cX2_hasShorter 36 = .ok (.iload 4, 2) := by decide +kernel
theorem dX2_hasShorter_38 : decode cX2_hasShorter 38 = .ok (.aaload, 1) := by decide +kernel
theorem dX2_hasShorter_39 : decode cX2_hasShorter 39 = .ok (.getfield 96, 3) := by decide +kernel
theorem dX2_hasShorter_42 : decode cX2_hasShorter 42 = .ok (.istore 5, 2) := by decide +kernel
theorem dX2_hasShorter_44 : decode cX2_hasShorter 44 = .ok (.iload_n 1, 1) := by decide +kernel
theorem dX2_hasShorter_45 : decode cX2_hasShorter 45 = .ok (.iload 4, 2) := by decide +kernel
theorem dX2_hasShorter_47 : decode cX2_hasShorter 47 = .ok (.ishr, 1) := by decide +kernel
theorem dX2_hasShorter_48 : decode cX2_hasShorter 48 = .ok (.iconst 1, 1) := by decide +kernel
theorem dX2_hasShorter_49 : decode cX2_hasShorter 49 = .ok (.iand, 1) := by decide +kernel
theorem dX2_hasShorter_50 : decode cX2_hasShorter 50 = .ok (.ifCond .eq 17, 3) := by decide +kernel
theorem dX2_hasShorter_67 : decode cX2_hasShorter 67 = .ok (.iinc 4 1, 3) := by decide +kernel
theorem dX2_hasShorter_70 : decode cX2_hasShorter 70 = .ok (.goto (-56), 3) := by decide +kernel
theorem dX2_hasShorter_53 : decode cX2_hasShorter 53 = .ok (.iload 5, 2) := by decide +kernel
theorem dX2_hasShorter_55 : decode cX2_hasShorter 55 = .ok (.iconst 3, 1) := by decide +kernel
theorem dX2_hasShorter_56 : decode cX2_hasShorter 56 = .ok (.if_icmp .eq 11, 3) := by decide +kernel
theorem dX2_hasShorter_59 : decode cX2_hasShorter 59 = .ok (.iload 5, 2) := by decide +kernel
theorem dX2_hasShorter_61 : decode cX2_hasShorter 61 = .ok (.iload_n 3, 1) := by decide +kernel
theorem dX2_hasShorter_62 : decode cX2_hasShorter 62 = .ok (.if_icmp .le 5, 3) := by decide +kernel
theorem dX2_hasShorter_65 : decode cX2_hasShorter 65 = .ok (.iconst 1, 1) := by decide +kernel
theorem dX2_hasShorter_66 : decode cX2_hasShorter 66 = .ok (.ireturn, 1) := by decide +kernel
theorem dX2_hasShorter_5 : decode cX2_hasShorter 5 = .ok (.iconst 2, 1) := by decide +kernel
theorem dX2_hasShorter_6 : decode cX2_hasShorter 6 = .ok (.goto 4, 3) := by decide +kernel
theorem dX2_faultOf_0 : decode cX2_faultOf 0 = .ok (.aload_n 0, 1) := by decide +kernel
theorem dX2_faultOf_1 : decode cX2_faultOf 1 = .ok (.getfield 34, 3) := by decide +kernel
theorem dX2_faultOf_4 : decode cX2_faultOf 4 = .ok (.getfield 67, 3) := by decide +kernel
theorem dX2_faultOf_7 : decode cX2_faultOf 7 = .ok (.iload_n 1, 1) := by decide +kernel
theorem dX2_faultOf_8 : decode cX2_faultOf 8 = .ok (.aaload, 1) := by decide +kernel
theorem dX2_faultOf_9 : decode cX2_faultOf 9 = .ok (.astore_n 3, 1) := by decide +kernel
theorem dX2_faultOf_10 : decode cX2_faultOf 10 = .ok (.aload_n 3, 1) := by decide +kernel
theorem dX2_faultOf_11 : decode cX2_faultOf 11 = .ok (.getfield 84, 3) := by decide +kernel
theorem dX2_faultOf_14 : decode cX2_faultOf 14 = .ok (.iload_n 2, 1) := by decide +kernel
theorem dX2_faultOf_15 : decode cX2_faultOf 15 = .ok (.iaload, 1) := by decide +kernel
theorem dX2_faultOf_16 : decode cX2_faultOf 16 = .ok (.istore 4, 2) := by decide +kernel
theorem dX2_faultOf_18 : decode cX2_faultOf 18 = .ok (.aload_n 0, 1) := by decide +kernel
theorem dX2_faultOf_19 : decode cX2_faultOf 19 = .ok (.getfield 34, 3) := by decide +kernel
theorem dX2_faultOf_22 : decode cX2_faultOf 22 = .ok (.iload_n 1, 1) := by decide +kernel
theorem dX2_faultOf_23 : decode cX2_faultOf 23 = .ok (.iload_n 2, 1) := by decide +kernel
theorem dX2_faultOf_24 : decode cX2_faultOf 24 = .ok (.invokevirtual 87, 3) := by decide +kernel
theorem dX2_faultOf_27 : decode cX2_faultOf 27 = .ok (.istore 5, 2) := by decide +kernel
theorem dX2_faultOf_29 : decode cX2_faultOf 29 = .ok (.iload 4, 2) := by decide +kernel
theorem dX2_faultOf_31 : decode cX2_faultOf 31 = .ok (.iconst 2, 1) := by decide +kernel
theorem dX2_faultOf_32 : decode cX2_faultOf 32 = .ok (.if_icmp .eq 10, 3) := by decide +kernel
theorem dX2_faultOf_42 : decode cX2_faultOf 42 = .ok (.iload 4, 2) := by decide +kernel
theorem dX2_faultOf_44 : decode cX2_faultOf 44 = .ok (.iconst 2, 1) := by decide +kernel
theorem dX2_faultOf_45 : decode cX2_faultOf 45 = .ok (.if_icmp .eq 14, 3) := by decide +kernel
theorem dX2_faultOf_59 : decode cX2_faultOf 59 = .ok (.iload 4, 2) := by decide +kernel
theorem dX2_faultOf_61 : decode cX2_faultOf 61 = .ok (.iconst 1, 1) := by decide +kernel
theorem dX2_faultOf_62 : decode cX2_faultOf 62 = .ok (.if_icmp .eq 20, 3) := by decide +kernel
theorem dX2_faultOf_65 : decode cX2_faultOf 65 = .ok (.aload_n 0, 1) := by decide +kernel
theorem dX2_faultOf_66 : decode cX2_faultOf 66 = .ok (.iload 5, 2) := by decide +kernel
theorem dX2_faultOf_68 : decode cX2_faultOf 68 = .ok (.aload_n 3, 1) := by decide +kernel
theorem dX2_faultOf_69 : decode cX2_faultOf 69 = .ok (.getfield 96, 3) := by decide +kernel
theorem dX2_faultOf_72 : decode cX2_faultOf 72 = .ok (.invokevirtual 99, 3) := by decide +kernel
theorem dX2_faultOf_75 : decode cX2_faultOf 75 = .ok (.ifCond .eq 7, 3) := by decide +kernel
theorem dX2_faultOf_82 : decode cX2_faultOf 82 = .ok (.iconst 0, 1) := by decide +kernel
theorem dX2_faultOf_83 : decode cX2_faultOf 83 = .ok (.ireturn, 1) := by decide +kernel
theorem dX2_faultOf_78 : decode cX2_faultOf 78 = .ok (.iconst 4, 1) := by decide +kernel
theorem dX2_faultOf_79 : decode cX2_faultOf 79 = .ok (.goto 4, 3) := by decide +kernel
theorem dX2_faultOf_35 : decode cX2_faultOf 35 = .ok (.iload 5, 2) := by decide +kernel
theorem dX2_faultOf_37 : decode cX2_faultOf 37 = .ok (.ifCond .ne 5, 3) := by decide +kernel
theorem dX2_faultOf_48 : decode cX2_faultOf 48 = .ok (.iload 5, 2) := by decide +kernel
theorem dX2_faultOf_50 : decode cX2_faultOf 50 = .ok (.invokestatic 90, 3) := by decide +kernel
theorem dX2_faultOf_53 : decode cX2_faultOf 53 = .ok (.iconst 1, 1) := by decide +kernel
theorem dX2_faultOf_54 : decode cX2_faultOf 54 = .ok (.if_icmp .le 5, 3) := by decide +kernel
theorem dX2_faultOf_57 : decode cX2_faultOf 57 = .ok (.iconst 2, 1) := by decide +kernel
theorem dX2_faultOf_58 : decode cX2_faultOf 58 = .ok (.ireturn, 1) := by decide +kernel
theorem dX2_faultOf_40 : decode cX2_faultOf 40 = .ok (.iconst 1, 1) := by decide +kernel
theorem dX2_faultOf_41 : decode cX2_faultOf 41 = .ok (.ireturn, 1) := by decide +kernel
theorem dX2_examineNeeds_0 : decode cX2_examineNeeds 0 = .ok (.iconst 0, 1) := by decide +kernel
theorem dX2_examineNeeds_1 : decode cX2_examineNeeds 1 = .ok (.istore_n 2, 1) := by decide +kernel
theorem dX2_examineNeeds_2 : decode cX2_examineNeeds 2 = .ok (.iload_n 2, 1) := by decide +kernel
theorem dX2_examineNeeds_3 : decode cX2_examineNeeds 3 = .ok (.aload_n 0, 1) := by decide +kernel
theorem dX2_examineNeeds_4 : decode cX2_examineNeeds 4 = .ok (.getfield 34, 3) := by decide +kernel
theorem dX2_examineNeeds_7 : decode cX2_examineNeeds 7 = .ok (.getfield 67, 3) := by decide +kernel
theorem dX2_examineNeeds_10 : decode cX2_examineNeeds 10 = .ok (.iload_n 1, 1) := by decide +kernel
theorem dX2_examineNeeds_11 : decode cX2_examineNeeds 11 = .ok (.aaload, 1) := by decide +kernel
theorem dX2_examineNeeds_12 : decode cX2_examineNeeds 12 = .ok (.getfield 71, 3) := by decide +kernel
theorem dX2_examineNeeds_15 : decode cX2_examineNeeds 15 = .ok (.if_icmp .ge 27, 3) := by decide +kernel
theorem dX2_examineNeeds_42 : decode cX2_examineNeeds 42 = .ok (.return_, 1) := by decide +kernel
theorem dX2_examineNeeds_18 : decode cX2_examineNeeds 18 = .ok (.aload_n 0, 1) := by decide +kernel
theorem dX2_examineNeeds_19 : decode cX2_examineNeeds 19 = .ok (.iload_n 1, 1) := by decide +kernel
theorem dX2_examineNeeds_20 : decode cX2_examineNeeds 20 = .ok (.iload_n 2, 1) := by decide +kernel
theorem dX2_examineNeeds_21 : decode cX2_examineNeeds 21 = .ok (.invokevirtual 76, 3) := by decide +kernel
theorem dX2_examineNeeds_24 : decode cX2_examineNeeds 24 = .ok (.istore_n 3, 1) := by decide +kernel
theorem dX2_examineNeeds_25 : decode cX2_examineNeeds 25 = .ok (.iload_n 3, 1) := by decide +kernel
theorem dX2_examineNeeds_26 : decode cX2_examineNeeds 26 = .ok (.ifCond .eq 10, 3) := by decide +kernel
theorem dX2_examineNeeds_36 : decode cX2_examineNeeds 36 = .ok (.iinc 2 1, 3) := by decide +kernel
theorem dX2_examineNeeds_39 : decode cX2_examineNeeds 39 = .ok (.goto (-37), 3) := by decide +kernel
theorem dX2_examineNeeds_29 : decode cX2_examineNeeds 29 = .ok (.aload_n 0, 1) := by decide +kernel
theorem dX2_examineNeeds_30 : decode cX2_examineNeeds 30 = .ok (.iload_n 3, 1) := by decide +kernel
theorem dX2_examineNeeds_31 : decode cX2_examineNeeds 31 = .ok (.iload_n 1, 1) := by decide +kernel
theorem dX2_examineNeeds_32 : decode cX2_examineNeeds 32 = .ok (.iload_n 2, 1) := by decide +kernel
theorem dX2_examineNeeds_33 : decode cX2_examineNeeds 33 = .ok (.invokevirtual 80, 3) := by decide +kernel
theorem dX2_followed_0 : decode cX2_followed 0 = .ok (.aload_n 0, 1) := by decide +kernel
theorem dX2_followed_1 : decode cX2_followed 1 = .ok (.iload_n 1, 1) := by decide +kernel
theorem dX2_followed_2 : decode cX2_followed 2 = .ok (.iload_n 2, 1) := by decide +kernel
theorem dX2_followed_3 : decode cX2_followed 3 = .ok (.invokevirtual 76, 3) := by decide +kernel
theorem dX2_followed_6 : decode cX2_followed 6 = .ok (.istore_n 3, 1) := by decide +kernel
theorem dX2_followed_7 : decode cX2_followed 7 = .ok (.iload_n 3, 1) := by decide +kernel
theorem dX2_followed_8 : decode cX2_followed 8 = .ok (.iconst 1, 1) := by decide +kernel
theorem dX2_followed_9 : decode cX2_followed 9 = .ok (.if_icmp .eq 8, 3) := by decide +kernel
theorem dX2_followed_17 : decode cX2_followed 17 = .ok (.iconst 0, 1) := by decide +kernel
theorem dX2_followed_18 : decode cX2_followed 18 = .ok (.goto 12, 3) := by decide +kernel
theorem dX2_followed_30 : decode cX2_followed 30 = .ok (.ireturn, 1) := by decide +kernel
theorem dX2_followed_12 : decode cX2_followed 12 = .ok (.iload_n 3, 1) := by decide +kernel
theorem dX2_followed_13 : decode cX2_followed 13 = .ok (.iconst 2, 1) := by decide +kernel
theorem dX2_followed_14 : decode cX2_followed 14 = .ok (.if_icmp .ne 7, 3) := by decide +kernel
theorem dX2_followed_21 : decode cX2_followed 21 = .ok (.aload_n 0, 1) := by decide +kernel
theorem dX2_followed_22 : decode cX2_followed 22 = .ok (.getfield 34, 3) := by decide +kernel
theorem dX2_followed_25 : decode cX2_followed 25 = .ok (.iload_n 1, 1) := by decide +kernel
theorem dX2_followed_26 : decode cX2_followed 26 = .ok (.iload_n 2, 1) := by decide +kernel
theorem dX2_followed_27 : decode cX2_followed 27 = .ok (.invokevirtual 87, 3) := by decide +kernel
theorem dX2_follow_0 : decode cX2_follow 0 = .ok (.iload_n 2, 1) := by decide +kernel
theorem dX2_follow_1 : decode cX2_follow 1 = .ok (.bipush 24, 2) := by decide +kernel
theorem dX2_follow_3 : decode cX2_follow 3 = .ok (.if_icmp .lt 4, 3) := by decide +kernel
theorem dX2_follow_7 : decode cX2_follow 7 = .ok (.aload_n 0, 1) := by decide +kernel
theorem dX2_follow_8 : decode cX2_follow 8 = .ok (.getfield 24, 3) := by decide +kernel
theorem dX2_follow_11 : decode cX2_follow 11 = .ok (.iload_n 2, 1) := by decide +kernel
theorem dX2_follow_12 : decode cX2_follow 12 = .ok (.iload_n 1, 1) := by decide +kernel
theorem dX2_follow_13 : decode cX2_follow 13 = .ok (.iastore, 1) := by decide +kernel
theorem dX2_follow_14 : decode cX2_follow 14 = .ok (.aload_n 0, 1) := by decide +kernel
theorem dX2_follow_15 : decode cX2_follow 15 = .ok (.getfield 27, 3) := by decide +kernel
theorem dX2_follow_18 : decode cX2_follow 18 = .ok (.iload_n 1, 1) := by decide +kernel
theorem dX2_follow_19 : decode cX2_follow 19 = .ok (.iload_n 2, 1) := by decide +kernel
theorem dX2_follow_20 : decode cX2_follow 20 = .ok (.iastore, 1) := by decide +kernel
theorem dX2_follow_21 : decode cX2_follow 21 = .ok (.iconst 0, 1) := by decide +kernel
theorem dX2_follow_22 : decode cX2_follow 22 = .ok (.istore_n 3, 1) := by decide +kernel
theorem dX2_follow_23 : decode cX2_follow 23 = .ok (.iload_n 3, 1) := by decide +kernel
theorem dX2_follow_24 : decode cX2_follow 24 = .ok (.aload_n 0, 1) := by decide +kernel
theorem dX2_follow_25 : decode cX2_follow 25 = .ok (.getfield 34, 3) := by decide +kernel
theorem dX2_follow_28 : decode cX2_follow 28 = .ok (.getfield 67, 3) := by decide +kernel
theorem dX2_follow_31 : decode cX2_follow 31 = .ok (.iload_n 1, 1) := by decide +kernel
theorem dX2_follow_32 : decode cX2_follow 32 = .ok (.aaload, 1) := by decide +kernel
theorem dX2_follow_33 : decode cX2_follow 33 = .ok (.getfield 71, 3) := by decide +kernel
theorem dX2_follow_36 : decode cX2_follow 36 = .ok (.if_icmp .ge 123, 3) := by decide +kernel
theorem dX2_follow_159 : decode cX2_follow 159 = .ok (.aload_n 0, 1) := by decide +kernel
theorem dX2_follow_160 : decode cX2_follow 160 = .ok (.getfield 27, 3) := by decide +kernel
theorem dX2_follow_163 : decode cX2_follow 163 = .ok (.iload_n 1, 1) := by decide +kernel
theorem dX2_follow_164 : decode cX2_follow 164 = .ok (.bipush (-2), 2) := by decide +kernel
theorem dX2_follow_166 : decode cX2_follow 166 = .ok (.iastore, 1) := by decide +kernel
theorem dX2_follow_167 : decode cX2_follow 167 = .ok (.return_, 1) := by decide +kernel
theorem dX2_follow_39 : decode cX2_follow 39 = .ok (.aload_n 0, 1) := by decide +kernel
theorem dX2_follow_40 : decode cX2_follow 40 = .ok (.getfield 34, 3) := by decide +kernel
theorem dX2_follow_43 : decode cX2_follow 43 = .ok (.getfield 67, 3) := by decide +kernel
theorem dX2_follow_46 : decode cX2_follow 46 = .ok (.iload_n 1, 1) := by decide +kernel
theorem dX2_follow_47 : decode cX2_follow 47 = .ok (.aaload, 1) := by decide +kernel
theorem dX2_follow_48 : decode cX2_follow 48 = .ok (.getfield 84, 3) := by decide +kernel
theorem dX2_follow_51 : decode cX2_follow 51 = .ok (.iload_n 3, 1) := by decide +kernel
theorem dX2_follow_52 : decode cX2_follow 52 = .ok (.iaload, 1) := by decide +kernel
theorem dX2_follow_53 : decode cX2_follow 53 = .ok (.iconst 1, 1) := by decide +kernel
theorem dX2_follow_54 : decode cX2_follow 54 = .ok (.if_icmp .ne 7, 3) := by decide +kernel
theorem dX2_follow_61 : decode cX2_follow 61 = .ok (.aload_n 0, 1) := by decide +kernel
theorem dX2_follow_62 : decode cX2_follow 62 = .ok (.iload_n 1, 1) := by decide +kernel
theorem dX2_follow_63 : decode cX2_follow 63 = .ok (.iload_n 3, 1) := by decide +kernel
theorem dX2_follow_64 : decode cX2_follow 64 = .ok (.invokevirtual 103, 3) := by decide +kernel
theorem dX2_follow_67 : decode cX2_follow 67 = .ok (.istore 4, 2) := by decide +kernel
theorem dX2_follow_69 : decode cX2_follow 69 = .ok (.iconst 0, 1) := by decide +kernel
theorem dX2_follow_70 : decode cX2_follow 70 = .ok (.istore 5, 2) := by decide +kernel
theorem dX2_follow_72 : decode cX2_follow 72 = .ok (.iload 5, 2) := by decide +kernel
theorem dX2_follow_74 : decode cX2_follow 74 = .ok (.aload_n 0, 1) := by decide +kernel
theorem dX2_follow_75 : decode cX2_follow 75 = .ok (.getfield 34, 3) := by decide +kernel
theorem dX2_follow_78 : decode cX2_follow 78 = .ok (.getfield 38, 3) := by decide +kernel
theorem dX2_follow_81 : decode cX2_follow 81 = .ok (.getfield 44, 3) := by decide +kernel
theorem dX2_follow_84 : decode cX2_follow 84 = .ok (.if_icmp .ge 69, 3) := by decide +kernel
theorem dX2_follow_153 : decode cX2_follow 153 = .ok (.iinc 3 1, 3) := by decide +kernel
theorem dX2_follow_156 : decode cX2_follow 156 = .ok (.goto (-133), 3) := by decide +kernel
theorem dX2_follow_87 : decode cX2_follow 87 = .ok (.iload 4, 2) := by decide +kernel
theorem dX2_follow_89 : decode cX2_follow 89 = .ok (.iload 5, 2) := by decide +kernel
theorem dX2_follow_91 : decode cX2_follow 91 = .ok (.ishr, 1) := by decide +kernel
theorem dX2_follow_92 : decode cX2_follow 92 = .ok (.iconst 1, 1) := by decide +kernel
theorem dX2_follow_93 : decode cX2_follow 93 = .ok (.iand, 1) := by decide +kernel
theorem dX2_follow_94 : decode cX2_follow 94 = .ok (.ifCond .ne 6, 3) := by decide +kernel
theorem dX2_follow_100 : decode cX2_follow 100 = .ok (.aload_n 0, 1) := by decide +kernel
theorem dX2_follow_101 : decode cX2_follow 101 = .ok (.getfield 27, 3) := by decide +kernel
theorem dX2_follow_104 : decode cX2_follow 104 = .ok (.iload 5, 2) := by decide +kernel
theorem dX2_follow_106 : decode cX2_follow 106 = .ok (.iaload, 1) := by decide +kernel
theorem dX2_follow_107 : decode cX2_follow 107 = .ok (.iconst (-1), 1) := by decide +kernel
theorem dX2_follow_108 : decode cX2_follow 108 = .ok (.if_icmp .ne 15, 3) := by decide +kernel
theorem dX2_follow_123 : decode cX2_follow 123 = .ok (.aload_n 0, 1) := by decide +kernel
theorem dX2_follow_124 : decode cX2_follow 124 = .ok (.getfield 27, 3) := by decide +kernel
theorem dX2_follow_127 : decode cX2_follow 127 = .ok (.iload 5, 2) := by decide +kernel
theorem dX2_follow_129 : decode cX2_follow 129 = .ok (.iaload, 1) := by decide +kernel
theorem dX2_follow_130 : decode cX2_follow 130 = .ok (.bipush (-2), 2) := by decide +kernel
theorem dX2_follow_132 : decode cX2_follow 132 = .ok (.if_icmp .eq 15, 3) := by decide +kernel
theorem dX2_follow_147 : decode cX2_follow 147 = .ok (.iinc 5 1, 3) := by decide +kernel
theorem dX2_follow_150 : decode cX2_follow 150 = .ok (.goto (-78), 3) := by decide +kernel
theorem dX2_follow_135 : decode cX2_follow 135 = .ok (.aload_n 0, 1) := by decide +kernel
theorem dX2_follow_136 : decode cX2_follow 136 = .ok (.aload_n 0, 1) := by decide +kernel
theorem dX2_follow_137 : decode cX2_follow 137 = .ok (.getfield 27, 3) := by decide +kernel
theorem dX2_follow_140 : decode cX2_follow 140 = .ok (.iload 5, 2) := by decide +kernel
theorem dX2_follow_142 : decode cX2_follow 142 = .ok (.iaload, 1) := by decide +kernel
theorem dX2_follow_143 : decode cX2_follow 143 = .ok (.iload_n 2, 1) := by decide +kernel
theorem dX2_follow_144 : decode cX2_follow 144 = .ok (.invokevirtual 106, 3) := by decide +kernel
theorem dX2_follow_111 : decode cX2_follow 111 = .ok (.aload_n 0, 1) := by decide +kernel
theorem dX2_follow_112 : decode cX2_follow 112 = .ok (.iload 5, 2) := by decide +kernel
theorem dX2_follow_114 : decode cX2_follow 114 = .ok (.iload_n 2, 1) := by decide +kernel
theorem dX2_follow_115 : decode cX2_follow 115 = .ok (.iconst 1, 1) := by decide +kernel
theorem dX2_follow_116 : decode cX2_follow 116 = .ok (.iadd, 1) := by decide +kernel
theorem dX2_follow_117 : decode cX2_follow 117 = .ok (.invokevirtual 63, 3) := by decide +kernel
theorem dX2_follow_120 : decode cX2_follow 120 = .ok (.goto 27, 3) := by decide +kernel
theorem dX2_follow_97 : decode cX2_follow 97 = .ok (.goto 50, 3) := by decide +kernel
theorem dX2_follow_57 : decode cX2_follow 57 = .ok (.iconst 0, 1) := by decide +kernel
theorem dX2_follow_58 : decode cX2_follow 58 = .ok (.goto 9, 3) := by decide +kernel
theorem dX2_follow_6 : decode cX2_follow 6 = .ok (.return_, 1) := by decide +kernel
abbrev r_x_sclear : Room := { frames := 1, cells := 0, slots := 0, locals := 23 }
abbrev q_x_sclear (D : va_G) (ks : KS) (ad : Nat → Nat) (kk : Nat → ClassId) (V : Vf) (L : Lf) (Z : XZ) (A : Nat → Prop) : Array Value → State → Outcome → State → Prop := va_Qv (fun (u : Vf × Lf) => rgd bX u.1 ∧ agr [(3, 12), (3, 13), (3, 14), (3, 15)] [23, 24, 25] V u.1 ∧ u.2 = L ∧ ((u.1 3 13).toInt = 0) ∧ ((u.1 3 15).toInt = 0)) (fun u t => gq D A (xw ad kk u.1 u.2 Z) (xty kk Z) t) A
set_option maxHeartbeats 4000000 in
set_option maxRecDepth 100000 in
theorem x_sclear (l : Launch) (D : va_G) (ks : KS) (sz : Nat) (ad : Nat → Nat) (kk : Nat → ClassId) (V : Vf) (L : Lf) (Z : XZ)  (hMV : rgd bX V)  : Met l yX8_clear (Cond.code yX8_clear cX8_clear 2 none :: GW) r_x_sclear (va_Pc [.ref (ad 3)] (gp D ks (xw ad kk V L Z) (xty kk Z) sz)) (q_x_sclear D ks ad kk V L Z  (va_A (xw ad kk V L Z) sz)) 0 0 (va_A (xw ad kk V L Z) sz) := by
  refine g_met (q_x_sclear D ks ad kk V L Z) (by decide) (Nat.le_of_ble_eq_true rfl) ?_
  intro p e s m below meth c A ls H locs hx hb hr hml hown hg hlocks hin hnw hgk hP hK hD hS hA hl
  have hown : s.vm.findClass RX8 = some m.cls := hown
  have hl : lv_has ls 2 [(0, .ref (ad 3))] := hl
  have hP : va_P D vwCl (xw ad kk V L Z) H := hP
  have hD : va_D A (xw ad kk V L Z) := hD
  have hK : va_K D vwCl (xty kk Z) s := hK
  have agV : agr [(3, 12), (3, 13), (3, 14), (3, 15)] [23, 24, 25] V V := agr.rf
  refine lv_aload_n hx hb dX8_clear_0 rfl (lv_at hl 0 rfl) ?_
  refine va_get (D := D) (ci := 8) (v := .ref (ad 22)) (fs := (xfStock ad V L Z)) (C := RX8) (T := TX8) (N := 16) hx hb hg inX8 hown hK hP 3 xgStock rfl 4 (by decide) (hg _ w378) (fun _ h9 => h9) rfl dX8_clear_1 ?_
  refine lv_iconst (v := (-1)) hx hb dX8_clear_4 (by decide) ?_
  have r1 : Int32.toInt (-1) = (-1) := by decide
  refine gA_void (gA_runS (As := [.ref (ad 22), .int (-1)]) (rest := []) hx hb hml hown hg hP hD hK hS hA hnw hgk (x_fillPresent l D ks H.size ad kk V L Z (-1) hMV (by decide)) w370 w371 w165 w372 hdS_yJ7_fill_53178 ⟨Nat.le_of_ble_eq_true rfl, Nat.le_of_ble_eq_true rfl⟩ rfl hl.1 rfl (Nat.le_of_ble_eq_true rfl) dX8_clear_5 ⟨Nat.le_of_ble_eq_true rfl, Nat.le_of_ble_eq_true rfl⟩) hP hD hK hS hA (fun u3 H locs w4 hP hD hK hS => ?_)
  obtain ⟨V7, L8⟩ := u3
  obtain ⟨hMV7, ajV7, axL8, t5, t6⟩ := w4
  have axL8 : L = L8 := Eq.symm axL8
  subst axL8
  have hP : va_P D vwCl (xw ad kk V7 L Z) H := hP
  have hD : va_D A (xw ad kk V7 L Z) := hD
  have hMV7 : rgd bX V7 := hMV7
  have ajV7 : agr [] [25] V V7 := ajV7
  have agV7 : agr [(3, 12), (3, 13), (3, 14), (3, 15)] [23, 24, 25] V V7 := agV.tr ajV7 (by decide) (by decide)
  have t5 : (∀ q : Nat, (q : Int) < 960 → V7 25 (q) = (-1)) := t5
  have t6 : (∀ q : Nat, ¬ (0 ≤ q ∧ q < 960) → V7 25 q = V 25 q) := t6
  refine lv_iconst (v := 0) hx hb dX8_clear_8 (by decide) ?_
  refine lv_istore_n (lv' := [(1, .int 0), (0, .ref (ad 3))]) hx hb dX8_clear_9 rfl hl (by decide) rfl (fun ls hl => ?_)
  have lp11 : ∀ (fulp11 : Nat) (y9 : Int32) (V10 : Vf) (H : Heap) (locs : List Loc) (ls : Array Slot), 0 ≤ y9.toInt ∧ y9.toInt ≤ 40 → 40 - y9.toInt < (fulp11 : Int) → agr [] [23, 24] V7 V10 → rgd bX V10 → va_P D vwCl (xw ad kk V10 L Z) H → va_D A (xw ad kk V10 L Z) → va_S A s.heap H locs → lv_has ls 2 [(1, .int y9), (0, .ref (ad 3))] → W p l e r_x_sclear s m ([.ref (ad 3)] : List Value).toArray below meth c H locs 0 0 (MQ below (q_x_sclear D ks ad kk V L Z  A) ([.ref (ad 3)] : List Value).toArray s 0 0 A) (F0 m 10 ls []) := by
    intro fulp11
    induction fulp11 with
    | zero =>
      intro y9 V10 H locs ls klp11_0 hn ajV10 hMV10 hP hD hS hl
      exfalso; omega
    | succ fulp11 ihlp11 =>
      intro y9 V10 H locs ls klp11_0 hn ajV10 hMV10 hP hD hS hl
      have agV10 : agr [(3, 12), (3, 13), (3, 14), (3, 15)] [23, 24, 25] V V10 := agV7.tr ajV10 (by decide) (by decide)
      refine lv_iload_n hx hb dX8_clear_10 rfl (lv_at hl 0 rfl) ?_
      refine lv_bipush (v := 40) hx hb dX8_clear_11 (by decide) ?_
      refine lv_icmp_ge (tgt := 27) hx hb dX8_clear_13 (by decide) (fun c12 => ?_) (fun c12 => ?_)
      · skip
        have f13 : 40 ≤ y9.toInt := b_le (by decide) rfl c12
        refine lv_aload_n hx hb dX8_clear_27 rfl (lv_at hl 1 rfl) ?_
        refine va_get (D := D) (ci := 8) (v := .ref (ad 20)) (fs := (xfStock ad V10 L Z)) (C := RX8) (T := TX8) (N := 16) hx hb hg inX8 hown hK hP 3 xgStock rfl 2 (by decide) (hg _ w376) (fun _ h9 => h9) rfl dX8_clear_28 ?_
        refine lv_iconst (v := 0) hx hb dX8_clear_31 (by decide) ?_
        refine lv_iconst (v := 1) hx hb dX8_clear_32 (by decide) ?_
        refine va_zast (D := D) (i := 0) (x := 1) hx hb hK hP hD hS 20 13 rfl rfl (i_in (a := 0) (by decide) (by decide)) dX8_clear_33 (fun H locs hP hD hS => ?_)
        obtain ⟨V14, hV14⟩ : ∃ z, z = up2 V10 23 (Int32.toNatClampNeg 0) (vp_nar .boolean 1) := ⟨_, rfl⟩
        have ew15 : (xw ad kk V10 L Z).set 20 ((ad 20), .inl ((kk 20), 40, .inl (upd (V10 23) (Int32.toNatClampNeg 0) (vp_nar .boolean 1)))) = xw ad kk V14 L Z := by rw [hV14]; exact xw_ss (by decide) rfl (xb_si (by decide))
        have hP : va_P D vwCl (xw ad kk V14 L Z) H := by rw [← ew15]; exact hP
        have hD : va_D A (xw ad kk V14 L Z) := by rw [← ew15]; exact hD
        have hMV14 : rgd bX V14 := hMV10.put hV14 (nar_b _)
        have agV14 : agr [(3, 12), (3, 13), (3, 14), (3, 15)] [23, 24, 25] V V14 := agV10.up hV14 rfl
        refine lv_aload_n hx hb dX8_clear_34 rfl (lv_at hl 1 rfl) ?_
        refine lv_iconst (v := 1) hx hb dX8_clear_35 (by decide) ?_
        refine va_put (D := D) (ci := 8) (v := .int 1) (ty := tyX8 12) (fs := (xfStock ad V14 L Z)) (C := RX8) (T := TX8) (N := 16) hx hb hg inX8 tyX8 tyX8_ok nmX8 hown hK hP hD hS 3 xgStock rfl 12 (by decide) (hg _ w390) (fun _ h9 => h9) rfl (tyX8_ok 12 (by decide)) rfl rfl (Nat.le_of_ble_eq_true rfl) dX8_clear_36 (fun H locs hP hD hS => ?_)
        obtain ⟨V16, hV16⟩ : ∃ z, z = up2 V14 3 12 1 := ⟨_, rfl⟩
        have ew17 : (xw ad kk V14 L Z).set 3 ((ad 3), .inr (8, (xfStock ad V14 L Z).set 12 (.int 1))) = xw ad kk V16 L Z := by rw [hV16]; exact xw_ss (by decide) rfl (xb_si (by decide))
        have hP : va_P D vwCl (xw ad kk V16 L Z) H := by rw [← ew17]; exact hP
        have hD : va_D A (xw ad kk V16 L Z) := by rw [← ew17]; exact hD
        have hMV16 : rgd bX V16 := hMV14.put hV16 (by decide)
        have agV16 : agr [(3, 12), (3, 13), (3, 14), (3, 15)] [23, 24, 25] V V16 := agV14.up hV16 rfl
        refine lv_aload_n hx hb dX8_clear_39 rfl (lv_at hl 1 rfl) ?_
        refine lv_iconst (v := 0) hx hb dX8_clear_40 (by decide) ?_
        refine va_put (D := D) (ci := 8) (v := .int 0) (ty := tyX8 13) (fs := (xfStock ad V16 L Z)) (C := RX8) (T := TX8) (N := 16) hx hb hg inX8 tyX8 tyX8_ok nmX8 hown hK hP hD hS 3 xgStock rfl 13 (by decide) (hg _ w391) (fun _ h9 => h9) rfl (tyX8_ok 13 (by decide)) rfl rfl (Nat.le_of_ble_eq_true rfl) dX8_clear_41 (fun H locs hP hD hS => ?_)
        obtain ⟨V18, hV18⟩ : ∃ z, z = up2 V16 3 13 0 := ⟨_, rfl⟩
        have ew19 : (xw ad kk V16 L Z).set 3 ((ad 3), .inr (8, (xfStock ad V16 L Z).set 13 (.int 0))) = xw ad kk V18 L Z := by rw [hV18]; exact xw_ss (by decide) rfl (xb_si (by decide))
        have hP : va_P D vwCl (xw ad kk V18 L Z) H := by rw [← ew19]; exact hP
        have hD : va_D A (xw ad kk V18 L Z) := by rw [← ew19]; exact hD
        have hMV18 : rgd bX V18 := hMV16.put hV18 (by decide)
        have agV18 : agr [(3, 12), (3, 13), (3, 14), (3, 15)] [23, 24, 25] V V18 := agV16.up hV18 rfl
        refine lv_aload_n hx hb dX8_clear_44 rfl (lv_at hl 1 rfl) ?_
        refine lv_iconst (v := 0) hx hb dX8_clear_45 (by decide) ?_
        refine va_put (D := D) (ci := 8) (v := .int 0) (ty := tyX8 14) (fs := (xfStock ad V18 L Z)) (C := RX8) (T := TX8) (N := 16) hx hb hg inX8 tyX8 tyX8_ok nmX8 hown hK hP hD hS 3 xgStock rfl 14 (by decide) (hg _ w393) (fun _ h9 => h9) rfl (tyX8_ok 14 (by decide)) rfl rfl (Nat.le_of_ble_eq_true rfl) dX8_clear_46 (fun H locs hP hD hS => ?_)
        obtain ⟨V20, hV20⟩ : ∃ z, z = up2 V18 3 14 0 := ⟨_, rfl⟩
        have ew21 : (xw ad kk V18 L Z).set 3 ((ad 3), .inr (8, (xfStock ad V18 L Z).set 14 (.int 0))) = xw ad kk V20 L Z := by rw [hV20]; exact xw_ss (by decide) rfl (xb_si (by decide))
        have hP : va_P D vwCl (xw ad kk V20 L Z) H := by rw [← ew21]; exact hP
        have hD : va_D A (xw ad kk V20 L Z) := by rw [← ew21]; exact hD
        have hMV20 : rgd bX V20 := hMV18.put hV20 (i_full _)
        have agV20 : agr [(3, 12), (3, 13), (3, 14), (3, 15)] [23, 24, 25] V V20 := agV18.up hV20 rfl
        refine lv_aload_n hx hb dX8_clear_49 rfl (lv_at hl 1 rfl) ?_
        refine lv_iconst (v := 0) hx hb dX8_clear_50 (by decide) ?_
        refine va_put (D := D) (ci := 8) (v := .int 0) (ty := tyX8 15) (fs := (xfStock ad V20 L Z)) (C := RX8) (T := TX8) (N := 16) hx hb hg inX8 tyX8 tyX8_ok nmX8 hown hK hP hD hS 3 xgStock rfl 15 (by decide) (hg _ w394) (fun _ h9 => h9) rfl (tyX8_ok 15 (by decide)) rfl rfl (Nat.le_of_ble_eq_true rfl) dX8_clear_51 (fun H locs hP hD hS => ?_)
        obtain ⟨V22, hV22⟩ : ∃ z, z = up2 V20 3 15 0 := ⟨_, rfl⟩
        have ew23 : (xw ad kk V20 L Z).set 3 ((ad 3), .inr (8, (xfStock ad V20 L Z).set 15 (.int 0))) = xw ad kk V22 L Z := by rw [hV22]; exact xw_ss (by decide) rfl (xb_si (by decide))
        have hP : va_P D vwCl (xw ad kk V22 L Z) H := by rw [← ew23]; exact hP
        have hD : va_D A (xw ad kk V22 L Z) := by rw [← ew23]; exact hD
        have hMV22 : rgd bX V22 := hMV20.put hV22 (by decide)
        have agV22 : agr [(3, 12), (3, 13), (3, 14), (3, 15)] [23, 24, 25] V V22 := agV20.up hV22 rfl
        have pq24 : (V22 3 13).toInt = 0 := (congrArg Int32.toInt ((up2_k hV22 (by decide)).trans ((up2_k hV20 (by decide)).trans (up2_s hV18)))).trans (by decide)
        have pq25 : (V22 3 15).toInt = 0 := (congrArg Int32.toInt (up2_s hV22)).trans (by decide)
        exact W.vret hx hb hr (fun t ht hW => ⟨⟨(V22, L), rfl, ⟨hMV22, agV22, rfl, (show (V22 3 13).toInt = 0 from by omega), (show (V22 3 15).toInt = 0 from by omega)⟩, by rw [ht]; exact hP, va_K.moved hW.alike hK, hD⟩, hS.F ht⟩) hS.2.2 dX8_clear_54
      · skip
        have f26 : y9.toInt < 40 := b_nle (by decide) rfl c12
        refine lv_aload_n hx hb dX8_clear_16 rfl (lv_at hl 1 rfl) ?_
        refine lv_iload_n hx hb dX8_clear_17 rfl (lv_at hl 0 rfl) ?_
        refine gA_void (gA_runV (As := [.int y9]) (rest := []) (ci := 8) (q0 := 3) hx hb hml hown hg hP hD hK hS hA hnw hgk (x_shut l D ks H.size ad kk V10 L Z y9 hMV10 (by omega)) w1027 w1028 w1029 w164 w1030 rfl xgStock hdV_yX8_shut ⟨Nat.le_of_ble_eq_true rfl, Nat.le_of_ble_eq_true rfl⟩ rfl hl.1 rfl (Nat.le_of_ble_eq_true rfl) dX8_clear_18 ⟨Nat.le_of_ble_eq_true rfl, Nat.le_of_ble_eq_true rfl⟩) hP hD hK hS hA (fun u28 H locs w29 hP hD hK hS => ?_)
        obtain ⟨V30, L31⟩ := u28
        obtain ⟨hMV30, ajV30, axL31⟩ := w29
        have axL31 : L = L31 := Eq.symm axL31
        subst axL31
        have hP : va_P D vwCl (xw ad kk V30 L Z) H := hP
        have hD : va_D A (xw ad kk V30 L Z) := hD
        have hMV30 : rgd bX V30 := hMV30
        have ajV30 : agr [] [23, 24] V10 V30 := ajV30
        have agV30 : agr [(3, 12), (3, 13), (3, 14), (3, 15)] [23, 24, 25] V V30 := agV10.tr ajV30 (by decide) (by decide)
        obtain ⟨z32, ez32⟩ : ∃ y : Int32, y = y9 + 1 := ⟨_, rfl⟩
        have hz32 : z32.toInt = y9.toInt + 1 := i_add ez32 rfl (by decide) (by omega)
        refine lv_iinc (v := z32) (lv' := [(1, .int z32), (0, .ref (ad 3))]) hx hb dX8_clear_21 hl (k := 0) rfl (by rw [ez32]; rfl) (by decide) rfl (fun ls hl => ?_)
        refine lv_goto (tgt := 10) hx hb dX8_clear_24 (by decide) ?_
        exact ihlp11 z32 V30 H locs ls (by omega) (by omega) (agr.tr (agr.tr agr.rf ajV10 (by decide) (by decide)) ajV30 (by decide) (by decide)) hMV30 hP hD hS (lv_sub hl [0, 1] rfl)
  have r33 : Int32.toInt 0 = 0 := by decide
  exact lp11 ((40 - (Int32.toInt 0) + 1 : Int).toNat) 0 V7 H locs ls (by decide) (by omega) agr.rf hMV7 hP hD hS (lv_sub hl [0, 1] rfl)
abbrev r_x_cclear : Room := { frames := 1, cells := 0, slots := 0, locals := 23 }
abbrev q_x_cclear (D : va_G) (ks : KS) (ad : Nat → Nat) (kk : Nat → ClassId) (V : Vf) (L : Lf) (Z : XZ) (gi : Nat) (A : Nat → Prop) : Array Value → State → Outcome → State → Prop := va_Qv (fun (u : Vf × Lf) => rgd bX u.1 ∧ agr [] [49, 50, 51, 52, 53, 54, 55, 56, 57, 61] V u.1 ∧ u.2 = L ∧ frX (xI gi) V u.1 ∧ ((u.1 56 gi).toInt = -1) ∧ ((u.1 57 gi).toInt = -1) ∧ ((u.1 49 gi).toInt = 0) ∧ ((∀ q : Nat, (q : Int) < 20 → (u.1 61 (20 * gi + q)).toInt = -1)) ∧ ((∀ q : Nat, ¬ (20 * gi ≤ q ∧ q < 20 * gi + 20) → u.1 61 q = V 61 q)) ∧ ((∀ q : Nat, ¬ q = gi → u.1 56 q = V 56 q)) ∧ ((∀ q : Nat, ¬ q = gi → u.1 57 q = V 57 q)) ∧ ((∀ q : Nat, ¬ q = gi → u.1 49 q = V 49 q))) (fun u t => gq D A (xw ad kk u.1 u.2 Z) (xty kk Z) t) A
set_option maxHeartbeats 4000000 in
set_option maxRecDepth 100000 in
theorem x_cclear (l : Launch) (D : va_G) (ks : KS) (sz : Nat) (ad : Nat → Nat) (kk : Nat → ClassId) (V : Vf) (L : Lf) (Z : XZ) (gi : Nat) (hMV : rgd bX V) (hgi : gi < 48)  : Met l yX3_clear (Cond.code yX3_clear cX3_clear 1 none :: GW) r_x_cclear (va_Pc [.ref (ad (72 + gi))] (gp D ks (xw ad kk V L Z) (xty kk Z) sz)) (q_x_cclear D ks ad kk V L Z  gi (va_A (xw ad kk V L Z) sz)) 0 0 (va_A (xw ad kk V L Z) sz) := by
  refine g_met (q_x_cclear D ks ad kk V L Z  gi) (by decide) (Nat.le_of_ble_eq_true rfl) ?_
  intro p e s m below meth c A ls H locs hx hb hr hml hown hg hlocks hin hnw hgk hP hK hD hS hA hl
  have hown : s.vm.findClass RX3 = some m.cls := hown
  have hl : lv_has ls 1 [(0, .ref (ad (72 + gi)))] := hl
  have hP : va_P D vwCl (xw ad kk V L Z) H := hP
  have hD : va_D A (xw ad kk V L Z) := hD
  have hK : va_K D vwCl (xty kk Z) s := hK
  have agV : agr [] [49, 50, 51, 52, 53, 54, 55, 56, 57, 61] V V := agr.rf
  have fwV : frX (xI gi) V V := frX.rf
  refine lv_aload_n hx hb dX3_clear_0 rfl (lv_at hl 0 rfl) ?_
  refine va_get (D := D) (ci := 3) (v := .ref (ad (264 + gi))) (fs := (xfComp ad V gi)) (C := RX3) (T := TX3) (N := 13) hx hb hg inX3 hown hK hP (72 + gi) (xgComp hgi) rfl 3 (by decide) (hg _ w507) (fun _ h9 => h9) rfl dX3_clear_1 ?_
  refine lv_iconst (v := (-1)) hx hb dX3_clear_4 (by decide) ?_
  have r1 : Int32.toInt (-1) = (-1) := by decide
  refine gA_void (gA_runS (As := [.ref (ad (264 + gi)), .int (-1)]) (rest := []) hx hb hml hown hg hP hD hK hS hA hnw hgk (x_fillStarts l D ks H.size ad kk V L Z (-1) (gi) hMV (by decide) (show gi < 48 from by omega)) w918 w371 w165 w372 hdS_yJ7_fill_53178 ⟨Nat.le_of_ble_eq_true rfl, Nat.le_of_ble_eq_true rfl⟩ rfl hl.1 rfl (Nat.le_of_ble_eq_true rfl) dX3_clear_5 ⟨Nat.le_of_ble_eq_true rfl, Nat.le_of_ble_eq_true rfl⟩) hP hD hK hS hA (fun u3 H locs w4 hP hD hK hS => ?_)
  obtain ⟨V7, L8⟩ := u3
  obtain ⟨hMV7, ajV7, axL8, fyV7, t5, t6⟩ := w4
  have axL8 : L = L8 := Eq.symm axL8
  subst axL8
  have hP : va_P D vwCl (xw ad kk V7 L Z) H := hP
  have hD : va_D A (xw ad kk V7 L Z) := hD
  have hMV7 : rgd bX V7 := hMV7
  have ajV7 : agr [] [61] V V7 := ajV7
  have agV7 : agr [] [49, 50, 51, 52, 53, 54, 55, 56, 57, 61] V V7 := agV.tr ajV7 (by decide) (by decide)
  have fwV7 : frX (xI gi) V V7 := frX.tr fwV (fyV7)
  have t5 : (∀ q : Nat, (q : Int) < 20 → V7 61 (20 * gi + q) = (-1)) := t5
  have t6 : (∀ q : Nat, ¬ (20 * gi ≤ q ∧ q < 20 * gi + 20) → V7 61 q = V 61 q) := t6
  refine lv_aload_n hx hb dX3_clear_8 rfl (lv_at hl 0 rfl) ?_
  refine lv_iconst (v := 0) hx hb dX3_clear_9 (by decide) ?_
  refine va_put (D := D) (ci := 3) (v := .int 0) (ty := tyX3 4) (fs := (xfComp ad V7 gi)) (C := RX3) (T := TX3) (N := 13) hx hb hg inX3 tyX3 tyX3_ok nmX3 hown hK hP hD hS (72 + gi) (xgComp hgi) rfl 4 (by decide) (hg _ w510) (fun _ h9 => h9) rfl (tyX3_ok 4 (by decide)) rfl rfl (Nat.le_of_ble_eq_true rfl) dX3_clear_10 (fun H locs hP hD hS => ?_)
  obtain ⟨V9, hV9⟩ : ∃ z, z = up2 V7 49 gi 0 := ⟨_, rfl⟩
  have ew10 : (xw ad kk V7 L Z).set (72 + gi) ((ad (72 + gi)), .inr (3, (xfComp ad V7 gi).set 4 (.int 0))) = xw ad kk V9 L Z := by rw [hV9]; exact xpComp_needs hgi
  have hP : va_P D vwCl (xw ad kk V9 L Z) H := by rw [← ew10]; exact hP
  have hD : va_D A (xw ad kk V9 L Z) := by rw [← ew10]; exact hD
  have hMV9 : rgd bX V9 := hMV7.put hV9 (show 0 ≤ Int32.toInt 0 ∧ Int32.toInt 0 ≤ 8 from by decide)
  have agV9 : agr [] [49, 50, 51, 52, 53, 54, 55, 56, 57, 61] V V9 := agV7.up hV9 rfl
  have fwV9 : frX (xI gi) V V9 := frX.up fwV7 hV9 (Or.inr ⟨(by show gi ≤ gi; omega), (by show gi < gi + 1; omega)⟩)
  refine lv_aload_n hx hb dX3_clear_13 rfl (lv_at hl 0 rfl) ?_
  refine lv_iconst (v := 0) hx hb dX3_clear_14 (by decide) ?_
  refine va_put (D := D) (ci := 3) (v := .int 0) (ty := tyX3 5) (fs := (xfComp ad V9 gi)) (C := RX3) (T := TX3) (N := 13) hx hb hg inX3 tyX3 tyX3_ok nmX3 hown hK hP hD hS (72 + gi) (xgComp hgi) rfl 5 (by decide) (hg _ w515) (fun _ h9 => h9) rfl (tyX3_ok 5 (by decide)) rfl rfl (Nat.le_of_ble_eq_true rfl) dX3_clear_15 (fun H locs hP hD hS => ?_)
  obtain ⟨V11, hV11⟩ : ∃ z, z = up2 V9 50 gi 0 := ⟨_, rfl⟩
  have ew12 : (xw ad kk V9 L Z).set (72 + gi) ((ad (72 + gi)), .inr (3, (xfComp ad V9 gi).set 5 (.int 0))) = xw ad kk V11 L Z := by rw [hV11]; exact xpComp_under hgi
  have hP : va_P D vwCl (xw ad kk V11 L Z) H := by rw [← ew12]; exact hP
  have hD : va_D A (xw ad kk V11 L Z) := by rw [← ew12]; exact hD
  have hMV11 : rgd bX V11 := hMV9.put hV11 (i_full _)
  have agV11 : agr [] [49, 50, 51, 52, 53, 54, 55, 56, 57, 61] V V11 := agV9.up hV11 rfl
  have fwV11 : frX (xI gi) V V11 := frX.up fwV9 hV11 (Or.inr ⟨(by show gi ≤ gi; omega), (by show gi < gi + 1; omega)⟩)
  refine lv_aload_n hx hb dX3_clear_18 rfl (lv_at hl 0 rfl) ?_
  refine lv_iconst (v := 0) hx hb dX3_clear_19 (by decide) ?_
  refine va_put (D := D) (ci := 3) (v := .int 0) (ty := tyX3 6) (fs := (xfComp ad V11 gi)) (C := RX3) (T := TX3) (N := 13) hx hb hg inX3 tyX3 tyX3_ok nmX3 hown hK hP hD hS (72 + gi) (xgComp hgi) rfl 6 (by decide) (hg _ w518) (fun _ h9 => h9) rfl (tyX3_ok 6 (by decide)) rfl rfl (Nat.le_of_ble_eq_true rfl) dX3_clear_20 (fun H locs hP hD hS => ?_)
  obtain ⟨V13, hV13⟩ : ∃ z, z = up2 V11 51 gi 0 := ⟨_, rfl⟩
  have ew14 : (xw ad kk V11 L Z).set (72 + gi) ((ad (72 + gi)), .inr (3, (xfComp ad V11 gi).set 6 (.int 0))) = xw ad kk V13 L Z := by rw [hV13]; exact xpComp_scope hgi
  have hP : va_P D vwCl (xw ad kk V13 L Z) H := by rw [← ew14]; exact hP
  have hD : va_D A (xw ad kk V13 L Z) := by rw [← ew14]; exact hD
  have hMV13 : rgd bX V13 := hMV11.put hV13 (show 0 ≤ Int32.toInt 0 ∧ Int32.toInt 0 ≤ 3 from by decide)
  have agV13 : agr [] [49, 50, 51, 52, 53, 54, 55, 56, 57, 61] V V13 := agV11.up hV13 rfl
  have fwV13 : frX (xI gi) V V13 := frX.up fwV11 hV13 (Or.inr ⟨(by show gi ≤ gi; omega), (by show gi < gi + 1; omega)⟩)
  refine lv_aload_n hx hb dX3_clear_23 rfl (lv_at hl 0 rfl) ?_
  refine lv_iconst (v := (-1)) hx hb dX3_clear_24 (by decide) ?_
  refine va_put (D := D) (ci := 3) (v := .int (-1)) (ty := tyX3 7) (fs := (xfComp ad V13 gi)) (C := RX3) (T := TX3) (N := 13) hx hb hg inX3 tyX3 tyX3_ok nmX3 hown hK hP hD hS (72 + gi) (xgComp hgi) rfl 7 (by decide) (hg _ w523) (fun _ h9 => h9) rfl (tyX3_ok 7 (by decide)) rfl rfl (Nat.le_of_ble_eq_true rfl) dX3_clear_25 (fun H locs hP hD hS => ?_)
  obtain ⟨V15, hV15⟩ : ∃ z, z = up2 V13 52 gi (-1) := ⟨_, rfl⟩
  have ew16 : (xw ad kk V13 L Z).set (72 + gi) ((ad (72 + gi)), .inr (3, (xfComp ad V13 gi).set 7 (.int (-1)))) = xw ad kk V15 L Z := by rw [hV15]; exact xpComp_calledWord hgi
  have hP : va_P D vwCl (xw ad kk V15 L Z) H := by rw [← ew16]; exact hP
  have hD : va_D A (xw ad kk V15 L Z) := by rw [← ew16]; exact hD
  have hMV15 : rgd bX V15 := hMV13.put hV15 (i_full _)
  have agV15 : agr [] [49, 50, 51, 52, 53, 54, 55, 56, 57, 61] V V15 := agV13.up hV15 rfl
  have fwV15 : frX (xI gi) V V15 := frX.up fwV13 hV15 (Or.inr ⟨(by show gi ≤ gi; omega), (by show gi < gi + 1; omega)⟩)
  refine lv_aload_n hx hb dX3_clear_28 rfl (lv_at hl 0 rfl) ?_
  refine lv_iconst (v := 0) hx hb dX3_clear_29 (by decide) ?_
  refine va_put (D := D) (ci := 3) (v := .int 0) (ty := tyX3 8) (fs := (xfComp ad V15 gi)) (C := RX3) (T := TX3) (N := 13) hx hb hg inX3 tyX3 tyX3_ok nmX3 hown hK hP hD hS (72 + gi) (xgComp hgi) rfl 8 (by decide) (hg _ w527) (fun _ h9 => h9) rfl (tyX3_ok 8 (by decide)) rfl rfl (Nat.le_of_ble_eq_true rfl) dX3_clear_30 (fun H locs hP hD hS => ?_)
  obtain ⟨V17, hV17⟩ : ∃ z, z = up2 V15 53 gi 0 := ⟨_, rfl⟩
  have ew18 : (xw ad kk V15 L Z).set (72 + gi) ((ad (72 + gi)), .inr (3, (xfComp ad V15 gi).set 8 (.int 0))) = xw ad kk V17 L Z := by rw [hV17]; exact xpComp_rank hgi
  have hP : va_P D vwCl (xw ad kk V17 L Z) H := by rw [← ew18]; exact hP
  have hD : va_D A (xw ad kk V17 L Z) := by rw [← ew18]; exact hD
  have hMV17 : rgd bX V17 := hMV15.put hV17 (i_full _)
  have agV17 : agr [] [49, 50, 51, 52, 53, 54, 55, 56, 57, 61] V V17 := agV15.up hV17 rfl
  have fwV17 : frX (xI gi) V V17 := frX.up fwV15 hV17 (Or.inr ⟨(by show gi ≤ gi; omega), (by show gi < gi + 1; omega)⟩)
  refine lv_aload_n hx hb dX3_clear_33 rfl (lv_at hl 0 rfl) ?_
  refine lv_iconst (v := (-1)) hx hb dX3_clear_34 (by decide) ?_
  refine va_put (D := D) (ci := 3) (v := .int (-1)) (ty := tyX3 9) (fs := (xfComp ad V17 gi)) (C := RX3) (T := TX3) (N := 13) hx hb hg inX3 tyX3 tyX3_ok nmX3 hown hK hP hD hS (72 + gi) (xgComp hgi) rfl 9 (by decide) (hg _ w531) (fun _ h9 => h9) rfl (tyX3_ok 9 (by decide)) rfl rfl (Nat.le_of_ble_eq_true rfl) dX3_clear_35 (fun H locs hP hD hS => ?_)
  obtain ⟨V19, hV19⟩ : ∃ z, z = up2 V17 54 gi (-1) := ⟨_, rfl⟩
  have ew20 : (xw ad kk V17 L Z).set (72 + gi) ((ad (72 + gi)), .inr (3, (xfComp ad V17 gi).set 9 (.int (-1)))) = xw ad kk V19 L Z := by rw [hV19]; exact xpComp_whenSetting hgi
  have hP : va_P D vwCl (xw ad kk V19 L Z) H := by rw [← ew20]; exact hP
  have hD : va_D A (xw ad kk V19 L Z) := by rw [← ew20]; exact hD
  have hMV19 : rgd bX V19 := hMV17.put hV19 (show (-1) ≤ Int32.toInt (-1) ∧ Int32.toInt (-1) ≤ 11 from by decide)
  have agV19 : agr [] [49, 50, 51, 52, 53, 54, 55, 56, 57, 61] V V19 := agV17.up hV19 rfl
  have fwV19 : frX (xI gi) V V19 := frX.up fwV17 hV19 (Or.inr ⟨(by show gi ≤ gi; omega), (by show gi < gi + 1; omega)⟩)
  refine lv_aload_n hx hb dX3_clear_38 rfl (lv_at hl 0 rfl) ?_
  refine lv_iconst (v := 0) hx hb dX3_clear_39 (by decide) ?_
  refine va_put (D := D) (ci := 3) (v := .int 0) (ty := tyX3 10) (fs := (xfComp ad V19 gi)) (C := RX3) (T := TX3) (N := 13) hx hb hg inX3 tyX3 tyX3_ok nmX3 hown hK hP hD hS (72 + gi) (xgComp hgi) rfl 10 (by decide) (hg _ w534) (fun _ h9 => h9) rfl (tyX3_ok 10 (by decide)) rfl rfl (Nat.le_of_ble_eq_true rfl) dX3_clear_40 (fun H locs hP hD hS => ?_)
  obtain ⟨V21, hV21⟩ : ∃ z, z = up2 V19 55 gi 0 := ⟨_, rfl⟩
  have ew22 : (xw ad kk V19 L Z).set (72 + gi) ((ad (72 + gi)), .inr (3, (xfComp ad V19 gi).set 10 (.int 0))) = xw ad kk V21 L Z := by rw [hV21]; exact xpComp_whenValue hgi
  have hP : va_P D vwCl (xw ad kk V21 L Z) H := by rw [← ew22]; exact hP
  have hD : va_D A (xw ad kk V21 L Z) := by rw [← ew22]; exact hD
  have hMV21 : rgd bX V21 := hMV19.put hV21 (i_full _)
  have agV21 : agr [] [49, 50, 51, 52, 53, 54, 55, 56, 57, 61] V V21 := agV19.up hV21 rfl
  have fwV21 : frX (xI gi) V V21 := frX.up fwV19 hV21 (Or.inr ⟨(by show gi ≤ gi; omega), (by show gi < gi + 1; omega)⟩)
  refine lv_aload_n hx hb dX3_clear_43 rfl (lv_at hl 0 rfl) ?_
  refine lv_iconst (v := (-1)) hx hb dX3_clear_44 (by decide) ?_
  refine va_put (D := D) (ci := 3) (v := .int (-1)) (ty := tyX3 11) (fs := (xfComp ad V21 gi)) (C := RX3) (T := TX3) (N := 13) hx hb hg inX3 tyX3 tyX3_ok nmX3 hown hK hP hD hS (72 + gi) (xgComp hgi) rfl 11 (by decide) (hg _ w537) (fun _ h9 => h9) rfl (tyX3_ok 11 (by decide)) rfl rfl (Nat.le_of_ble_eq_true rfl) dX3_clear_45 (fun H locs hP hD hS => ?_)
  obtain ⟨V23, hV23⟩ : ∃ z, z = up2 V21 56 gi (-1) := ⟨_, rfl⟩
  have ew24 : (xw ad kk V21 L Z).set (72 + gi) ((ad (72 + gi)), .inr (3, (xfComp ad V21 gi).set 11 (.int (-1)))) = xw ad kk V23 L Z := by rw [hV23]; exact xpComp_openedStart hgi
  have hP : va_P D vwCl (xw ad kk V23 L Z) H := by rw [← ew24]; exact hP
  have hD : va_D A (xw ad kk V23 L Z) := by rw [← ew24]; exact hD
  have hMV23 : rgd bX V23 := hMV21.put hV23 (show (-1) ≤ Int32.toInt (-1) ∧ Int32.toInt (-1) ≤ 8200 from by decide)
  have agV23 : agr [] [49, 50, 51, 52, 53, 54, 55, 56, 57, 61] V V23 := agV21.up hV23 rfl
  have fwV23 : frX (xI gi) V V23 := frX.up fwV21 hV23 (Or.inr ⟨(by show gi ≤ gi; omega), (by show gi < gi + 1; omega)⟩)
  refine lv_aload_n hx hb dX3_clear_48 rfl (lv_at hl 0 rfl) ?_
  refine lv_iconst (v := (-1)) hx hb dX3_clear_49 (by decide) ?_
  refine va_put (D := D) (ci := 3) (v := .int (-1)) (ty := tyX3 12) (fs := (xfComp ad V23 gi)) (C := RX3) (T := TX3) (N := 13) hx hb hg inX3 tyX3 tyX3_ok nmX3 hown hK hP hD hS (72 + gi) (xgComp hgi) rfl 12 (by decide) (hg _ w540) (fun _ h9 => h9) rfl (tyX3_ok 12 (by decide)) rfl rfl (Nat.le_of_ble_eq_true rfl) dX3_clear_50 (fun H locs hP hD hS => ?_)
  obtain ⟨V25, hV25⟩ : ∃ z, z = up2 V23 57 gi (-1) := ⟨_, rfl⟩
  have ew26 : (xw ad kk V23 L Z).set (72 + gi) ((ad (72 + gi)), .inr (3, (xfComp ad V23 gi).set 12 (.int (-1)))) = xw ad kk V25 L Z := by rw [hV25]; exact xpComp_closedStart hgi
  have hP : va_P D vwCl (xw ad kk V25 L Z) H := by rw [← ew26]; exact hP
  have hD : va_D A (xw ad kk V25 L Z) := by rw [← ew26]; exact hD
  have hMV25 : rgd bX V25 := hMV23.put hV25 (show (-1) ≤ Int32.toInt (-1) ∧ Int32.toInt (-1) ≤ 8200 from by decide)
  have agV25 : agr [] [49, 50, 51, 52, 53, 54, 55, 56, 57, 61] V V25 := agV23.up hV25 rfl
  have fwV25 : frX (xI gi) V V25 := frX.up fwV23 hV25 (Or.inr ⟨(by show gi ≤ gi; omega), (by show gi < gi + 1; omega)⟩)
  have pq27 : (V25 56 gi).toInt = (-1) := (congrArg Int32.toInt ((up2_o hV25 (by decide)).trans (up2_s hV23))).trans (by decide)
  have pq28 : (V25 57 gi).toInt = (-1) := (congrArg Int32.toInt (up2_s hV25)).trans (by decide)
  have pq29 : (V25 49 gi).toInt = 0 := (congrArg Int32.toInt ((up2_o hV25 (by decide)).trans ((up2_o hV23 (by decide)).trans ((up2_o hV21 (by decide)).trans ((up2_o hV19 (by decide)).trans ((up2_o hV17 (by decide)).trans ((up2_o hV15 (by decide)).trans ((up2_o hV13 (by decide)).trans ((up2_o hV11 (by decide)).trans (up2_s hV9)))))))))).trans (by decide)
  have rp30 : ∀ q : Nat, (q : Int) < 20 → (V25 61 (20 * gi + q)).toInt = -1 := fun q hq => by rw [(show agr [] [49, 50, 51, 52, 53, 54, 55, 56, 57] V7 V25 from (agr.up (agr.up (agr.up (agr.up (agr.up (agr.up (agr.up (agr.up (agr.up agr.rf hV9 rfl) hV11 rfl) hV13 rfl) hV15 rfl) hV17 rfl) hV19 rfl) hV21 rfl) hV23 rfl) hV25 rfl)) 61 _ rfl, t5 q hq]; decide
  have rp31 : ∀ q : Nat, ¬ (20 * gi ≤ q ∧ q < 20 * gi + 20) → V25 61 q = V 61 q := fun q hq => ((show agr [] [49, 50, 51, 52, 53, 54, 55, 56, 57] V7 V25 from (agr.up (agr.up (agr.up (agr.up (agr.up (agr.up (agr.up (agr.up (agr.up agr.rf hV9 rfl) hV11 rfl) hV13 rfl) hV15 rfl) hV17 rfl) hV19 rfl) hV21 rfl) hV23 rfl) hV25 rfl)) 61 _ rfl).trans (t6 q hq)
  have rp32 : ∀ q : Nat, ¬ q = gi → V25 56 q = V 56 q := fun q hq => ((((((((((up2_o hV25 (by decide)).trans (up2_k hV23 hq)).trans (up2_o hV21 (by decide))).trans (up2_o hV19 (by decide))).trans (up2_o hV17 (by decide))).trans (up2_o hV15 (by decide))).trans (up2_o hV13 (by decide))).trans (up2_o hV11 (by decide))).trans (up2_o hV9 (by decide))).trans (ajV7 56 _ rfl))
  have rp33 : ∀ q : Nat, ¬ q = gi → V25 57 q = V 57 q := fun q hq => ((((((((((up2_k hV25 hq).trans (up2_o hV23 (by decide))).trans (up2_o hV21 (by decide))).trans (up2_o hV19 (by decide))).trans (up2_o hV17 (by decide))).trans (up2_o hV15 (by decide))).trans (up2_o hV13 (by decide))).trans (up2_o hV11 (by decide))).trans (up2_o hV9 (by decide))).trans (ajV7 57 _ rfl))
  have rp34 : ∀ q : Nat, ¬ q = gi → V25 49 q = V 49 q := fun q hq => ((((((((((up2_o hV25 (by decide)).trans (up2_o hV23 (by decide))).trans (up2_o hV21 (by decide))).trans (up2_o hV19 (by decide))).trans (up2_o hV17 (by decide))).trans (up2_o hV15 (by decide))).trans (up2_o hV13 (by decide))).trans (up2_o hV11 (by decide))).trans (up2_k hV9 hq)).trans (ajV7 49 _ rfl))
  exact W.vret hx hb hr (fun t ht hW => ⟨⟨(V25, L), rfl, ⟨hMV25, agV25, rfl, fwV25, (show (V25 56 gi).toInt = -1 from by omega), (show (V25 57 gi).toInt = -1 from by omega), (show (V25 49 gi).toInt = 0 from by omega), rp30, rp31, rp32, rp33, rp34⟩, by rw [ht]; exact hP, va_K.moved hW.alike hK, hD⟩, hS.F ht⟩) hS.2.2 dX3_clear_53
abbrev r_x_kclear : Room := { frames := 0, cells := 0, slots := 0, locals := 0 }
abbrev q_x_kclear (D : va_G) (ks : KS) (ad : Nat → Nat) (kk : Nat → ClassId) (V : Vf) (L : Lf) (Z : XZ) (A : Nat → Prop) : Array Value → State → Outcome → State → Prop := va_Qv (fun (u : Vf × Lf) => rgd bX u.1 ∧ agr [(2, 7)] [] V u.1 ∧ u.2 = L) (fun u t => gq D A (xw ad kk u.1 u.2 Z) (xty kk Z) t) A
set_option maxHeartbeats 4000000 in
set_option maxRecDepth 100000 in
theorem x_kclear (l : Launch) (D : va_G) (ks : KS) (sz : Nat) (ad : Nat → Nat) (kk : Nat → ClassId) (V : Vf) (L : Lf) (Z : XZ)  (hMV : rgd bX V)  : Met l yX2_clear (Cond.code yX2_clear cX2_clear 1 none :: GW) r_x_kclear (va_Pc [.ref (ad 2)] (gp D ks (xw ad kk V L Z) (xty kk Z) sz)) (q_x_kclear D ks ad kk V L Z  (va_A (xw ad kk V L Z) sz)) 0 0 (va_A (xw ad kk V L Z) sz) := by
  refine g_met (q_x_kclear D ks ad kk V L Z) (by decide) (Nat.le_of_ble_eq_true rfl) ?_
  intro p e s m below meth c A ls H locs hx hb hr hml hown hg hlocks hin hnw hgk hP hK hD hS hA hl
  have hown : s.vm.findClass RX2 = some m.cls := hown
  have hl : lv_has ls 1 [(0, .ref (ad 2))] := hl
  have hP : va_P D vwCl (xw ad kk V L Z) H := hP
  have hD : va_D A (xw ad kk V L Z) := hD
  have hK : va_K D vwCl (xty kk Z) s := hK
  have agV : agr [(2, 7)] [] V V := agr.rf
  refine lv_aload_n hx hb dX2_clear_0 rfl (lv_at hl 0 rfl) ?_
  refine lv_iconst (v := 0) hx hb dX2_clear_1 (by decide) ?_
  refine va_put (D := D) (ci := 2) (v := .int 0) (ty := tyX2 7) (fs := (xfChecker ad V L Z)) (C := RX2) (T := TX2) (N := 8) hx hb hg inX2 tyX2 tyX2_ok nmX2 hown hK hP hD hS 2 xgChecker rfl 7 (by decide) (hg _ w345) (fun _ h9 => h9) rfl (tyX2_ok 7 (by decide)) rfl rfl (Nat.le_of_ble_eq_true rfl) dX2_clear_2 (fun H locs hP hD hS => ?_)
  obtain ⟨V1, hV1⟩ : ∃ z, z = up2 V 2 7 0 := ⟨_, rfl⟩
  have ew2 : (xw ad kk V L Z).set 2 ((ad 2), .inr (2, (xfChecker ad V L Z).set 7 (.int 0))) = xw ad kk V1 L Z := by rw [hV1]; exact xw_ss (by decide) rfl (xb_si (by decide))
  have hP : va_P D vwCl (xw ad kk V1 L Z) H := by rw [← ew2]; exact hP
  have hD : va_D A (xw ad kk V1 L Z) := by rw [← ew2]; exact hD
  have hMV1 : rgd bX V1 := hMV.put hV1 (by decide)
  have agV1 : agr [(2, 7)] [] V V1 := agV.up hV1 rfl
  exact W.vret hx hb hr (fun t ht hW => ⟨⟨(V1, L), rfl, ⟨hMV1, agV1, rfl⟩, by rw [ht]; exact hP, va_K.moved hW.alike hK, hD⟩, hS.F ht⟩) hS.2.2 dX2_clear_5
abbrev r_x_tells : Room := { frames := 0, cells := 0, slots := 0, locals := 0 }
abbrev q_x_tells (D : va_G) (ks : KS) (ad : Nat → Nat) (kk : Nat → ClassId) (V : Vf) (L : Lf) (Z : XZ) (p0 : Int32) (A : Nat → Prop) : Array Value → State → Outcome → State → Prop := va_Qi (fun (r : Int32) (_ : Unit) => (0 ≤ r.toInt ∧ r.toInt ≤ 1) ∧ (Imp (r.toInt = 1) (0 ≤ p0.toInt ∧ p0.toInt ≤ 99))) (fun _ t => gq D A (xw ad kk V L Z) (xty kk Z) t) A
set_option maxHeartbeats 4000000 in
set_option maxRecDepth 100000 in
theorem x_tells (l : Launch) (D : va_G) (ks : KS) (sz : Nat) (ad : Nat → Nat) (kk : Nat → ClassId) (V : Vf) (L : Lf) (Z : XZ) (p0 : Int32) (hMV : rgd bX V)  : Met l yX2_tells (Cond.code yX2_tells cX2_tells 2 (some .boolean) :: GW) r_x_tells (va_Pc [.ref (ad 2), .int p0] (gp D ks (xw ad kk V L Z) (xty kk Z) sz)) (q_x_tells D ks ad kk V L Z p0 (va_A (xw ad kk V L Z) sz)) 0 0 (va_A (xw ad kk V L Z) sz) := by
  refine g_met (q_x_tells D ks ad kk V L Z p0) (by decide) (Nat.le_of_ble_eq_true rfl) ?_
  intro p e s m below meth c A ls H locs hx hb hr hml hown hg hlocks hin hnw hgk hP hK hD hS hA hl
  have hown : s.vm.findClass RX2 = some m.cls := hown
  have hl : lv_has ls 2 [(0, .ref (ad 2)), (1, .int p0)] := hl
  have hP : va_P D vwCl (xw ad kk V L Z) H := hP
  have hD : va_D A (xw ad kk V L Z) := hD
  have hK : va_K D vwCl (xty kk Z) s := hK
  refine lv_iload_n hx hb dX2_tells_0 rfl (lv_at hl 1 rfl) ?_
  refine lv_if_lt (tgt := 22) hx hb dX2_tells_1 (by decide) (fun c1 => ?_) (fun c1 => ?_)
  · skip
    have f2 : p0.toInt < 0 := b_lt rfl (by decide) c1
    refine lv_iconst (v := 0) hx hb dX2_tells_22 (by decide) ?_
    exact W.zret (v := 0) hx hb hr rfl (fun t ht hW => ⟨⟨0, (), rfl, ⟨(by decide), (Imp.mk (fun hp => absurd hp (by decide)))⟩, by rw [ht]; exact hP, va_K.moved hW.alike hK, hD⟩, hS.F ht⟩) hS.2.2 dX2_tells_23
  · skip
    have f3 : 0 ≤ p0.toInt := b_nlt rfl (by decide) c1
    refine lv_iload_n hx hb dX2_tells_4 rfl (lv_at hl 1 rfl) ?_
    refine lv_aload_n hx hb dX2_tells_5 rfl (lv_at hl 0 rfl) ?_
    refine va_get (D := D) (ci := 2) (v := .int (V 2 7)) (fs := (xfChecker ad V L Z)) (C := RX2) (T := TX2) (N := 8) hx hb hg inX2 hown hK hP 2 xgChecker rfl 7 (by decide) (hg _ w345) (fun _ h9 => h9) rfl dX2_tells_6 ?_
    have r4 : 0 ≤ ((V 2 7)).toInt ∧ ((V 2 7)).toInt ≤ 1000000 := hMV 2 7
    refine lv_icmp_ge (tgt := 22) hx hb dX2_tells_9 (by decide) (fun c5 => ?_) (fun c5 => ?_)
    · skip
      have f6 : ((V 2 7)).toInt ≤ p0.toInt := b_le rfl rfl c5
      refine lv_iconst (v := 0) hx hb dX2_tells_22 (by decide) ?_
      exact W.zret (v := 0) hx hb hr rfl (fun t ht hW => ⟨⟨0, (), rfl, ⟨(by decide), (Imp.mk (fun hp => absurd hp (by decide)))⟩, by rw [ht]; exact hP, va_K.moved hW.alike hK, hD⟩, hS.F ht⟩) hS.2.2 dX2_tells_23
    · skip
      have f7 : p0.toInt < ((V 2 7)).toInt := b_nle rfl rfl c5
      refine lv_iload_n hx hb dX2_tells_12 rfl (lv_at hl 1 rfl) ?_
      refine lv_bipush (v := 100) hx hb dX2_tells_13 (by decide) ?_
      refine lv_icmp_ge (tgt := 22) hx hb dX2_tells_15 (by decide) (fun c8 => ?_) (fun c8 => ?_)
      · skip
        have f9 : 100 ≤ p0.toInt := b_le (by decide) rfl c8
        refine lv_iconst (v := 0) hx hb dX2_tells_22 (by decide) ?_
        exact W.zret (v := 0) hx hb hr rfl (fun t ht hW => ⟨⟨0, (), rfl, ⟨(by decide), (Imp.mk (fun hp => absurd hp (by decide)))⟩, by rw [ht]; exact hP, va_K.moved hW.alike hK, hD⟩, hS.F ht⟩) hS.2.2 dX2_tells_23
      · skip
        have f10 : p0.toInt < 100 := b_nle (by decide) rfl c8
        refine lv_iconst (v := 1) hx hb dX2_tells_18 (by decide) ?_
        refine lv_goto (tgt := 23) hx hb dX2_tells_19 (by decide) ?_
        exact W.zret (v := 1) hx hb hr rfl (fun t ht hW => ⟨⟨1, (), rfl, ⟨(by decide), (Imp.mk (fun _ => (show 0 ≤ p0.toInt ∧ p0.toInt ≤ 99 from by omega)))⟩, by rw [ht]; exact hP, va_K.moved hW.alike hK, hD⟩, hS.F ht⟩) hS.2.2 dX2_tells_23
abbrev r_x_note : Room := { frames := 0, cells := 0, slots := 0, locals := 0 }
abbrev q_x_note (D : va_G) (ks : KS) (ad : Nat → Nat) (kk : Nat → ClassId) (V : Vf) (L : Lf) (Z : XZ) (p0 : Int32) (p1 : Int32) (p2 : Int32) (A : Nat → Prop) : Array Value → State → Outcome → State → Prop := va_Qv (fun (u : Vf × Lf) => rgd bX u.1 ∧ agr [(2, 7)] [15, 16, 17] V u.1 ∧ u.2 = L ∧ ((u.1 2 7).toInt = (V 2 7).toInt + 1)) (fun u t => gq D A (xw ad kk u.1 u.2 Z) (xty kk Z) t) A
set_option maxHeartbeats 4000000 in
set_option maxRecDepth 100000 in
theorem x_note (l : Launch) (D : va_G) (ks : KS) (sz : Nat) (ad : Nat → Nat) (kk : Nat → ClassId) (V : Vf) (L : Lf) (Z : XZ) (p0 : Int32) (p1 : Int32) (p2 : Int32) (hMV : rgd bX V) (rg_p2 : (-100) ≤ p2.toInt ∧ p2.toInt ≤ 24) (y1 : (V 2 7).toInt ≤ 999999)  : Met l yX2_note (Cond.code yX2_note cX2_note 4 none :: GW) r_x_note (va_Pc [.ref (ad 2), .int p0, .int p1, .int p2] (gp D ks (xw ad kk V L Z) (xty kk Z) sz)) (q_x_note D ks ad kk V L Z p0 p1 p2 (va_A (xw ad kk V L Z) sz)) 0 0 (va_A (xw ad kk V L Z) sz) := by
  refine g_met (q_x_note D ks ad kk V L Z p0 p1 p2) (by decide) (Nat.le_of_ble_eq_true rfl) ?_
  intro p e s m below meth c A ls H locs hx hb hr hml hown hg hlocks hin hnw hgk hP hK hD hS hA hl
  have hown : s.vm.findClass RX2 = some m.cls := hown
  have hl : lv_has ls 4 [(0, .ref (ad 2)), (1, .int p0), (2, .int p1), (3, .int p2)] := hl
  have hP : va_P D vwCl (xw ad kk V L Z) H := hP
  have hD : va_D A (xw ad kk V L Z) := hD
  have hK : va_K D vwCl (xty kk Z) s := hK
  have agV : agr [(2, 7)] [15, 16, 17] V V := agr.rf
  have r1 : 0 ≤ ((V 2 7)).toInt ∧ ((V 2 7)).toInt ≤ 1000000 := hMV 2 7
  refine lv_aload_n hx hb dX2_note_0 rfl (lv_at hl 0 rfl) ?_
  refine va_get (D := D) (ci := 2) (v := .int (V 2 7)) (fs := (xfChecker ad V L Z)) (C := RX2) (T := TX2) (N := 8) hx hb hg inX2 hown hK hP 2 xgChecker rfl 7 (by decide) (hg _ w345) (fun _ h9 => h9) rfl dX2_note_1 ?_
  refine lv_bipush (v := 100) hx hb dX2_note_4 (by decide) ?_
  refine lv_icmp_ge (tgt := 39) hx hb dX2_note_6 (by decide) (fun c2 => ?_) (fun c2 => ?_)
  · skip
    have f3 : 100 ≤ ((V 2 7)).toInt := b_le (by decide) rfl c2
    refine lv_aload_n hx hb dX2_note_39 rfl (lv_at hl 0 rfl) ?_
    refine lv_dup hx hb dX2_note_40 rfl ?_
    refine va_get (D := D) (ci := 2) (v := .int (V 2 7)) (fs := (xfChecker ad V L Z)) (C := RX2) (T := TX2) (N := 8) hx hb hg inX2 hown hK hP 2 xgChecker rfl 7 (by decide) (hg _ w345) (fun _ h9 => h9) rfl dX2_note_41 ?_
    refine lv_iconst (v := 1) hx hb dX2_note_44 (by decide) ?_
    refine lv_iadd hx hb dX2_note_45 ?_
    refine lv_topi (fun z4 ez4 => ?_)
    have hz4 : z4.toInt = ((V 2 7)).toInt + 1 := i_add ez4 rfl (by decide) (by omega)
    refine va_put (D := D) (ci := 2) (v := .int z4) (ty := tyX2 7) (fs := (xfChecker ad V L Z)) (C := RX2) (T := TX2) (N := 8) hx hb hg inX2 tyX2 tyX2_ok nmX2 hown hK hP hD hS 2 xgChecker rfl 7 (by decide) (hg _ w345) (fun _ h9 => h9) rfl (tyX2_ok 7 (by decide)) rfl rfl (Nat.le_of_ble_eq_true rfl) dX2_note_46 (fun H locs hP hD hS => ?_)
    obtain ⟨V5, hV5⟩ : ∃ z, z = up2 V 2 7 z4 := ⟨_, rfl⟩
    have ew6 : (xw ad kk V L Z).set 2 ((ad 2), .inr (2, (xfChecker ad V L Z).set 7 (.int z4))) = xw ad kk V5 L Z := by rw [hV5]; exact xw_ss (by decide) rfl (xb_si (by decide))
    have hP : va_P D vwCl (xw ad kk V5 L Z) H := by rw [← ew6]; exact hP
    have hD : va_D A (xw ad kk V5 L Z) := by rw [← ew6]; exact hD
    have hMV5 : rgd bX V5 := hMV.put hV5 (show 0 ≤ z4.toInt ∧ z4.toInt ≤ 1000000 from by omega)
    have agV5 : agr [(2, 7)] [15, 16, 17] V V5 := agV.up hV5 rfl
    have pq7 : (V5 2 7).toInt = z4.toInt := congrArg Int32.toInt (up2_s hV5)
    exact W.vret hx hb hr (fun t ht hW => ⟨⟨(V5, L), rfl, ⟨hMV5, agV5, rfl, (show (V5 2 7).toInt = (V 2 7).toInt + 1 from by omega)⟩, by rw [ht]; exact hP, va_K.moved hW.alike hK, hD⟩, hS.F ht⟩) hS.2.2 dX2_note_49
  · skip
    have f8 : ((V 2 7)).toInt < 100 := b_nle (by decide) rfl c2
    refine lv_aload_n hx hb dX2_note_9 rfl (lv_at hl 0 rfl) ?_
    refine va_get (D := D) (ci := 2) (v := .ref (ad 12)) (fs := (xfChecker ad V L Z)) (C := RX2) (T := TX2) (N := 8) hx hb hg inX2 hown hK hP 2 xgChecker rfl 0 (by decide) (hg _ w338) (fun _ h9 => h9) rfl dX2_note_10 ?_
    refine lv_aload_n hx hb dX2_note_13 rfl (lv_at hl 0 rfl) ?_
    refine va_get (D := D) (ci := 2) (v := .int (V 2 7)) (fs := (xfChecker ad V L Z)) (C := RX2) (T := TX2) (N := 8) hx hb hg inX2 hown hK hP 2 xgChecker rfl 7 (by decide) (hg _ w345) (fun _ h9 => h9) rfl dX2_note_14 ?_
    refine lv_iload_n hx hb dX2_note_17 rfl (lv_at hl 1 rfl) ?_
    refine va_iast (D := D) (i := (V 2 7)) (x := p0) hx hb hK hP hD hS 12 5 rfl rfl (i_in (a := ((V 2 7)).toInt) rfl (by omega)) dX2_note_18 (fun H locs hP hD hS => ?_)
    obtain ⟨V9, hV9⟩ : ∃ z, z = up2 V 15 (Int32.toNatClampNeg (V 2 7)) p0 := ⟨_, rfl⟩
    have ew10 : (xw ad kk V L Z).set 12 ((ad 12), .inl ((kk 12), 100, .inl (upd (V 15) (Int32.toNatClampNeg (V 2 7)) p0))) = xw ad kk V9 L Z := by rw [hV9]; exact xw_ss (by decide) rfl (xb_si (by decide))
    have hP : va_P D vwCl (xw ad kk V9 L Z) H := by rw [← ew10]; exact hP
    have hD : va_D A (xw ad kk V9 L Z) := by rw [← ew10]; exact hD
    have hMV9 : rgd bX V9 := hMV.put hV9 (i_full _)
    have agV9 : agr [(2, 7)] [15, 16, 17] V V9 := agV.up hV9 rfl
    refine lv_aload_n hx hb dX2_note_19 rfl (lv_at hl 0 rfl) ?_
    refine va_get (D := D) (ci := 2) (v := .ref (ad 13)) (fs := (xfChecker ad V9 L Z)) (C := RX2) (T := TX2) (N := 8) hx hb hg inX2 hown hK hP 2 xgChecker rfl 1 (by decide) (hg _ w339) (fun _ h9 => h9) rfl dX2_note_20 ?_
    refine lv_aload_n hx hb dX2_note_23 rfl (lv_at hl 0 rfl) ?_
    refine va_get (D := D) (ci := 2) (v := .int (V9 2 7)) (fs := (xfChecker ad V9 L Z)) (C := RX2) (T := TX2) (N := 8) hx hb hg inX2 hown hK hP 2 xgChecker rfl 7 (by decide) (hg _ w345) (fun _ h9 => h9) rfl dX2_note_24 ?_
    refine g_top (v := (V 2 7)) (up2_o hV9 (by decide)) ?_
    refine lv_iload_n hx hb dX2_note_27 rfl (lv_at hl 2 rfl) ?_
    refine va_iast (D := D) (i := (V 2 7)) (x := p1) hx hb hK hP hD hS 13 6 rfl rfl (i_in (a := ((V 2 7)).toInt) rfl (by omega)) dX2_note_28 (fun H locs hP hD hS => ?_)
    obtain ⟨V11, hV11⟩ : ∃ z, z = up2 V9 16 (Int32.toNatClampNeg (V 2 7)) p1 := ⟨_, rfl⟩
    have ew12 : (xw ad kk V9 L Z).set 13 ((ad 13), .inl ((kk 13), 100, .inl (upd (V9 16) (Int32.toNatClampNeg (V 2 7)) p1))) = xw ad kk V11 L Z := by rw [hV11]; exact xw_ss (by decide) rfl (xb_si (by decide))
    have hP : va_P D vwCl (xw ad kk V11 L Z) H := by rw [← ew12]; exact hP
    have hD : va_D A (xw ad kk V11 L Z) := by rw [← ew12]; exact hD
    have hMV11 : rgd bX V11 := hMV9.put hV11 (i_full _)
    have agV11 : agr [(2, 7)] [15, 16, 17] V V11 := agV9.up hV11 rfl
    refine lv_aload_n hx hb dX2_note_29 rfl (lv_at hl 0 rfl) ?_
    refine va_get (D := D) (ci := 2) (v := .ref (ad 14)) (fs := (xfChecker ad V11 L Z)) (C := RX2) (T := TX2) (N := 8) hx hb hg inX2 hown hK hP 2 xgChecker rfl 2 (by decide) (hg _ w340) (fun _ h9 => h9) rfl dX2_note_30 ?_
    refine lv_aload_n hx hb dX2_note_33 rfl (lv_at hl 0 rfl) ?_
    refine va_get (D := D) (ci := 2) (v := .int (V11 2 7)) (fs := (xfChecker ad V11 L Z)) (C := RX2) (T := TX2) (N := 8) hx hb hg inX2 hown hK hP 2 xgChecker rfl 7 (by decide) (hg _ w345) (fun _ h9 => h9) rfl dX2_note_34 ?_
    refine g_top (v := (V 2 7)) ((up2_o hV11 (by decide)).trans (up2_o hV9 (by decide))) ?_
    refine lv_iload_n hx hb dX2_note_37 rfl (lv_at hl 3 rfl) ?_
    refine va_iast (D := D) (i := (V 2 7)) (x := p2) hx hb hK hP hD hS 14 7 rfl rfl (i_in (a := ((V 2 7)).toInt) rfl (by omega)) dX2_note_38 (fun H locs hP hD hS => ?_)
    obtain ⟨V13, hV13⟩ : ∃ z, z = up2 V11 17 (Int32.toNatClampNeg (V 2 7)) p2 := ⟨_, rfl⟩
    have ew14 : (xw ad kk V11 L Z).set 14 ((ad 14), .inl ((kk 14), 100, .inl (upd (V11 17) (Int32.toNatClampNeg (V 2 7)) p2))) = xw ad kk V13 L Z := by rw [hV13]; exact xw_ss (by decide) rfl (xb_si (by decide))
    have hP : va_P D vwCl (xw ad kk V13 L Z) H := by rw [← ew14]; exact hP
    have hD : va_D A (xw ad kk V13 L Z) := by rw [← ew14]; exact hD
    have hMV13 : rgd bX V13 := hMV11.put hV13 (show (-100) ≤ p2.toInt ∧ p2.toInt ≤ 24 from by omega)
    have agV13 : agr [(2, 7)] [15, 16, 17] V V13 := agV11.up hV13 rfl
    refine lv_aload_n hx hb dX2_note_39 rfl (lv_at hl 0 rfl) ?_
    refine lv_dup hx hb dX2_note_40 rfl ?_
    refine va_get (D := D) (ci := 2) (v := .int (V13 2 7)) (fs := (xfChecker ad V13 L Z)) (C := RX2) (T := TX2) (N := 8) hx hb hg inX2 hown hK hP 2 xgChecker rfl 7 (by decide) (hg _ w345) (fun _ h9 => h9) rfl dX2_note_41 ?_
    refine g_top (v := (V 2 7)) ((up2_o hV13 (by decide)).trans ((up2_o hV11 (by decide)).trans (up2_o hV9 (by decide)))) ?_
    refine lv_iconst (v := 1) hx hb dX2_note_44 (by decide) ?_
    refine lv_iadd hx hb dX2_note_45 ?_
    refine lv_topi (fun z15 ez15 => ?_)
    have hz15 : z15.toInt = ((V 2 7)).toInt + 1 := i_add ez15 rfl (by decide) (by omega)
    refine va_put (D := D) (ci := 2) (v := .int z15) (ty := tyX2 7) (fs := (xfChecker ad V13 L Z)) (C := RX2) (T := TX2) (N := 8) hx hb hg inX2 tyX2 tyX2_ok nmX2 hown hK hP hD hS 2 xgChecker rfl 7 (by decide) (hg _ w345) (fun _ h9 => h9) rfl (tyX2_ok 7 (by decide)) rfl rfl (Nat.le_of_ble_eq_true rfl) dX2_note_46 (fun H locs hP hD hS => ?_)
    obtain ⟨V16, hV16⟩ : ∃ z, z = up2 V13 2 7 z15 := ⟨_, rfl⟩
    have ew17 : (xw ad kk V13 L Z).set 2 ((ad 2), .inr (2, (xfChecker ad V13 L Z).set 7 (.int z15))) = xw ad kk V16 L Z := by rw [hV16]; exact xw_ss (by decide) rfl (xb_si (by decide))
    have hP : va_P D vwCl (xw ad kk V16 L Z) H := by rw [← ew17]; exact hP
    have hD : va_D A (xw ad kk V16 L Z) := by rw [← ew17]; exact hD
    have hMV16 : rgd bX V16 := hMV13.put hV16 (show 0 ≤ z15.toInt ∧ z15.toInt ≤ 1000000 from by omega)
    have agV16 : agr [(2, 7)] [15, 16, 17] V V16 := agV13.up hV16 rfl
    have pq18 : (V16 2 7).toInt = z15.toInt := congrArg Int32.toInt (up2_s hV16)
    exact W.vret hx hb hr (fun t ht hW => ⟨⟨(V16, L), rfl, ⟨hMV16, agV16, rfl, (show (V16 2 7).toInt = (V 2 7).toInt + 1 from by omega)⟩, by rw [ht]; exact hP, va_K.moved hW.alike hK, hD⟩, hS.F ht⟩) hS.2.2 dX2_note_49
abbrev r_x_tell : Room := { frames := 1, cells := 0, slots := 0, locals := 21 }
abbrev q_x_tell (D : va_G) (ks : KS) (ad : Nat → Nat) (kk : Nat → ClassId) (V : Vf) (L : Lf) (Z : XZ) (p0 : Int32) (p1 : Int32) (A : Nat → Prop) : Array Value → State → Outcome → State → Prop := va_Qi (fun (r : Int32) (_ : Unit) => True) (fun _ t => gq D A (xw ad kk V L Z) (xty kk Z) t) A
set_option maxHeartbeats 4000000 in
set_option maxRecDepth 100000 in
theorem x_tell (l : Launch) (D : va_G) (ks : KS) (sz : Nat) (ad : Nat → Nat) (kk : Nat → ClassId) (V : Vf) (L : Lf) (Z : XZ) (p0 : Int32) (p1 : Int32) (hMV : rgd bX V)  : Met l yX2_tell (Cond.code yX2_tell cX2_tell 3 (some .int) :: GW) r_x_tell (va_Pc [.ref (ad 2), .int p0, .int p1] (gp D ks (xw ad kk V L Z) (xty kk Z) sz)) (q_x_tell D ks ad kk V L Z p0 p1 (va_A (xw ad kk V L Z) sz)) 0 0 (va_A (xw ad kk V L Z) sz) := by
  refine g_met (q_x_tell D ks ad kk V L Z p0 p1) (by decide) (Nat.le_of_ble_eq_true rfl) ?_
  intro p e s m below meth c A ls H locs hx hb hr hml hown hg hlocks hin hnw hgk hP hK hD hS hA hl
  have hown : s.vm.findClass RX2 = some m.cls := hown
  have hl : lv_has ls 3 [(0, .ref (ad 2)), (1, .int p0), (2, .int p1)] := hl
  have hP : va_P D vwCl (xw ad kk V L Z) H := hP
  have hD : va_D A (xw ad kk V L Z) := hD
  have hK : va_K D vwCl (xty kk Z) s := hK
  refine lv_aload_n hx hb dX2_tell_0 rfl (lv_at hl 0 rfl) ?_
  refine lv_iload_n hx hb dX2_tell_1 rfl (lv_at hl 1 rfl) ?_
  refine gA_int (gA_runV (As := [.int p0]) (rest := []) (ci := 2) (q0 := 2) hx hb hml hown hg hP hD hK hS hA hnw hgk (x_tells l D ks H.size ad kk V L Z p0 hMV ) w1121 w1123 w41 w163 w1124 rfl xgChecker hdV_yX2_tells ⟨Nat.le_of_ble_eq_true rfl, Nat.le_of_ble_eq_true rfl⟩ rfl hl.1 rfl (Nat.le_of_ble_eq_true rfl) dX2_tell_2 ⟨Nat.le_of_ble_eq_true rfl, Nat.le_of_ble_eq_true rfl⟩) hP hD hK hS hA (fun z1 u2 H locs w3 hP hD hK hS => ?_)
  obtain ⟨rgz1, t4⟩ := w3
  have rgz1 : 0 ≤ z1.toInt ∧ z1.toInt ≤ 1 := rgz1
  have t4 : Imp (z1.toInt = 1) (0 ≤ p0.toInt ∧ p0.toInt ≤ 99) := t4
  refine lv_if_ne (tgt := 10) hx hb dX2_tell_5 (by decide) (fun c5 => ?_) (fun c5 => ?_)
  · skip
    have f6 : z1.toInt ≠ 0 := b_neq rfl (by decide) c5
    have rh7 := Imp.go t4 (by omega)
    refine lv_iload_n hx hb dX2_tell_10 rfl (lv_at hl 2 rfl) ?_
    by_cases q8 : p1 = 0
    · refine g_top (v := 0) q8 ?_
      have fq8 : p1.toInt = 0 := b_eq rfl (by decide) q8
      refine lv_tableIn (x := 0) (off := 25) (tgt := 36) hx hb dX2_tell_11 (by decide) (by decide) (by decide) (by decide) ?_
      refine lv_aload_n hx hb dX2_tell_36 rfl (lv_at hl 0 rfl) ?_
      refine va_get (D := D) (ci := 2) (v := .ref (ad 12)) (fs := (xfChecker ad V L Z)) (C := RX2) (T := TX2) (N := 8) hx hb hg inX2 hown hK hP 2 xgChecker rfl 0 (by decide) (hg _ w338) (fun _ h9 => h9) rfl dX2_tell_37 ?_
      refine lv_iload_n hx hb dX2_tell_40 rfl (lv_at hl 1 rfl) ?_
      refine va_iald (D := D) (i := p0) hx hb hK hP 12 5 rfl rfl (i_in (a := p0.toInt) rfl (by first | omega | ((try (have i_t4 := Imp.go t4 (by omega))); omega))) dX2_tell_41 ?_
      exact W.iret (v := (V 15 (Int32.toNatClampNeg p0))) hx hb hr (fun t ht hW => ⟨⟨(V 15 (Int32.toNatClampNeg p0)), (), rfl, trivial, by rw [ht]; exact hP, va_K.moved hW.alike hK, hD⟩, hS.F ht⟩) hS.2.2 dX2_tell_42
    by_cases q9 : p1 = 1
    · refine g_top (v := 1) q9 ?_
      have fq9 : p1.toInt = 1 := b_eq rfl (by decide) q9
      refine lv_tableIn (x := 1) (off := 32) (tgt := 43) hx hb dX2_tell_11 (by decide) (by decide) (by decide) (by decide) ?_
      refine lv_aload_n hx hb dX2_tell_43 rfl (lv_at hl 0 rfl) ?_
      refine va_get (D := D) (ci := 2) (v := .ref (ad 13)) (fs := (xfChecker ad V L Z)) (C := RX2) (T := TX2) (N := 8) hx hb hg inX2 hown hK hP 2 xgChecker rfl 1 (by decide) (hg _ w339) (fun _ h9 => h9) rfl dX2_tell_44 ?_
      refine lv_iload_n hx hb dX2_tell_47 rfl (lv_at hl 1 rfl) ?_
      refine va_iald (D := D) (i := p0) hx hb hK hP 13 6 rfl rfl (i_in (a := p0.toInt) rfl (by first | omega | ((try (have i_t4 := Imp.go t4 (by omega))); omega))) dX2_tell_48 ?_
      exact W.iret (v := (V 16 (Int32.toNatClampNeg p0))) hx hb hr (fun t ht hW => ⟨⟨(V 16 (Int32.toNatClampNeg p0)), (), rfl, trivial, by rw [ht]; exact hP, va_K.moved hW.alike hK, hD⟩, hS.F ht⟩) hS.2.2 dX2_tell_49
    by_cases q10 : p1 = 2
    · refine g_top (v := 2) q10 ?_
      have fq10 : p1.toInt = 2 := b_eq rfl (by decide) q10
      refine lv_tableIn (x := 2) (off := 39) (tgt := 50) hx hb dX2_tell_11 (by decide) (by decide) (by decide) (by decide) ?_
      refine lv_aload_n hx hb dX2_tell_50 rfl (lv_at hl 0 rfl) ?_
      refine va_get (D := D) (ci := 2) (v := .ref (ad 14)) (fs := (xfChecker ad V L Z)) (C := RX2) (T := TX2) (N := 8) hx hb hg inX2 hown hK hP 2 xgChecker rfl 2 (by decide) (hg _ w340) (fun _ h9 => h9) rfl dX2_tell_51 ?_
      refine lv_iload_n hx hb dX2_tell_54 rfl (lv_at hl 1 rfl) ?_
      refine va_iald (D := D) (i := p0) hx hb hK hP 14 7 rfl rfl (i_in (a := p0.toInt) rfl (by first | omega | ((try (have i_t4 := Imp.go t4 (by omega))); omega))) dX2_tell_55 ?_
      have r11 : (-100) ≤ ((V 17 (Int32.toNatClampNeg p0))).toInt ∧ ((V 17 (Int32.toNatClampNeg p0))).toInt ≤ 24 := hMV 17 (Int32.toNatClampNeg p0)
      exact W.iret (v := (V 17 (Int32.toNatClampNeg p0))) hx hb hr (fun t ht hW => ⟨⟨(V 17 (Int32.toNatClampNeg p0)), (), rfl, trivial, by rw [ht]; exact hP, va_K.moved hW.alike hK, hD⟩, hS.F ht⟩) hS.2.2 dX2_tell_56
    refine lv_tableOut (x := p1) (tgt := 57) hx hb dX2_tell_11 (tab_out p1 2 (by decide) (fun k hk => match k, hk with | 0, _ => q8 | 1, _ => q9 | 2, _ => q10 | k + 3, hk => absurd hk (by omega))) (by decide) ?_
    refine lv_iconst (v := (-1)) hx hb dX2_tell_57 (by decide) ?_
    exact W.iret (v := (-1)) hx hb hr (fun t ht hW => ⟨⟨(-1), (), rfl, trivial, by rw [ht]; exact hP, va_K.moved hW.alike hK, hD⟩, hS.F ht⟩) hS.2.2 dX2_tell_58
  · skip
    have f12 : z1.toInt = 0 := b_eq rfl (by decide) c5
    refine lv_iconst (v := (-1)) hx hb dX2_tell_8 (by decide) ?_
    exact W.iret (v := (-1)) hx hb hr (fun t ht hW => ⟨⟨(-1), (), rfl, trivial, by rw [ht]; exact hP, va_K.moved hW.alike hK, hD⟩, hS.F ht⟩) hS.2.2 dX2_tell_9
abbrev r_x_onRing : Room := { frames := 1, cells := 0, slots := 0, locals := 21 }
abbrev q_x_onRing (D : va_G) (ks : KS) (ad : Nat → Nat) (kk : Nat → ClassId) (V : Vf) (L : Lf) (Z : XZ) (p0 : Int32) (p1 : Int32) (A : Nat → Prop) : Array Value → State → Outcome → State → Prop := va_Qi (fun (r : Int32) (_ : Unit) => True) (fun _ t => gq D A (xw ad kk V L Z) (xty kk Z) t) A
set_option maxHeartbeats 4000000 in
set_option maxRecDepth 100000 in
theorem x_onRing (l : Launch) (D : va_G) (ks : KS) (sz : Nat) (ad : Nat → Nat) (kk : Nat → ClassId) (V : Vf) (L : Lf) (Z : XZ) (p0 : Int32) (p1 : Int32) (hMV : rgd bX V)  : Met l yX2_onRing (Cond.code yX2_onRing cX2_onRing 4 (some .int) :: GW) r_x_onRing (va_Pc [.ref (ad 2), .int p0, .int p1] (gp D ks (xw ad kk V L Z) (xty kk Z) sz)) (q_x_onRing D ks ad kk V L Z p0 p1 (va_A (xw ad kk V L Z) sz)) 0 0 (va_A (xw ad kk V L Z) sz) := by
  refine g_met (q_x_onRing D ks ad kk V L Z p0 p1) (by decide) (Nat.le_of_ble_eq_true rfl) ?_
  intro p e s m below meth c A ls H locs hx hb hr hml hown hg hlocks hin hnw hgk hP hK hD hS hA hl
  have hown : s.vm.findClass RX2 = some m.cls := hown
  have hl : lv_has ls 4 [(0, .ref (ad 2)), (1, .int p0), (2, .int p1)] := hl
  have hP : va_P D vwCl (xw ad kk V L Z) H := hP
  have hD : va_D A (xw ad kk V L Z) := hD
  have hK : va_K D vwCl (xty kk Z) s := hK
  refine lv_aload_n hx hb dX2_onRing_0 rfl (lv_at hl 0 rfl) ?_
  refine lv_iload_n hx hb dX2_onRing_1 rfl (lv_at hl 1 rfl) ?_
  refine gA_int (gA_runV (As := [.int p0]) (rest := []) (ci := 2) (q0 := 2) hx hb hml hown hg hP hD hK hS hA hnw hgk (x_tells l D ks H.size ad kk V L Z p0 hMV ) w1121 w1123 w41 w163 w1124 rfl xgChecker hdV_yX2_tells ⟨Nat.le_of_ble_eq_true rfl, Nat.le_of_ble_eq_true rfl⟩ rfl hl.1 rfl (Nat.le_of_ble_eq_true rfl) dX2_onRing_2 ⟨Nat.le_of_ble_eq_true rfl, Nat.le_of_ble_eq_true rfl⟩) hP hD hK hS hA (fun z1 u2 H locs w3 hP hD hK hS => ?_)
  obtain ⟨rgz1, t4⟩ := w3
  have rgz1 : 0 ≤ z1.toInt ∧ z1.toInt ≤ 1 := rgz1
  have t4 : Imp (z1.toInt = 1) (0 ≤ p0.toInt ∧ p0.toInt ≤ 99) := t4
  refine lv_if_eq (tgt := 22) hx hb dX2_onRing_5 (by decide) (fun c5 => ?_) (fun c5 => ?_)
  · skip
    have f6 : z1.toInt = 0 := b_eq rfl (by decide) c5
    refine lv_iconst (v := 0) hx hb dX2_onRing_22 (by decide) ?_
    refine lv_istore_n (lv' := [(3, .int 0), (0, .ref (ad 2)), (1, .int p0), (2, .int p1)]) hx hb dX2_onRing_23 rfl hl (by decide) rfl (fun ls hl => ?_)
    refine lv_iload_n hx hb dX2_onRing_24 rfl (lv_at hl 0 rfl) ?_
    refine lv_if_eq (tgt := 56) hx hb dX2_onRing_25 (by decide) (fun _ => ?_) (fun q => absurd (by decide) q)
    refine lv_iconst (v := (-1)) hx hb dX2_onRing_56 (by decide) ?_
    exact W.iret (v := (-1)) hx hb hr (fun t ht hW => ⟨⟨(-1), (), rfl, trivial, by rw [ht]; exact hP, va_K.moved hW.alike hK, hD⟩, hS.F ht⟩) hS.2.2 dX2_onRing_57
  · skip
    have f7 : z1.toInt ≠ 0 := b_neq rfl (by decide) c5
    have rh8 := Imp.go t4 (by omega)
    refine lv_aload_n hx hb dX2_onRing_8 rfl (lv_at hl 0 rfl) ?_
    refine va_get (D := D) (ci := 2) (v := .ref (ad 12)) (fs := (xfChecker ad V L Z)) (C := RX2) (T := TX2) (N := 8) hx hb hg inX2 hown hK hP 2 xgChecker rfl 0 (by decide) (hg _ w338) (fun _ h9 => h9) rfl dX2_onRing_9 ?_
    refine lv_iload_n hx hb dX2_onRing_12 rfl (lv_at hl 1 rfl) ?_
    refine va_iald (D := D) (i := p0) hx hb hK hP 12 5 rfl rfl (i_in (a := p0.toInt) rfl (by first | omega | ((try (have i_t4 := Imp.go t4 (by omega))); omega))) dX2_onRing_13 ?_
    refine lv_iconst (v := 3) hx hb dX2_onRing_14 (by decide) ?_
    refine lv_icmp_ne (tgt := 22) hx hb dX2_onRing_15 (by decide) (fun c9 => ?_) (fun c9 => ?_)
    · skip
      have f10 : ((V 15 (Int32.toNatClampNeg p0))).toInt ≠ 3 := b_neq rfl (by decide) c9
      refine lv_iconst (v := 0) hx hb dX2_onRing_22 (by decide) ?_
      refine lv_istore_n (lv' := [(3, .int 0), (0, .ref (ad 2)), (1, .int p0), (2, .int p1)]) hx hb dX2_onRing_23 rfl hl (by decide) rfl (fun ls hl => ?_)
      refine lv_iload_n hx hb dX2_onRing_24 rfl (lv_at hl 0 rfl) ?_
      refine lv_if_eq (tgt := 56) hx hb dX2_onRing_25 (by decide) (fun _ => ?_) (fun q => absurd (by decide) q)
      refine lv_iconst (v := (-1)) hx hb dX2_onRing_56 (by decide) ?_
      exact W.iret (v := (-1)) hx hb hr (fun t ht hW => ⟨⟨(-1), (), rfl, trivial, by rw [ht]; exact hP, va_K.moved hW.alike hK, hD⟩, hS.F ht⟩) hS.2.2 dX2_onRing_57
    · skip
      have f11 : ((V 15 (Int32.toNatClampNeg p0))).toInt = 3 := b_eq rfl (by decide) c9
      refine lv_iconst (v := 1) hx hb dX2_onRing_18 (by decide) ?_
      refine lv_goto (tgt := 23) hx hb dX2_onRing_19 (by decide) ?_
      refine lv_istore_n (lv' := [(3, .int 1), (0, .ref (ad 2)), (1, .int p0), (2, .int p1)]) hx hb dX2_onRing_23 rfl hl (by decide) rfl (fun ls hl => ?_)
      refine lv_iload_n hx hb dX2_onRing_24 rfl (lv_at hl 0 rfl) ?_
      refine lv_if_eq (tgt := 56) hx hb dX2_onRing_25 (by decide) (fun q => absurd q (by decide)) (fun _ => ?_)
      refine lv_iload_n hx hb dX2_onRing_28 rfl (lv_at hl 3 rfl) ?_
      refine lv_if_lt (tgt := 56) hx hb dX2_onRing_29 (by decide) (fun c12 => ?_) (fun c12 => ?_)
      · skip
        have f13 : p1.toInt < 0 := b_lt rfl (by decide) c12
        refine lv_iconst (v := (-1)) hx hb dX2_onRing_56 (by decide) ?_
        exact W.iret (v := (-1)) hx hb hr (fun t ht hW => ⟨⟨(-1), (), rfl, trivial, by rw [ht]; exact hP, va_K.moved hW.alike hK, hD⟩, hS.F ht⟩) hS.2.2 dX2_onRing_57
      · skip
        have f14 : 0 ≤ p1.toInt := b_nlt rfl (by decide) c12
        refine lv_iload_n hx hb dX2_onRing_32 rfl (lv_at hl 3 rfl) ?_
        refine lv_aload_n hx hb dX2_onRing_33 rfl (lv_at hl 1 rfl) ?_
        refine va_get (D := D) (ci := 2) (v := .ref (ad 14)) (fs := (xfChecker ad V L Z)) (C := RX2) (T := TX2) (N := 8) hx hb hg inX2 hown hK hP 2 xgChecker rfl 2 (by decide) (hg _ w340) (fun _ h9 => h9) rfl dX2_onRing_34 ?_
        refine lv_iload_n hx hb dX2_onRing_37 rfl (lv_at hl 2 rfl) ?_
        refine va_iald (D := D) (i := p0) hx hb hK hP 14 7 rfl rfl (i_in (a := p0.toInt) rfl (by first | omega | ((try (have i_t4 := Imp.go t4 (by omega))); omega))) dX2_onRing_38 ?_
        have r15 : (-100) ≤ ((V 17 (Int32.toNatClampNeg p0))).toInt ∧ ((V 17 (Int32.toNatClampNeg p0))).toInt ≤ 24 := hMV 17 (Int32.toNatClampNeg p0)
        refine lv_icmp_ge (tgt := 56) hx hb dX2_onRing_39 (by decide) (fun c16 => ?_) (fun c16 => ?_)
        · skip
          have f17 : ((V 17 (Int32.toNatClampNeg p0))).toInt ≤ p1.toInt := b_le rfl rfl c16
          refine lv_iconst (v := (-1)) hx hb dX2_onRing_56 (by decide) ?_
          exact W.iret (v := (-1)) hx hb hr (fun t ht hW => ⟨⟨(-1), (), rfl, trivial, by rw [ht]; exact hP, va_K.moved hW.alike hK, hD⟩, hS.F ht⟩) hS.2.2 dX2_onRing_57
        · skip
          have f18 : p1.toInt < ((V 17 (Int32.toNatClampNeg p0))).toInt := b_nle rfl rfl c16
          refine lv_aload_n hx hb dX2_onRing_42 rfl (lv_at hl 1 rfl) ?_
          refine va_get (D := D) (ci := 2) (v := .ref (ad 15)) (fs := (xfChecker ad V L Z)) (C := RX2) (T := TX2) (N := 8) hx hb hg inX2 hown hK hP 2 xgChecker rfl 3 (by decide) (hg _ w341) (fun _ h9 => h9) rfl dX2_onRing_43 ?_
          refine lv_iload_n hx hb dX2_onRing_46 rfl (lv_at hl 2 rfl) ?_
          refine lv_bipush (v := 24) hx hb dX2_onRing_47 (by decide) ?_
          refine lv_imul hx hb dX2_onRing_49 ?_
          refine lv_topi (fun z19 ez19 => ?_)
          have hz19 : z19.toInt = p0.toInt * 24 := i_mul ez19 rfl (by decide) (by omega)
          refine lv_iload_n hx hb dX2_onRing_50 rfl (lv_at hl 3 rfl) ?_
          refine lv_iadd hx hb dX2_onRing_51 ?_
          refine lv_topi (fun z20 ez20 => ?_)
          have hz20 : z20.toInt = z19.toInt + p1.toInt := i_add ez20 rfl rfl (by omega)
          refine va_iald (D := D) (i := z20) hx hb hK hP 15 8 rfl rfl (i_in (a := z20.toInt) rfl (by first | omega | ((try (have i_t4 := Imp.go t4 (by omega))); omega))) dX2_onRing_52 ?_
          refine lv_goto (tgt := 57) hx hb dX2_onRing_53 (by decide) ?_
          exact W.iret (v := (V 18 (Int32.toNatClampNeg z20))) hx hb hr (fun t ht hW => ⟨⟨(V 18 (Int32.toNatClampNeg z20)), (), rfl, trivial, by rw [ht]; exact hP, va_K.moved hW.alike hK, hD⟩, hS.F ht⟩) hS.2.2 dX2_onRing_57
abbrev r_x_noteRing : Room := { frames := 1, cells := 0, slots := 0, locals := 23 }
abbrev q_x_noteRing (D : va_G) (ks : KS) (ad : Nat → Nat) (kk : Nat → ClassId) (V : Vf) (L : Lf) (Z : XZ) (p0 : Int32) (p1 : Int32) (A : Nat → Prop) : Array Value → State → Outcome → State → Prop := va_Qv (fun (u : Vf × Lf) => rgd bX u.1 ∧ agr [(2, 7)] [15, 16, 17, 18] V u.1 ∧ u.2 = L ∧ ((u.1 2 7).toInt = (V 2 7).toInt + 1)) (fun u t => gq D A (xw ad kk u.1 u.2 Z) (xty kk Z) t) A
set_option maxHeartbeats 4000000 in
set_option maxRecDepth 100000 in
theorem x_noteRing (l : Launch) (D : va_G) (ks : KS) (sz : Nat) (ad : Nat → Nat) (kk : Nat → ClassId) (V : Vf) (L : Lf) (Z : XZ) (p0 : Int32) (p1 : Int32) (hMV : rgd bX V) (rg_p0 : 0 ≤ p0.toInt ∧ p0.toInt ≤ 23) (rg_p1 : 0 ≤ p1.toInt ∧ p1.toInt ≤ 23) (y1 : (V 2 7).toInt ≤ 999999)  : Met l yX2_noteRing (Cond.code yX2_noteRing cX2_noteRing 4 none :: GW) r_x_noteRing (va_Pc [.ref (ad 2), .int p0, .int p1] (gp D ks (xw ad kk V L Z) (xty kk Z) sz)) (q_x_noteRing D ks ad kk V L Z p0 p1 (va_A (xw ad kk V L Z) sz)) 0 0 (va_A (xw ad kk V L Z) sz) := by
  refine g_met (q_x_noteRing D ks ad kk V L Z p0 p1) (by decide) (Nat.le_of_ble_eq_true rfl) ?_
  intro p e s m below meth c A ls H locs hx hb hr hml hown hg hlocks hin hnw hgk hP hK hD hS hA hl
  have hown : s.vm.findClass RX2 = some m.cls := hown
  have hl : lv_has ls 4 [(0, .ref (ad 2)), (1, .int p0), (2, .int p1)] := hl
  have hP : va_P D vwCl (xw ad kk V L Z) H := hP
  have hD : va_D A (xw ad kk V L Z) := hD
  have hK : va_K D vwCl (xty kk Z) s := hK
  have agV : agr [(2, 7)] [15, 16, 17, 18] V V := agr.rf
  have r1 : 0 ≤ ((V 2 7)).toInt ∧ ((V 2 7)).toInt ≤ 1000000 := hMV 2 7
  refine lv_aload_n hx hb dX2_noteRing_0 rfl (lv_at hl 0 rfl) ?_
  refine va_get (D := D) (ci := 2) (v := .int (V 2 7)) (fs := (xfChecker ad V L Z)) (C := RX2) (T := TX2) (N := 8) hx hb hg inX2 hown hK hP 2 xgChecker rfl 7 (by decide) (hg _ w345) (fun _ h9 => h9) rfl dX2_noteRing_1 ?_
  refine lv_bipush (v := 100) hx hb dX2_noteRing_4 (by decide) ?_
  refine lv_icmp_ge (tgt := 44) hx hb dX2_noteRing_6 (by decide) (fun c2 => ?_) (fun c2 => ?_)
  · skip
    have f3 : 100 ≤ ((V 2 7)).toInt := b_le (by decide) rfl c2
    refine lv_aload_n hx hb dX2_noteRing_44 rfl (lv_at hl 0 rfl) ?_
    refine lv_iconst (v := 3) hx hb dX2_noteRing_45 (by decide) ?_
    refine lv_aload_n hx hb dX2_noteRing_46 rfl (lv_at hl 0 rfl) ?_
    refine va_get (D := D) (ci := 2) (v := .ref (ad 16)) (fs := (xfChecker ad V L Z)) (C := RX2) (T := TX2) (N := 8) hx hb hg inX2 hown hK hP 2 xgChecker rfl 4 (by decide) (hg _ w342) (fun _ h9 => h9) rfl dX2_noteRing_47 ?_
    refine lv_iload_n hx hb dX2_noteRing_50 rfl (lv_at hl 1 rfl) ?_
    refine va_iald (D := D) (i := p0) hx hb hK hP 16 9 rfl rfl (i_in (a := p0.toInt) rfl (by omega)) dX2_noteRing_51 ?_
    have r4 : 0 ≤ ((V 19 (Int32.toNatClampNeg p0))).toInt ∧ ((V 19 (Int32.toNatClampNeg p0))).toInt ≤ 23 := hMV 19 (Int32.toNatClampNeg p0)
    refine lv_iload_n hx hb dX2_noteRing_52 rfl (lv_at hl 2 rfl) ?_
    refine lv_iload_n hx hb dX2_noteRing_53 rfl (lv_at hl 1 rfl) ?_
    refine lv_isub hx hb dX2_noteRing_54 ?_
    refine lv_topi (fun z5 ez5 => ?_)
    have hz5 : z5.toInt = p1.toInt - p0.toInt := i_sub ez5 rfl rfl (by omega)
    refine lv_iconst (v := 1) hx hb dX2_noteRing_55 (by decide) ?_
    refine lv_iadd hx hb dX2_noteRing_56 ?_
    refine lv_topi (fun z6 ez6 => ?_)
    have hz6 : z6.toInt = z5.toInt + 1 := i_add ez6 rfl (by decide) (by omega)
    have r7 : Int32.toInt 3 = 3 := by decide
    refine gA_void (gA_runV (As := [.int 3, .int (V 19 (Int32.toNatClampNeg p0)), .int z6]) (rest := []) (ci := 2) (q0 := 2) hx hb hml hown hg hP hD hK hS hA hnw hgk (x_note l D ks H.size ad kk V L Z 3 (V 19 (Int32.toNatClampNeg p0)) z6 hMV (by omega) (show (V 2 7).toInt ≤ 999999 from by omega)) w1096 w1098 w37 w163 w1099 rfl xgChecker hdV_yX2_note ⟨Nat.le_of_ble_eq_true rfl, Nat.le_of_ble_eq_true rfl⟩ rfl hl.1 rfl (Nat.le_of_ble_eq_true rfl) dX2_noteRing_57 ⟨Nat.le_of_ble_eq_true rfl, Nat.le_of_ble_eq_true rfl⟩) hP hD hK hS hA (fun u9 H locs w10 hP hD hK hS => ?_)
    obtain ⟨V12, L13⟩ := u9
    obtain ⟨hMV12, ajV12, axL13, t11⟩ := w10
    have axL13 : L = L13 := Eq.symm axL13
    subst axL13
    have hP : va_P D vwCl (xw ad kk V12 L Z) H := hP
    have hD : va_D A (xw ad kk V12 L Z) := hD
    have hMV12 : rgd bX V12 := hMV12
    have ajV12 : agr [(2, 7)] [15, 16, 17] V V12 := ajV12
    have agV12 : agr [(2, 7)] [15, 16, 17, 18] V V12 := agV.tr ajV12 (by decide) (by decide)
    have t11 : (V12 2 7).toInt = (V 2 7).toInt + 1 := t11
    have r14 : 0 ≤ ((V12 2 7)).toInt ∧ ((V12 2 7)).toInt ≤ 1000000 := hMV12 2 7
    exact W.vret hx hb hr (fun t ht hW => ⟨⟨(V12, L), rfl, ⟨hMV12, agV12, rfl, (show (V12 2 7).toInt = (V 2 7).toInt + 1 from by omega)⟩, by rw [ht]; exact hP, va_K.moved hW.alike hK, hD⟩, hS.F ht⟩) hS.2.2 dX2_noteRing_60
  · skip
    have f15 : ((V 2 7)).toInt < 100 := b_nle (by decide) rfl c2
    refine lv_iload_n hx hb dX2_noteRing_9 rfl (lv_at hl 1 rfl) ?_
    refine lv_istore_n (lv' := [(3, .int p0), (0, .ref (ad 2)), (1, .int p0), (2, .int p1)]) hx hb dX2_noteRing_10 rfl hl (by decide) rfl (fun ls hl => ?_)
    have lp18 : ∀ (fulp18 : Nat) (y16 : Int32) (V17 : Vf) (H : Heap) (locs : List Loc) (ls : Array Slot), 0 ≤ y16.toInt ∧ y16.toInt ≤ 24 → p0.toInt ≤ y16.toInt → 24 - y16.toInt < (fulp18 : Int) → agr [] [18] V V17 → rgd bX V17 → va_P D vwCl (xw ad kk V17 L Z) H → va_D A (xw ad kk V17 L Z) → va_S A s.heap H locs → lv_has ls 4 [(3, .int y16), (0, .ref (ad 2)), (1, .int p0), (2, .int p1)] → W p l e r_x_noteRing s m ([.ref (ad 2), .int p0, .int p1] : List Value).toArray below meth c H locs 0 0 (MQ below (q_x_noteRing D ks ad kk V L Z p0 p1 A) ([.ref (ad 2), .int p0, .int p1] : List Value).toArray s 0 0 A) (F0 m 11 ls []) := by
      intro fulp18
      induction fulp18 with
      | zero =>
        intro y16 V17 H locs ls klp18_0 xlp18_0 hn ajV17 hMV17 hP hD hS hl
        exfalso; omega
      | succ fulp18 ihlp18 =>
        intro y16 V17 H locs ls klp18_0 xlp18_0 hn ajV17 hMV17 hP hD hS hl
        have agV17 : agr [(2, 7)] [15, 16, 17, 18] V V17 := agV.tr ajV17 (by decide) (by decide)
        refine lv_iload_n hx hb dX2_noteRing_11 rfl (lv_at hl 0 rfl) ?_
        refine lv_iload_n hx hb dX2_noteRing_12 rfl (lv_at hl 3 rfl) ?_
        refine lv_icmp_gt (tgt := 44) hx hb dX2_noteRing_13 (by decide) (fun c19 => ?_) (fun c19 => ?_)
        · skip
          have f20 : p1.toInt < y16.toInt := b_lt rfl rfl c19
          refine lv_aload_n hx hb dX2_noteRing_44 rfl (lv_at hl 1 rfl) ?_
          refine lv_iconst (v := 3) hx hb dX2_noteRing_45 (by decide) ?_
          refine lv_aload_n hx hb dX2_noteRing_46 rfl (lv_at hl 1 rfl) ?_
          refine va_get (D := D) (ci := 2) (v := .ref (ad 16)) (fs := (xfChecker ad V17 L Z)) (C := RX2) (T := TX2) (N := 8) hx hb hg inX2 hown hK hP 2 xgChecker rfl 4 (by decide) (hg _ w342) (fun _ h9 => h9) rfl dX2_noteRing_47 ?_
          refine lv_iload_n hx hb dX2_noteRing_50 rfl (lv_at hl 2 rfl) ?_
          refine va_iald (D := D) (i := p0) hx hb hK hP 16 9 rfl rfl (i_in (a := p0.toInt) rfl (by omega)) dX2_noteRing_51 ?_
          refine g_top (v := (V 19 (Int32.toNatClampNeg p0))) (ajV17 19 (Int32.toNatClampNeg p0) rfl) ?_
          have r21 : 0 ≤ ((V 19 (Int32.toNatClampNeg p0))).toInt ∧ ((V 19 (Int32.toNatClampNeg p0))).toInt ≤ 23 := hMV 19 (Int32.toNatClampNeg p0)
          refine lv_iload_n hx hb dX2_noteRing_52 rfl (lv_at hl 3 rfl) ?_
          refine lv_iload_n hx hb dX2_noteRing_53 rfl (lv_at hl 2 rfl) ?_
          refine lv_isub hx hb dX2_noteRing_54 ?_
          refine lv_topi (fun z22 ez22 => ?_)
          have hz22 : z22.toInt = p1.toInt - p0.toInt := i_sub ez22 rfl rfl (by omega)
          refine lv_iconst (v := 1) hx hb dX2_noteRing_55 (by decide) ?_
          refine lv_iadd hx hb dX2_noteRing_56 ?_
          refine lv_topi (fun z23 ez23 => ?_)
          have hz23 : z23.toInt = z22.toInt + 1 := i_add ez23 rfl (by decide) (by omega)
          have r24 : Int32.toInt 3 = 3 := by decide
          have pq25 : (V17 2 7).toInt = ((V 2 7)).toInt := congrArg Int32.toInt (ajV17 2 7 rfl)
          refine gA_void (gA_runV (As := [.int 3, .int (V 19 (Int32.toNatClampNeg p0)), .int z23]) (rest := []) (ci := 2) (q0 := 2) hx hb hml hown hg hP hD hK hS hA hnw hgk (x_note l D ks H.size ad kk V17 L Z 3 (V 19 (Int32.toNatClampNeg p0)) z23 hMV17 (by omega) (show (V17 2 7).toInt ≤ 999999 from by omega)) w1096 w1098 w37 w163 w1099 rfl xgChecker hdV_yX2_note ⟨Nat.le_of_ble_eq_true rfl, Nat.le_of_ble_eq_true rfl⟩ rfl hl.1 rfl (Nat.le_of_ble_eq_true rfl) dX2_noteRing_57 ⟨Nat.le_of_ble_eq_true rfl, Nat.le_of_ble_eq_true rfl⟩) hP hD hK hS hA (fun u27 H locs w28 hP hD hK hS => ?_)
          obtain ⟨V30, L31⟩ := u27
          obtain ⟨hMV30, ajV30, axL31, t29⟩ := w28
          have axL31 : L = L31 := Eq.symm axL31
          subst axL31
          have hP : va_P D vwCl (xw ad kk V30 L Z) H := hP
          have hD : va_D A (xw ad kk V30 L Z) := hD
          have hMV30 : rgd bX V30 := hMV30
          have ajV30 : agr [(2, 7)] [15, 16, 17] V17 V30 := ajV30
          have agV30 : agr [(2, 7)] [15, 16, 17, 18] V V30 := agV17.tr ajV30 (by decide) (by decide)
          have t29 : (V30 2 7).toInt = (V17 2 7).toInt + 1 := t29
          have r32 : 0 ≤ ((V30 2 7)).toInt ∧ ((V30 2 7)).toInt ≤ 1000000 := hMV30 2 7
          exact W.vret hx hb hr (fun t ht hW => ⟨⟨(V30, L), rfl, ⟨hMV30, agV30, rfl, (show (V30 2 7).toInt = (V 2 7).toInt + 1 from by omega)⟩, by rw [ht]; exact hP, va_K.moved hW.alike hK, hD⟩, hS.F ht⟩) hS.2.2 dX2_noteRing_60
        · skip
          have f33 : y16.toInt ≤ p1.toInt := b_nlt rfl rfl c19
          refine lv_aload_n hx hb dX2_noteRing_16 rfl (lv_at hl 1 rfl) ?_
          refine va_get (D := D) (ci := 2) (v := .ref (ad 15)) (fs := (xfChecker ad V17 L Z)) (C := RX2) (T := TX2) (N := 8) hx hb hg inX2 hown hK hP 2 xgChecker rfl 3 (by decide) (hg _ w341) (fun _ h9 => h9) rfl dX2_noteRing_17 ?_
          refine lv_aload_n hx hb dX2_noteRing_20 rfl (lv_at hl 1 rfl) ?_
          refine va_get (D := D) (ci := 2) (v := .int (V17 2 7)) (fs := (xfChecker ad V17 L Z)) (C := RX2) (T := TX2) (N := 8) hx hb hg inX2 hown hK hP 2 xgChecker rfl 7 (by decide) (hg _ w345) (fun _ h9 => h9) rfl dX2_noteRing_21 ?_
          refine g_top (v := (V 2 7)) (ajV17 2 7 rfl) ?_
          refine lv_bipush (v := 24) hx hb dX2_noteRing_24 (by decide) ?_
          refine lv_imul hx hb dX2_noteRing_26 ?_
          refine lv_topi (fun z34 ez34 => ?_)
          have hz34 : z34.toInt = ((V 2 7)).toInt * 24 := i_mul ez34 rfl (by decide) (by omega)
          refine lv_iload_n hx hb dX2_noteRing_27 rfl (lv_at hl 0 rfl) ?_
          refine lv_iadd hx hb dX2_noteRing_28 ?_
          refine lv_topi (fun z35 ez35 => ?_)
          have hz35 : z35.toInt = z34.toInt + y16.toInt := i_add ez35 rfl rfl (by omega)
          refine lv_iload_n hx hb dX2_noteRing_29 rfl (lv_at hl 2 rfl) ?_
          refine lv_isub hx hb dX2_noteRing_30 ?_
          refine lv_topi (fun z36 ez36 => ?_)
          have hz36 : z36.toInt = z35.toInt - p0.toInt := i_sub ez36 rfl rfl (by omega)
          refine lv_aload_n hx hb dX2_noteRing_31 rfl (lv_at hl 1 rfl) ?_
          refine va_get (D := D) (ci := 2) (v := .ref (ad 16)) (fs := (xfChecker ad V17 L Z)) (C := RX2) (T := TX2) (N := 8) hx hb hg inX2 hown hK hP 2 xgChecker rfl 4 (by decide) (hg _ w342) (fun _ h9 => h9) rfl dX2_noteRing_32 ?_
          refine lv_iload_n hx hb dX2_noteRing_35 rfl (lv_at hl 0 rfl) ?_
          refine va_iald (D := D) (i := y16) hx hb hK hP 16 9 rfl rfl (i_in (a := y16.toInt) rfl (by omega)) dX2_noteRing_36 ?_
          refine g_top (v := (V 19 (Int32.toNatClampNeg y16))) (ajV17 19 (Int32.toNatClampNeg y16) rfl) ?_
          have r37 : 0 ≤ ((V 19 (Int32.toNatClampNeg y16))).toInt ∧ ((V 19 (Int32.toNatClampNeg y16))).toInt ≤ 23 := hMV 19 (Int32.toNatClampNeg y16)
          refine va_iast (D := D) (i := z36) (x := (V 19 (Int32.toNatClampNeg y16))) hx hb hK hP hD hS 15 8 rfl rfl (i_in (a := z36.toInt) rfl (by omega)) dX2_noteRing_37 (fun H locs hP hD hS => ?_)
          obtain ⟨V38, hV38⟩ : ∃ z, z = up2 V17 18 (Int32.toNatClampNeg z36) (V 19 (Int32.toNatClampNeg y16)) := ⟨_, rfl⟩
          have ew39 : (xw ad kk V17 L Z).set 15 ((ad 15), .inl ((kk 15), 2400, .inl (upd (V17 18) (Int32.toNatClampNeg z36) (V 19 (Int32.toNatClampNeg y16))))) = xw ad kk V38 L Z := by rw [hV38]; exact xw_ss (by decide) rfl (xb_si (by decide))
          have hP : va_P D vwCl (xw ad kk V38 L Z) H := by rw [← ew39]; exact hP
          have hD : va_D A (xw ad kk V38 L Z) := by rw [← ew39]; exact hD
          have hMV38 : rgd bX V38 := hMV17.put hV38 (i_full _)
          have agV38 : agr [(2, 7)] [15, 16, 17, 18] V V38 := agV17.up hV38 rfl
          obtain ⟨z40, ez40⟩ : ∃ y : Int32, y = y16 + 1 := ⟨_, rfl⟩
          have hz40 : z40.toInt = y16.toInt + 1 := i_add ez40 rfl (by decide) (by omega)
          refine lv_iinc (v := z40) (lv' := [(3, .int z40), (0, .ref (ad 2)), (1, .int p0), (2, .int p1)]) hx hb dX2_noteRing_38 hl (k := 0) rfl (by rw [ez40]; rfl) (by decide) rfl (fun ls hl => ?_)
          refine lv_goto (tgt := 11) hx hb dX2_noteRing_41 (by decide) ?_
          exact ihlp18 z40 V38 H locs ls (by omega) (show p0.toInt ≤ z40.toInt from by omega) (by omega) (agr.up (agr.tr agr.rf ajV17 (by decide) (by decide)) hV38 rfl) hMV38 hP hD hS (lv_sub hl [0, 1, 2, 3] rfl)
    exact lp18 ((24 - p0.toInt + 1 : Int).toNat) p0 V H locs ls (by omega) (show p0.toInt ≤ p0.toInt from by omega) (by omega) agr.rf hMV hP hD hS (lv_sub hl [0, 1, 2, 3] rfl)
abbrev r_x_hasShorter : Room := { frames := 0, cells := 0, slots := 0, locals := 0 }
abbrev q_x_hasShorter (D : va_G) (ks : KS) (ad : Nat → Nat) (kk : Nat → ClassId) (V : Vf) (L : Lf) (Z : XZ) (p0 : Int32) (p1 : Int32) (b : Nat) (A : Nat → Prop) : Array Value → State → Outcome → State → Prop := va_Qi (fun (r : Int32) (_ : Unit) => (0 ≤ r.toInt ∧ r.toInt ≤ 1)) (fun _ t => gq D A (xw ad kk V L Z) (xty kk Z) t) A
set_option maxHeartbeats 4000000 in
set_option maxRecDepth 100000 in
theorem x_hasShorter (l : Launch) (D : va_G) (ks : KS) (sz : Nat) (ad : Nat → Nat) (kk : Nat → ClassId) (V : Vf) (L : Lf) (Z : XZ) (p0 : Int32) (p1 : Int32) (b : Nat) (hMV : rgd bX V) (hb2 : b < 2) (cbk : (V 2 6).toInt = (b : Int))  : Met l yX2_hasShorter (Cond.code yX2_hasShorter cX2_hasShorter 6 (some .boolean) :: GW) r_x_hasShorter (va_Pc [.ref (ad 2), .int p0, .int p1] (gp D ks (xw ad kk V L Z) (xty kk Z) sz)) (q_x_hasShorter D ks ad kk V L Z p0 p1 b (va_A (xw ad kk V L Z) sz)) 0 0 (va_A (xw ad kk V L Z) sz) := by
  refine g_met (q_x_hasShorter D ks ad kk V L Z p0 p1 b) (by decide) (Nat.le_of_ble_eq_true rfl) ?_
  intro p e s m below meth c A ls H locs hx hb hr hml hown hg hlocks hin hnw hgk hP hK hD hS hA hl
  have hown : s.vm.findClass RX2 = some m.cls := hown
  have hl : lv_has ls 6 [(0, .ref (ad 2)), (1, .int p0), (2, .int p1)] := hl
  have hP : va_P D vwCl (xw ad kk V L Z) H := hP
  have hD : va_D A (xw ad kk V L Z) := hD
  have hK : va_K D vwCl (xty kk Z) s := hK
  have r1 : (-1) ≤ ((V 2 6)).toInt ∧ ((V 2 6)).toInt ≤ 1 := hMV 2 6
  refine lv_iload_n hx hb dX2_hasShorter_0 rfl (lv_at hl 2 rfl) ?_
  refine lv_iconst (v := 3) hx hb dX2_hasShorter_1 (by decide) ?_
  refine lv_icmp_ne (tgt := 9) hx hb dX2_hasShorter_2 (by decide) (fun c2 => ?_) (fun c2 => ?_)
  · skip
    have f3 : p1.toInt ≠ 3 := b_neq rfl (by decide) c2
    refine lv_iload_n hx hb dX2_hasShorter_9 rfl (lv_at hl 2 rfl) ?_
    refine lv_istore_n (lv' := [(3, .int p1), (0, .ref (ad 2)), (1, .int p0), (2, .int p1)]) hx hb dX2_hasShorter_10 rfl hl (by decide) rfl (fun ls hl => ?_)
    refine lv_iconst (v := 0) hx hb dX2_hasShorter_11 (by decide) ?_
    refine lv_istore (lv' := [(4, .int 0), (3, .int p1), (0, .ref (ad 2)), (1, .int p0), (2, .int p1)]) hx hb dX2_hasShorter_12 hl (by decide) rfl (fun ls hl => ?_)
    have lp5 : ∀ (fulp5 : Nat) (y4 : Int32) (H : Heap) (locs : List Loc) (ls : Array Slot), 0 ≤ y4.toInt ∧ y4.toInt ≤ 24 → 24 - y4.toInt < (fulp5 : Int) → va_P D vwCl (xw ad kk V L Z) H → va_D A (xw ad kk V L Z) → va_S A s.heap H locs → lv_has ls 6 [(4, .int y4), (3, .int p1), (0, .ref (ad 2)), (1, .int p0), (2, .int p1)] → W p l e r_x_hasShorter s m ([.ref (ad 2), .int p0, .int p1] : List Value).toArray below meth c H locs 0 0 (MQ below (q_x_hasShorter D ks ad kk V L Z p0 p1 b A) ([.ref (ad 2), .int p0, .int p1] : List Value).toArray s 0 0 A) (F0 m 14 ls []) := by
      intro fulp5
      induction fulp5 with
      | zero =>
        intro y4 H locs ls klp5_0 hn  hP hD hS hl
        exfalso; omega
      | succ fulp5 ihlp5 =>
        intro y4 H locs ls klp5_0 hn  hP hD hS hl
        refine lv_iload hx hb dX2_hasShorter_14 (lv_at hl 0 rfl) ?_
        refine lv_aload_n hx hb dX2_hasShorter_16 rfl (lv_at hl 2 rfl) ?_
        refine va_get (D := D) (ci := 2) (v := rfN ad 38 (V 2 6)) (fs := (xfChecker ad V L Z)) (C := RX2) (T := TX2) (N := 8) hx hb hg inX2 hown hK hP 2 xgChecker rfl 6 (by decide) (hg _ w344) (fun _ h9 => h9) rfl dX2_hasShorter_17 ?_
        refine g_topv (v := .ref (ad (38 + b))) (rfN_r (by omega)) ?_
        refine va_getN (D := D) (ci := 0) (v := .ref (ad (40 + (5 * b + 2)))) (fs := (xfBook ad V b)) (C := RX0) (T := TX0) (N := 13) hx hb hg inX0 hown hK hP (38 + b) (xgBook hb2) rfl 2 (by decide) (hnw.use 600 n600 rfl) (fun _ h9 => h9) rfl dX2_hasShorter_20 ?_
        have il6 : (5 * b + 2) < 10 := by omega
        refine va_getN (D := D) (ci := 6) (v := .int (V 43 (5 * b + 2))) (fs := (xfNames ad V (5 * b + 2))) (C := RX6) (T := TX6) (N := 2) hx hb hg inX6 hown hK hP (40 + (5 * b + 2)) (xgNames il6) rfl 1 (by decide) (hnw.use 482 n482 rfl) (fun _ h9 => h9) rfl dX2_hasShorter_23 ?_
        have r7 : 0 ≤ ((V 43 (5 * b + 2))).toInt ∧ ((V 43 (5 * b + 2))).toInt ≤ ((xcap (5 * b + 2) : Nat) : Int) := hMV 43 (5 * b + 2)
        have r8 : xcap (5 * b + 2) = 24 := xcap_2
        refine lv_icmp_ge (tgt := 73) hx hb dX2_hasShorter_26 (by decide) (fun c9 => ?_) (fun c9 => ?_)
        · skip
          have f10 : ((V 43 (5 * b + 2))).toInt ≤ y4.toInt := b_le rfl rfl c9
          refine lv_iconst (v := 0) hx hb dX2_hasShorter_73 (by decide) ?_
          exact W.zret (v := 0) hx hb hr rfl (fun t ht hW => ⟨⟨0, (), rfl, (by decide), by rw [ht]; exact hP, va_K.moved hW.alike hK, hD⟩, hS.F ht⟩) hS.2.2 dX2_hasShorter_74
        · skip
          have f11 : y4.toInt < ((V 43 (5 * b + 2))).toInt := b_nle rfl rfl c9
          refine lv_aload_n hx hb dX2_hasShorter_29 rfl (lv_at hl 2 rfl) ?_
          refine va_get (D := D) (ci := 2) (v := rfN ad 38 (V 2 6)) (fs := (xfChecker ad V L Z)) (C := RX2) (T := TX2) (N := 8) hx hb hg inX2 hown hK hP 2 xgChecker rfl 6 (by decide) (hg _ w344) (fun _ h9 => h9) rfl dX2_hasShorter_30 ?_
          refine g_topv (v := .ref (ad (38 + b))) (rfN_r (by omega)) ?_
          refine va_getN (D := D) (ci := 0) (v := .ref (ad (64 + b))) (fs := (xfBook ad V b)) (C := RX0) (T := TX0) (N := 13) hx hb hg inX0 hown hK hP (38 + b) (xgBook hb2) rfl 7 (by decide) (hnw.use 615 n615 rfl) (fun _ h9 => h9) rfl dX2_hasShorter_33 ?_
          refine lv_iload hx hb dX2_hasShorter_36 (lv_at hl 0 rfl) ?_
          have il12 : b < 2 := by omega
          refine va_aldq (D := D) (i := y4) hx hb hK hP (64 + b) (57 + b) (xgcomps il12) (xtcomps il12) (i_in (a := y4.toInt) rfl (by omega)) dX2_hasShorter_38 ?_
          have kc13 := i_clamp (x := y4) rfl (by omega)
          refine g_topv (v := .ref (ad (72 + (24 * b + (Int32.toNatClampNeg y4))))) (congrArg va_rf (if_pos (by omega))) ?_
          have il14 : (24 * b + (Int32.toNatClampNeg y4)) < 48 := by omega
          refine va_getN (D := D) (ci := 3) (v := .int (V 51 (24 * b + (Int32.toNatClampNeg y4)))) (fs := (xfComp ad V (24 * b + (Int32.toNatClampNeg y4)))) (C := RX3) (T := TX3) (N := 13) hx hb hg inX3 hown hK hP (72 + (24 * b + (Int32.toNatClampNeg y4))) (xgComp il14) rfl 6 (by decide) (hnw.use 519 n519 rfl) (fun _ h9 => h9) rfl dX2_hasShorter_39 ?_
          have r15 : 0 ≤ ((V 51 (24 * b + (Int32.toNatClampNeg y4)))).toInt ∧ ((V 51 (24 * b + (Int32.toNatClampNeg y4)))).toInt ≤ 3 := hMV 51 (24 * b + (Int32.toNatClampNeg y4))
          refine lv_istore (lv' := [(5, .int (V 51 (24 * b + (Int32.toNatClampNeg y4)))), (4, .int y4), (3, .int p1), (0, .ref (ad 2)), (1, .int p0), (2, .int p1)]) hx hb dX2_hasShorter_42 hl (by decide) rfl (fun ls hl => ?_)
          refine lv_iload_n hx hb dX2_hasShorter_44 rfl (lv_at hl 4 rfl) ?_
          refine lv_iload hx hb dX2_hasShorter_45 (lv_at hl 1 rfl) ?_
          refine lv_ishr hx hb dX2_hasShorter_47 ?_
          refine lv_topi (fun z16 ez16 => ?_)
          refine lv_iconst (v := 1) hx hb dX2_hasShorter_48 (by decide) ?_
          refine lv_iand hx hb dX2_hasShorter_49 ?_
          refine lv_topi (fun z17 ez17 => ?_)
          have hz17 : 0 ≤ z17.toInt ∧ z17.toInt ≤ 1 := and_m ez17 (by decide)
          refine lv_if_eq (tgt := 67) hx hb dX2_hasShorter_50 (by decide) (fun c18 => ?_) (fun c18 => ?_)
          · skip
            have f19 : z17.toInt = 0 := b_eq rfl (by decide) c18
            obtain ⟨z20, ez20⟩ : ∃ y : Int32, y = y4 + 1 := ⟨_, rfl⟩
            have hz20 : z20.toInt = y4.toInt + 1 := i_add ez20 rfl (by decide) (by omega)
            refine lv_iinc (v := z20) (lv' := [(4, .int z20), (5, .int (V 51 (24 * b + (Int32.toNatClampNeg y4)))), (3, .int p1), (0, .ref (ad 2)), (1, .int p0), (2, .int p1)]) hx hb dX2_hasShorter_67 hl (k := 1) rfl (by rw [ez20]; rfl) (by decide) rfl (fun ls hl => ?_)
            refine lv_goto (tgt := 14) hx hb dX2_hasShorter_70 (by decide) ?_
            exact ihlp5 z20 H locs ls (by omega) (by omega) hP hD hS (lv_sub hl [0, 2, 3, 4, 5] rfl)
          · skip
            have f21 : z17.toInt ≠ 0 := b_neq rfl (by decide) c18
            refine lv_iload hx hb dX2_hasShorter_53 (lv_at hl 0 rfl) ?_
            refine lv_iconst (v := 3) hx hb dX2_hasShorter_55 (by decide) ?_
            refine lv_icmp_eq (tgt := 67) hx hb dX2_hasShorter_56 (by decide) (fun c22 => ?_) (fun c22 => ?_)
            · skip
              have f23 : ((V 51 (24 * b + (Int32.toNatClampNeg y4)))).toInt = 3 := b_eq rfl (by decide) c22
              obtain ⟨z24, ez24⟩ : ∃ y : Int32, y = y4 + 1 := ⟨_, rfl⟩
              have hz24 : z24.toInt = y4.toInt + 1 := i_add ez24 rfl (by decide) (by omega)
              refine lv_iinc (v := z24) (lv' := [(4, .int z24), (5, .int (V 51 (24 * b + (Int32.toNatClampNeg y4)))), (3, .int p1), (0, .ref (ad 2)), (1, .int p0), (2, .int p1)]) hx hb dX2_hasShorter_67 hl (k := 1) rfl (by rw [ez24]; rfl) (by decide) rfl (fun ls hl => ?_)
              refine lv_goto (tgt := 14) hx hb dX2_hasShorter_70 (by decide) ?_
              exact ihlp5 z24 H locs ls (by omega) (by omega) hP hD hS (lv_sub hl [0, 2, 3, 4, 5] rfl)
            · skip
              have f25 : ((V 51 (24 * b + (Int32.toNatClampNeg y4)))).toInt ≠ 3 := b_neq rfl (by decide) c22
              refine lv_iload hx hb dX2_hasShorter_59 (lv_at hl 0 rfl) ?_
              refine lv_iload_n hx hb dX2_hasShorter_61 rfl (lv_at hl 2 rfl) ?_
              refine lv_icmp_le (tgt := 67) hx hb dX2_hasShorter_62 (by decide) (fun c26 => ?_) (fun c26 => ?_)
              · skip
                have f27 : ((V 51 (24 * b + (Int32.toNatClampNeg y4)))).toInt ≤ p1.toInt := b_le rfl rfl c26
                obtain ⟨z28, ez28⟩ : ∃ y : Int32, y = y4 + 1 := ⟨_, rfl⟩
                have hz28 : z28.toInt = y4.toInt + 1 := i_add ez28 rfl (by decide) (by omega)
                refine lv_iinc (v := z28) (lv' := [(4, .int z28), (5, .int (V 51 (24 * b + (Int32.toNatClampNeg y4)))), (3, .int p1), (0, .ref (ad 2)), (1, .int p0), (2, .int p1)]) hx hb dX2_hasShorter_67 hl (k := 1) rfl (by rw [ez28]; rfl) (by decide) rfl (fun ls hl => ?_)
                refine lv_goto (tgt := 14) hx hb dX2_hasShorter_70 (by decide) ?_
                exact ihlp5 z28 H locs ls (by omega) (by omega) hP hD hS (lv_sub hl [0, 2, 3, 4, 5] rfl)
              · skip
                have f29 : p1.toInt < ((V 51 (24 * b + (Int32.toNatClampNeg y4)))).toInt := b_nle rfl rfl c26
                refine lv_iconst (v := 1) hx hb dX2_hasShorter_65 (by decide) ?_
                exact W.zret (v := 1) hx hb hr rfl (fun t ht hW => ⟨⟨1, (), rfl, (by decide), by rw [ht]; exact hP, va_K.moved hW.alike hK, hD⟩, hS.F ht⟩) hS.2.2 dX2_hasShorter_66
    have r30 : Int32.toInt 0 = 0 := by decide
    exact lp5 ((24 - (Int32.toInt 0) + 1 : Int).toNat) 0 H locs ls (by decide) (by omega) hP hD hS (lv_sub hl [0, 1, 2, 3, 4] rfl)
  · skip
    have f31 : p1.toInt = 3 := b_eq rfl (by decide) c2
    refine lv_iconst (v := 2) hx hb dX2_hasShorter_5 (by decide) ?_
    refine lv_goto (tgt := 10) hx hb dX2_hasShorter_6 (by decide) ?_
    refine lv_istore_n (lv' := [(3, .int 2), (0, .ref (ad 2)), (1, .int p0), (2, .int p1)]) hx hb dX2_hasShorter_10 rfl hl (by decide) rfl (fun ls hl => ?_)
    refine lv_iconst (v := 0) hx hb dX2_hasShorter_11 (by decide) ?_
    refine lv_istore (lv' := [(4, .int 0), (3, .int 2), (0, .ref (ad 2)), (1, .int p0), (2, .int p1)]) hx hb dX2_hasShorter_12 hl (by decide) rfl (fun ls hl => ?_)
    have lp33 : ∀ (fulp33 : Nat) (y32 : Int32) (H : Heap) (locs : List Loc) (ls : Array Slot), 0 ≤ y32.toInt ∧ y32.toInt ≤ 24 → 24 - y32.toInt < (fulp33 : Int) → va_P D vwCl (xw ad kk V L Z) H → va_D A (xw ad kk V L Z) → va_S A s.heap H locs → lv_has ls 6 [(4, .int y32), (3, .int 2), (0, .ref (ad 2)), (1, .int p0), (2, .int p1)] → W p l e r_x_hasShorter s m ([.ref (ad 2), .int p0, .int p1] : List Value).toArray below meth c H locs 0 0 (MQ below (q_x_hasShorter D ks ad kk V L Z p0 p1 b A) ([.ref (ad 2), .int p0, .int p1] : List Value).toArray s 0 0 A) (F0 m 14 ls []) := by
      intro fulp33
      induction fulp33 with
      | zero =>
        intro y32 H locs ls klp33_0 hn  hP hD hS hl
        exfalso; omega
      | succ fulp33 ihlp33 =>
        intro y32 H locs ls klp33_0 hn  hP hD hS hl
        refine lv_iload hx hb dX2_hasShorter_14 (lv_at hl 0 rfl) ?_
        refine lv_aload_n hx hb dX2_hasShorter_16 rfl (lv_at hl 2 rfl) ?_
        refine va_get (D := D) (ci := 2) (v := rfN ad 38 (V 2 6)) (fs := (xfChecker ad V L Z)) (C := RX2) (T := TX2) (N := 8) hx hb hg inX2 hown hK hP 2 xgChecker rfl 6 (by decide) (hg _ w344) (fun _ h9 => h9) rfl dX2_hasShorter_17 ?_
        refine g_topv (v := .ref (ad (38 + b))) (rfN_r (by omega)) ?_
        refine va_getN (D := D) (ci := 0) (v := .ref (ad (40 + (5 * b + 2)))) (fs := (xfBook ad V b)) (C := RX0) (T := TX0) (N := 13) hx hb hg inX0 hown hK hP (38 + b) (xgBook hb2) rfl 2 (by decide) (hnw.use 600 n600 rfl) (fun _ h9 => h9) rfl dX2_hasShorter_20 ?_
        have il34 : (5 * b + 2) < 10 := by omega
        refine va_getN (D := D) (ci := 6) (v := .int (V 43 (5 * b + 2))) (fs := (xfNames ad V (5 * b + 2))) (C := RX6) (T := TX6) (N := 2) hx hb hg inX6 hown hK hP (40 + (5 * b + 2)) (xgNames il34) rfl 1 (by decide) (hnw.use 482 n482 rfl) (fun _ h9 => h9) rfl dX2_hasShorter_23 ?_
        have r35 : 0 ≤ ((V 43 (5 * b + 2))).toInt ∧ ((V 43 (5 * b + 2))).toInt ≤ ((xcap (5 * b + 2) : Nat) : Int) := hMV 43 (5 * b + 2)
        have r36 : xcap (5 * b + 2) = 24 := xcap_2
        refine lv_icmp_ge (tgt := 73) hx hb dX2_hasShorter_26 (by decide) (fun c37 => ?_) (fun c37 => ?_)
        · skip
          have f38 : ((V 43 (5 * b + 2))).toInt ≤ y32.toInt := b_le rfl rfl c37
          refine lv_iconst (v := 0) hx hb dX2_hasShorter_73 (by decide) ?_
          exact W.zret (v := 0) hx hb hr rfl (fun t ht hW => ⟨⟨0, (), rfl, (by decide), by rw [ht]; exact hP, va_K.moved hW.alike hK, hD⟩, hS.F ht⟩) hS.2.2 dX2_hasShorter_74
        · skip
          have f39 : y32.toInt < ((V 43 (5 * b + 2))).toInt := b_nle rfl rfl c37
          refine lv_aload_n hx hb dX2_hasShorter_29 rfl (lv_at hl 2 rfl) ?_
          refine va_get (D := D) (ci := 2) (v := rfN ad 38 (V 2 6)) (fs := (xfChecker ad V L Z)) (C := RX2) (T := TX2) (N := 8) hx hb hg inX2 hown hK hP 2 xgChecker rfl 6 (by decide) (hg _ w344) (fun _ h9 => h9) rfl dX2_hasShorter_30 ?_
          refine g_topv (v := .ref (ad (38 + b))) (rfN_r (by omega)) ?_
          refine va_getN (D := D) (ci := 0) (v := .ref (ad (64 + b))) (fs := (xfBook ad V b)) (C := RX0) (T := TX0) (N := 13) hx hb hg inX0 hown hK hP (38 + b) (xgBook hb2) rfl 7 (by decide) (hnw.use 615 n615 rfl) (fun _ h9 => h9) rfl dX2_hasShorter_33 ?_
          refine lv_iload hx hb dX2_hasShorter_36 (lv_at hl 0 rfl) ?_
          have il40 : b < 2 := by omega
          refine va_aldq (D := D) (i := y32) hx hb hK hP (64 + b) (57 + b) (xgcomps il40) (xtcomps il40) (i_in (a := y32.toInt) rfl (by omega)) dX2_hasShorter_38 ?_
          have kc41 := i_clamp (x := y32) rfl (by omega)
          refine g_topv (v := .ref (ad (72 + (24 * b + (Int32.toNatClampNeg y32))))) (congrArg va_rf (if_pos (by omega))) ?_
          have il42 : (24 * b + (Int32.toNatClampNeg y32)) < 48 := by omega
          refine va_getN (D := D) (ci := 3) (v := .int (V 51 (24 * b + (Int32.toNatClampNeg y32)))) (fs := (xfComp ad V (24 * b + (Int32.toNatClampNeg y32)))) (C := RX3) (T := TX3) (N := 13) hx hb hg inX3 hown hK hP (72 + (24 * b + (Int32.toNatClampNeg y32))) (xgComp il42) rfl 6 (by decide) (hnw.use 519 n519 rfl) (fun _ h9 => h9) rfl dX2_hasShorter_39 ?_
          have r43 : 0 ≤ ((V 51 (24 * b + (Int32.toNatClampNeg y32)))).toInt ∧ ((V 51 (24 * b + (Int32.toNatClampNeg y32)))).toInt ≤ 3 := hMV 51 (24 * b + (Int32.toNatClampNeg y32))
          refine lv_istore (lv' := [(5, .int (V 51 (24 * b + (Int32.toNatClampNeg y32)))), (4, .int y32), (3, .int 2), (0, .ref (ad 2)), (1, .int p0), (2, .int p1)]) hx hb dX2_hasShorter_42 hl (by decide) rfl (fun ls hl => ?_)
          refine lv_iload_n hx hb dX2_hasShorter_44 rfl (lv_at hl 4 rfl) ?_
          refine lv_iload hx hb dX2_hasShorter_45 (lv_at hl 1 rfl) ?_
          refine lv_ishr hx hb dX2_hasShorter_47 ?_
          refine lv_topi (fun z44 ez44 => ?_)
          refine lv_iconst (v := 1) hx hb dX2_hasShorter_48 (by decide) ?_
          refine lv_iand hx hb dX2_hasShorter_49 ?_
          refine lv_topi (fun z45 ez45 => ?_)
          have hz45 : 0 ≤ z45.toInt ∧ z45.toInt ≤ 1 := and_m ez45 (by decide)
          refine lv_if_eq (tgt := 67) hx hb dX2_hasShorter_50 (by decide) (fun c46 => ?_) (fun c46 => ?_)
          · skip
            have f47 : z45.toInt = 0 := b_eq rfl (by decide) c46
            obtain ⟨z48, ez48⟩ : ∃ y : Int32, y = y32 + 1 := ⟨_, rfl⟩
            have hz48 : z48.toInt = y32.toInt + 1 := i_add ez48 rfl (by decide) (by omega)
            refine lv_iinc (v := z48) (lv' := [(4, .int z48), (5, .int (V 51 (24 * b + (Int32.toNatClampNeg y32)))), (3, .int 2), (0, .ref (ad 2)), (1, .int p0), (2, .int p1)]) hx hb dX2_hasShorter_67 hl (k := 1) rfl (by rw [ez48]; rfl) (by decide) rfl (fun ls hl => ?_)
            refine lv_goto (tgt := 14) hx hb dX2_hasShorter_70 (by decide) ?_
            have r49 : Int32.toInt 2 = 2 := by decide
            exact ihlp33 z48 H locs ls (by omega) (by omega) hP hD hS (lv_sub hl [0, 2, 3, 4, 5] rfl)
          · skip
            have f50 : z45.toInt ≠ 0 := b_neq rfl (by decide) c46
            refine lv_iload hx hb dX2_hasShorter_53 (lv_at hl 0 rfl) ?_
            refine lv_iconst (v := 3) hx hb dX2_hasShorter_55 (by decide) ?_
            refine lv_icmp_eq (tgt := 67) hx hb dX2_hasShorter_56 (by decide) (fun c51 => ?_) (fun c51 => ?_)
            · skip
              have f52 : ((V 51 (24 * b + (Int32.toNatClampNeg y32)))).toInt = 3 := b_eq rfl (by decide) c51
              obtain ⟨z53, ez53⟩ : ∃ y : Int32, y = y32 + 1 := ⟨_, rfl⟩
              have hz53 : z53.toInt = y32.toInt + 1 := i_add ez53 rfl (by decide) (by omega)
              refine lv_iinc (v := z53) (lv' := [(4, .int z53), (5, .int (V 51 (24 * b + (Int32.toNatClampNeg y32)))), (3, .int 2), (0, .ref (ad 2)), (1, .int p0), (2, .int p1)]) hx hb dX2_hasShorter_67 hl (k := 1) rfl (by rw [ez53]; rfl) (by decide) rfl (fun ls hl => ?_)
              refine lv_goto (tgt := 14) hx hb dX2_hasShorter_70 (by decide) ?_
              have r54 : Int32.toInt 2 = 2 := by decide
              exact ihlp33 z53 H locs ls (by omega) (by omega) hP hD hS (lv_sub hl [0, 2, 3, 4, 5] rfl)
            · skip
              have f55 : ((V 51 (24 * b + (Int32.toNatClampNeg y32)))).toInt ≠ 3 := b_neq rfl (by decide) c51
              refine lv_iload hx hb dX2_hasShorter_59 (lv_at hl 0 rfl) ?_
              refine lv_iload_n hx hb dX2_hasShorter_61 rfl (lv_at hl 2 rfl) ?_
              refine lv_icmp_le (tgt := 67) hx hb dX2_hasShorter_62 (by decide) (fun c56 => ?_) (fun c56 => ?_)
              · skip
                have f57 : ((V 51 (24 * b + (Int32.toNatClampNeg y32)))).toInt ≤ 2 := b_le rfl (by decide) c56
                obtain ⟨z58, ez58⟩ : ∃ y : Int32, y = y32 + 1 := ⟨_, rfl⟩
                have hz58 : z58.toInt = y32.toInt + 1 := i_add ez58 rfl (by decide) (by omega)
                refine lv_iinc (v := z58) (lv' := [(4, .int z58), (5, .int (V 51 (24 * b + (Int32.toNatClampNeg y32)))), (3, .int 2), (0, .ref (ad 2)), (1, .int p0), (2, .int p1)]) hx hb dX2_hasShorter_67 hl (k := 1) rfl (by rw [ez58]; rfl) (by decide) rfl (fun ls hl => ?_)
                refine lv_goto (tgt := 14) hx hb dX2_hasShorter_70 (by decide) ?_
                have r59 : Int32.toInt 2 = 2 := by decide
                exact ihlp33 z58 H locs ls (by omega) (by omega) hP hD hS (lv_sub hl [0, 2, 3, 4, 5] rfl)
              · skip
                have f60 : 2 < ((V 51 (24 * b + (Int32.toNatClampNeg y32)))).toInt := b_nle rfl (by decide) c56
                exfalso; omega
    have r61 : Int32.toInt 0 = 0 := by decide
    have r62 : Int32.toInt 2 = 2 := by decide
    exact lp33 ((24 - (Int32.toInt 0) + 1 : Int).toNat) 0 H locs ls (by decide) (by omega) hP hD hS (lv_sub hl [0, 1, 2, 3, 4] rfl)
abbrev r_x_faultOf : Room := { frames := 2, cells := 0, slots := 0, locals := 53 }
abbrev q_x_faultOf (D : va_G) (ks : KS) (ad : Nat → Nat) (kk : Nat → ClassId) (V : Vf) (L : Lf) (Z : XZ) (p0 : Int32) (p1 : Int32) (b : Nat) (A : Nat → Prop) : Array Value → State → Outcome → State → Prop := va_Qi (fun (r : Int32) (_ : Unit) => True) (fun _ t => gq D A (xw ad kk V L Z) (xty kk Z) t) A
set_option maxHeartbeats 4000000 in
set_option maxRecDepth 100000 in
theorem x_faultOf (l : Launch) (D : va_G) (ks : KS) (sz : Nat) (ad : Nat → Nat) (kk : Nat → ClassId) (V : Vf) (L : Lf) (Z : XZ) (p0 : Int32) (p1 : Int32) (b : Nat) (hMV : rgd bX V) (rg_p0 : 0 ≤ p0.toInt ∧ p0.toInt ≤ 23) (rg_p1 : 0 ≤ p1.toInt ∧ p1.toInt ≤ 7) (hb2 : b < 2) (cbk : (V 2 6).toInt = (b : Int))  : Met l yX2_faultOf (Cond.code yX2_faultOf cX2_faultOf 6 (some .int) :: GW) r_x_faultOf (va_Pc [.ref (ad 2), .int p0, .int p1] (gp D ks (xw ad kk V L Z) (xty kk Z) sz)) (q_x_faultOf D ks ad kk V L Z p0 p1 b (va_A (xw ad kk V L Z) sz)) 0 0 (va_A (xw ad kk V L Z) sz) := by
  refine g_met (q_x_faultOf D ks ad kk V L Z p0 p1 b) (by decide) (Nat.le_of_ble_eq_true rfl) ?_
  intro p e s m below meth c A ls H locs hx hb hr hml hown hg hlocks hin hnw hgk hP hK hD hS hA hl
  have hown : s.vm.findClass RX2 = some m.cls := hown
  have hl : lv_has ls 6 [(0, .ref (ad 2)), (1, .int p0), (2, .int p1)] := hl
  have hP : va_P D vwCl (xw ad kk V L Z) H := hP
  have hD : va_D A (xw ad kk V L Z) := hD
  have hK : va_K D vwCl (xty kk Z) s := hK
  have r1 : (-1) ≤ ((V 2 6)).toInt ∧ ((V 2 6)).toInt ≤ 1 := hMV 2 6
  refine lv_aload_n hx hb dX2_faultOf_0 rfl (lv_at hl 0 rfl) ?_
  refine va_get (D := D) (ci := 2) (v := rfN ad 38 (V 2 6)) (fs := (xfChecker ad V L Z)) (C := RX2) (T := TX2) (N := 8) hx hb hg inX2 hown hK hP 2 xgChecker rfl 6 (by decide) (hg _ w344) (fun _ h9 => h9) rfl dX2_faultOf_1 ?_
  refine g_topv (v := .ref (ad (38 + b))) (rfN_r (by omega)) ?_
  refine va_getN (D := D) (ci := 0) (v := .ref (ad (64 + b))) (fs := (xfBook ad V b)) (C := RX0) (T := TX0) (N := 13) hx hb hg inX0 hown hK hP (38 + b) (xgBook hb2) rfl 7 (by decide) (hnw.use 615 n615 rfl) (fun _ h9 => h9) rfl dX2_faultOf_4 ?_
  refine lv_iload_n hx hb dX2_faultOf_7 rfl (lv_at hl 1 rfl) ?_
  have il2 : b < 2 := by omega
  refine va_aldq (D := D) (i := p0) hx hb hK hP (64 + b) (57 + b) (xgcomps il2) (xtcomps il2) (i_in (a := p0.toInt) rfl (by omega)) dX2_faultOf_8 ?_
  have kc3 := i_clamp (x := p0) rfl (by omega)
  refine g_topv (v := .ref (ad (72 + (24 * b + (Int32.toNatClampNeg p0))))) (congrArg va_rf (if_pos (by omega))) ?_
  have il4 : (24 * b + (Int32.toNatClampNeg p0)) < 48 := by omega
  refine lv_astore_n (lv' := [(3, .ref (ad (72 + (24 * b + (Int32.toNatClampNeg p0))))), (0, .ref (ad 2)), (1, .int p0), (2, .int p1)]) hx hb dX2_faultOf_9 rfl hl (by decide) rfl (fun ls hl => ?_)
  refine lv_aload_n hx hb dX2_faultOf_10 rfl (lv_at hl 0 rfl) ?_
  refine va_getN (D := D) (ci := 3) (v := .ref (ad (216 + (24 * b + (Int32.toNatClampNeg p0))))) (fs := (xfComp ad V (24 * b + (Int32.toNatClampNeg p0)))) (C := RX3) (T := TX3) (N := 13) hx hb hg inX3 hown hK hP (72 + (24 * b + (Int32.toNatClampNeg p0))) (xgComp il4) rfl 2 (by decide) (hnw.use 504 n504 rfl) (fun _ h9 => h9) rfl dX2_faultOf_11 ?_
  refine lv_iload_n hx hb dX2_faultOf_14 rfl (lv_at hl 3 rfl) ?_
  have il5 : (24 * b + (Int32.toNatClampNeg p0)) < 48 := by omega
  refine va_iald (D := D) (i := p1) hx hb hK hP (216 + (24 * b + (Int32.toNatClampNeg p0))) (209 + (24 * b + (Int32.toNatClampNeg p0))) (xgneedKinds il5) (xtneedKinds il5) (i_in (a := p1.toInt) rfl (by omega)) dX2_faultOf_15 ?_
  have kc6 := i_clamp (x := p1) rfl (by omega)
  refine g_top (v := V 60 (8 * (24 * b + (Int32.toNatClampNeg p0)) + (Int32.toNatClampNeg p1))) (if_pos (by omega)) ?_
  refine lv_istore (lv' := [(4, .int (V 60 (8 * (24 * b + (Int32.toNatClampNeg p0)) + (Int32.toNatClampNeg p1)))), (3, .ref (ad (72 + (24 * b + (Int32.toNatClampNeg p0))))), (0, .ref (ad 2)), (1, .int p0), (2, .int p1)]) hx hb dX2_faultOf_16 hl (by decide) rfl (fun ls hl => ?_)
  refine lv_aload_n hx hb dX2_faultOf_18 rfl (lv_at hl 2 rfl) ?_
  refine va_get (D := D) (ci := 2) (v := rfN ad 38 (V 2 6)) (fs := (xfChecker ad V L Z)) (C := RX2) (T := TX2) (N := 8) hx hb hg inX2 hown hK hP 2 xgChecker rfl 6 (by decide) (hg _ w344) (fun _ h9 => h9) rfl dX2_faultOf_19 ?_
  refine g_topv (v := .ref (ad (38 + b))) (rfN_r (by omega)) ?_
  refine lv_iload_n hx hb dX2_faultOf_22 rfl (lv_at hl 3 rfl) ?_
  refine lv_iload_n hx hb dX2_faultOf_23 rfl (lv_at hl 4 rfl) ?_
  refine gA_int (gA_runV (As := [.int p0, .int p1]) (rest := []) (ci := 0) (q0 := (38 + b)) hx hb hml hown hg hP hD hK hS hA hnw hgk (x_candidates l D ks H.size ad kk V L Z p0 p1 (b) hMV (by omega) (by omega) (show b < 2 from by omega)) w1081 w1082 w1083 w167 w1084 rfl (xgBook hb2) hdV_yX0_candidates ⟨Nat.le_of_ble_eq_true rfl, Nat.le_of_ble_eq_true rfl⟩ rfl hl.1 rfl (Nat.le_of_ble_eq_true rfl) dX2_faultOf_24 ⟨Nat.le_of_ble_eq_true rfl, Nat.le_of_ble_eq_true rfl⟩) hP hD hK hS hA (fun z7 u8 H locs w9 hP hD hK hS => ?_)
  refine lv_istore (lv' := [(5, .int z7), (4, .int (V 60 (8 * (24 * b + (Int32.toNatClampNeg p0)) + (Int32.toNatClampNeg p1)))), (3, .ref (ad (72 + (24 * b + (Int32.toNatClampNeg p0))))), (0, .ref (ad 2)), (1, .int p0), (2, .int p1)]) hx hb dX2_faultOf_27 hl (by decide) rfl (fun ls hl => ?_)
  refine lv_iload hx hb dX2_faultOf_29 (lv_at hl 1 rfl) ?_
  refine lv_iconst (v := 2) hx hb dX2_faultOf_31 (by decide) ?_
  refine lv_icmp_eq (tgt := 42) hx hb dX2_faultOf_32 (by decide) (fun c10 => ?_) (fun c10 => ?_)
  · skip
    have f11 : ((V 60 (8 * (24 * b + (Int32.toNatClampNeg p0)) + (Int32.toNatClampNeg p1)))).toInt = 2 := b_eq rfl (by decide) c10
    refine lv_iload hx hb dX2_faultOf_42 (lv_at hl 1 rfl) ?_
    refine lv_iconst (v := 2) hx hb dX2_faultOf_44 (by decide) ?_
    refine lv_icmp_eq (tgt := 59) hx hb dX2_faultOf_45 (by decide) (fun c12 => ?_) (fun c12 => ?_)
    · skip
      have f13 : ((V 60 (8 * (24 * b + (Int32.toNatClampNeg p0)) + (Int32.toNatClampNeg p1)))).toInt = 2 := b_eq rfl (by decide) c12
      refine lv_iload hx hb dX2_faultOf_59 (lv_at hl 1 rfl) ?_
      refine lv_iconst (v := 1) hx hb dX2_faultOf_61 (by decide) ?_
      refine lv_icmp_eq (tgt := 82) hx hb dX2_faultOf_62 (by decide) (fun c14 => ?_) (fun c14 => ?_)
      · skip
        have f15 : ((V 60 (8 * (24 * b + (Int32.toNatClampNeg p0)) + (Int32.toNatClampNeg p1)))).toInt = 1 := b_eq rfl (by decide) c14
        exfalso; omega
      · skip
        have f16 : ((V 60 (8 * (24 * b + (Int32.toNatClampNeg p0)) + (Int32.toNatClampNeg p1)))).toInt ≠ 1 := b_neq rfl (by decide) c14
        refine lv_aload_n hx hb dX2_faultOf_65 rfl (lv_at hl 3 rfl) ?_
        refine lv_iload hx hb dX2_faultOf_66 (lv_at hl 0 rfl) ?_
        refine lv_aload_n hx hb dX2_faultOf_68 rfl (lv_at hl 2 rfl) ?_
        refine va_getN (D := D) (ci := 3) (v := .int (V 51 (24 * b + (Int32.toNatClampNeg p0)))) (fs := (xfComp ad V (24 * b + (Int32.toNatClampNeg p0)))) (C := RX3) (T := TX3) (N := 13) hx hb hg inX3 hown hK hP (72 + (24 * b + (Int32.toNatClampNeg p0))) (xgComp il4) rfl 6 (by decide) (hnw.use 519 n519 rfl) (fun _ h9 => h9) rfl dX2_faultOf_69 ?_
        have r17 : 0 ≤ ((V 51 (24 * b + (Int32.toNatClampNeg p0)))).toInt ∧ ((V 51 (24 * b + (Int32.toNatClampNeg p0)))).toInt ≤ 3 := hMV 51 (24 * b + (Int32.toNatClampNeg p0))
        refine gA_int (gA_runV (As := [.int z7, .int (V 51 (24 * b + (Int32.toNatClampNeg p0)))]) (rest := []) (ci := 2) (q0 := 2) hx hb hml hown hg hP hD hK hS hA hnw hgk (x_hasShorter l D ks H.size ad kk V L Z z7 (V 51 (24 * b + (Int32.toNatClampNeg p0))) (b) hMV (show b < 2 from by omega) (show (V 2 6).toInt = (b : Int) from by omega)) w1092 w1094 w36 w163 w1095 rfl xgChecker hdV_yX2_hasShorter ⟨Nat.le_of_ble_eq_true rfl, Nat.le_of_ble_eq_true rfl⟩ rfl hl.1 rfl (Nat.le_of_ble_eq_true rfl) dX2_faultOf_72 ⟨Nat.le_of_ble_eq_true rfl, Nat.le_of_ble_eq_true rfl⟩) hP hD hK hS hA (fun z18 u19 H locs w20 hP hD hK hS => ?_)
        have rgz18 := w20
        have rgz18 : 0 ≤ z18.toInt ∧ z18.toInt ≤ 1 := rgz18
        refine lv_if_eq (tgt := 82) hx hb dX2_faultOf_75 (by decide) (fun c21 => ?_) (fun c21 => ?_)
        · skip
          have f22 : z18.toInt = 0 := b_eq rfl (by decide) c21
          refine lv_iconst (v := 0) hx hb dX2_faultOf_82 (by decide) ?_
          exact W.iret (v := 0) hx hb hr (fun t ht hW => ⟨⟨0, (), rfl, trivial, by rw [ht]; exact hP, va_K.moved hW.alike hK, hD⟩, hS.F ht⟩) hS.2.2 dX2_faultOf_83
        · skip
          have f23 : z18.toInt ≠ 0 := b_neq rfl (by decide) c21
          refine lv_iconst (v := 4) hx hb dX2_faultOf_78 (by decide) ?_
          refine lv_goto (tgt := 83) hx hb dX2_faultOf_79 (by decide) ?_
          exact W.iret (v := 4) hx hb hr (fun t ht hW => ⟨⟨4, (), rfl, trivial, by rw [ht]; exact hP, va_K.moved hW.alike hK, hD⟩, hS.F ht⟩) hS.2.2 dX2_faultOf_83
    · skip
      have f24 : ((V 60 (8 * (24 * b + (Int32.toNatClampNeg p0)) + (Int32.toNatClampNeg p1)))).toInt ≠ 2 := b_neq rfl (by decide) c12
      exfalso; omega
  · skip
    have f25 : ((V 60 (8 * (24 * b + (Int32.toNatClampNeg p0)) + (Int32.toNatClampNeg p1)))).toInt ≠ 2 := b_neq rfl (by decide) c10
    refine lv_iload hx hb dX2_faultOf_35 (lv_at hl 0 rfl) ?_
    refine lv_if_ne (tgt := 42) hx hb dX2_faultOf_37 (by decide) (fun c26 => ?_) (fun c26 => ?_)
    · skip
      have f27 : z7.toInt ≠ 0 := b_neq rfl (by decide) c26
      refine lv_iload hx hb dX2_faultOf_42 (lv_at hl 1 rfl) ?_
      refine lv_iconst (v := 2) hx hb dX2_faultOf_44 (by decide) ?_
      refine lv_icmp_eq (tgt := 59) hx hb dX2_faultOf_45 (by decide) (fun c28 => ?_) (fun c28 => ?_)
      · skip
        have f29 : ((V 60 (8 * (24 * b + (Int32.toNatClampNeg p0)) + (Int32.toNatClampNeg p1)))).toInt = 2 := b_eq rfl (by decide) c28
        refine lv_iload hx hb dX2_faultOf_59 (lv_at hl 1 rfl) ?_
        refine lv_iconst (v := 1) hx hb dX2_faultOf_61 (by decide) ?_
        refine lv_icmp_eq (tgt := 82) hx hb dX2_faultOf_62 (by decide) (fun c30 => ?_) (fun c30 => ?_)
        · skip
          have f31 : ((V 60 (8 * (24 * b + (Int32.toNatClampNeg p0)) + (Int32.toNatClampNeg p1)))).toInt = 1 := b_eq rfl (by decide) c30
          exfalso; omega
        · skip
          have f32 : ((V 60 (8 * (24 * b + (Int32.toNatClampNeg p0)) + (Int32.toNatClampNeg p1)))).toInt ≠ 1 := b_neq rfl (by decide) c30
          refine lv_aload_n hx hb dX2_faultOf_65 rfl (lv_at hl 3 rfl) ?_
          refine lv_iload hx hb dX2_faultOf_66 (lv_at hl 0 rfl) ?_
          refine lv_aload_n hx hb dX2_faultOf_68 rfl (lv_at hl 2 rfl) ?_
          refine va_getN (D := D) (ci := 3) (v := .int (V 51 (24 * b + (Int32.toNatClampNeg p0)))) (fs := (xfComp ad V (24 * b + (Int32.toNatClampNeg p0)))) (C := RX3) (T := TX3) (N := 13) hx hb hg inX3 hown hK hP (72 + (24 * b + (Int32.toNatClampNeg p0))) (xgComp il4) rfl 6 (by decide) (hnw.use 519 n519 rfl) (fun _ h9 => h9) rfl dX2_faultOf_69 ?_
          have r33 : 0 ≤ ((V 51 (24 * b + (Int32.toNatClampNeg p0)))).toInt ∧ ((V 51 (24 * b + (Int32.toNatClampNeg p0)))).toInt ≤ 3 := hMV 51 (24 * b + (Int32.toNatClampNeg p0))
          refine gA_int (gA_runV (As := [.int z7, .int (V 51 (24 * b + (Int32.toNatClampNeg p0)))]) (rest := []) (ci := 2) (q0 := 2) hx hb hml hown hg hP hD hK hS hA hnw hgk (x_hasShorter l D ks H.size ad kk V L Z z7 (V 51 (24 * b + (Int32.toNatClampNeg p0))) (b) hMV (show b < 2 from by omega) (show (V 2 6).toInt = (b : Int) from by omega)) w1092 w1094 w36 w163 w1095 rfl xgChecker hdV_yX2_hasShorter ⟨Nat.le_of_ble_eq_true rfl, Nat.le_of_ble_eq_true rfl⟩ rfl hl.1 rfl (Nat.le_of_ble_eq_true rfl) dX2_faultOf_72 ⟨Nat.le_of_ble_eq_true rfl, Nat.le_of_ble_eq_true rfl⟩) hP hD hK hS hA (fun z34 u35 H locs w36 hP hD hK hS => ?_)
          have rgz34 := w36
          have rgz34 : 0 ≤ z34.toInt ∧ z34.toInt ≤ 1 := rgz34
          refine lv_if_eq (tgt := 82) hx hb dX2_faultOf_75 (by decide) (fun c37 => ?_) (fun c37 => ?_)
          · skip
            have f38 : z34.toInt = 0 := b_eq rfl (by decide) c37
            refine lv_iconst (v := 0) hx hb dX2_faultOf_82 (by decide) ?_
            exact W.iret (v := 0) hx hb hr (fun t ht hW => ⟨⟨0, (), rfl, trivial, by rw [ht]; exact hP, va_K.moved hW.alike hK, hD⟩, hS.F ht⟩) hS.2.2 dX2_faultOf_83
          · skip
            have f39 : z34.toInt ≠ 0 := b_neq rfl (by decide) c37
            refine lv_iconst (v := 4) hx hb dX2_faultOf_78 (by decide) ?_
            refine lv_goto (tgt := 83) hx hb dX2_faultOf_79 (by decide) ?_
            exact W.iret (v := 4) hx hb hr (fun t ht hW => ⟨⟨4, (), rfl, trivial, by rw [ht]; exact hP, va_K.moved hW.alike hK, hD⟩, hS.F ht⟩) hS.2.2 dX2_faultOf_83
      · skip
        have f40 : ((V 60 (8 * (24 * b + (Int32.toNatClampNeg p0)) + (Int32.toNatClampNeg p1)))).toInt ≠ 2 := b_neq rfl (by decide) c28
        refine lv_iload hx hb dX2_faultOf_48 (lv_at hl 0 rfl) ?_
        refine gE_int (g_runS (As := [.int z7]) (rest := []) (wc := []) (tc := []) hx hb hml hown hg gw_self hP hD hK hS hA hnw hgk [] [] (by decide) rfl rfl (x_bitCount l D ks H.size z7 ) w1086 w1087 w175 w1088 hdS_yJ6_bitCount_0f7a4 ⟨Nat.le_of_ble_eq_true rfl, Nat.le_of_ble_eq_true rfl⟩ rfl hl.1 rfl (Nat.le_of_ble_eq_true rfl) dX2_faultOf_50 ⟨Nat.le_of_ble_eq_true rfl, Nat.le_of_ble_eq_true rfl⟩) hP hD hK hS hA (fun z41 u42 H locs w43 hP hD hK hS => ?_)
        refine lv_iconst (v := 1) hx hb dX2_faultOf_53 (by decide) ?_
        refine lv_icmp_le (tgt := 59) hx hb dX2_faultOf_54 (by decide) (fun c44 => ?_) (fun c44 => ?_)
        · skip
          have f45 : z41.toInt ≤ 1 := b_le rfl (by decide) c44
          refine lv_iload hx hb dX2_faultOf_59 (lv_at hl 1 rfl) ?_
          refine lv_iconst (v := 1) hx hb dX2_faultOf_61 (by decide) ?_
          refine lv_icmp_eq (tgt := 82) hx hb dX2_faultOf_62 (by decide) (fun c46 => ?_) (fun c46 => ?_)
          · skip
            have f47 : ((V 60 (8 * (24 * b + (Int32.toNatClampNeg p0)) + (Int32.toNatClampNeg p1)))).toInt = 1 := b_eq rfl (by decide) c46
            refine lv_iconst (v := 0) hx hb dX2_faultOf_82 (by decide) ?_
            exact W.iret (v := 0) hx hb hr (fun t ht hW => ⟨⟨0, (), rfl, trivial, by rw [ht]; exact hP, va_K.moved hW.alike hK, hD⟩, hS.F ht⟩) hS.2.2 dX2_faultOf_83
          · skip
            have f48 : ((V 60 (8 * (24 * b + (Int32.toNatClampNeg p0)) + (Int32.toNatClampNeg p1)))).toInt ≠ 1 := b_neq rfl (by decide) c46
            refine lv_aload_n hx hb dX2_faultOf_65 rfl (lv_at hl 3 rfl) ?_
            refine lv_iload hx hb dX2_faultOf_66 (lv_at hl 0 rfl) ?_
            refine lv_aload_n hx hb dX2_faultOf_68 rfl (lv_at hl 2 rfl) ?_
            refine va_getN (D := D) (ci := 3) (v := .int (V 51 (24 * b + (Int32.toNatClampNeg p0)))) (fs := (xfComp ad V (24 * b + (Int32.toNatClampNeg p0)))) (C := RX3) (T := TX3) (N := 13) hx hb hg inX3 hown hK hP (72 + (24 * b + (Int32.toNatClampNeg p0))) (xgComp il4) rfl 6 (by decide) (hnw.use 519 n519 rfl) (fun _ h9 => h9) rfl dX2_faultOf_69 ?_
            have r49 : 0 ≤ ((V 51 (24 * b + (Int32.toNatClampNeg p0)))).toInt ∧ ((V 51 (24 * b + (Int32.toNatClampNeg p0)))).toInt ≤ 3 := hMV 51 (24 * b + (Int32.toNatClampNeg p0))
            refine gA_int (gA_runV (As := [.int z7, .int (V 51 (24 * b + (Int32.toNatClampNeg p0)))]) (rest := []) (ci := 2) (q0 := 2) hx hb hml hown hg hP hD hK hS hA hnw hgk (x_hasShorter l D ks H.size ad kk V L Z z7 (V 51 (24 * b + (Int32.toNatClampNeg p0))) (b) hMV (show b < 2 from by omega) (show (V 2 6).toInt = (b : Int) from by omega)) w1092 w1094 w36 w163 w1095 rfl xgChecker hdV_yX2_hasShorter ⟨Nat.le_of_ble_eq_true rfl, Nat.le_of_ble_eq_true rfl⟩ rfl hl.1 rfl (Nat.le_of_ble_eq_true rfl) dX2_faultOf_72 ⟨Nat.le_of_ble_eq_true rfl, Nat.le_of_ble_eq_true rfl⟩) hP hD hK hS hA (fun z50 u51 H locs w52 hP hD hK hS => ?_)
            have rgz50 := w52
            have rgz50 : 0 ≤ z50.toInt ∧ z50.toInt ≤ 1 := rgz50
            refine lv_if_eq (tgt := 82) hx hb dX2_faultOf_75 (by decide) (fun c53 => ?_) (fun c53 => ?_)
            · skip
              have f54 : z50.toInt = 0 := b_eq rfl (by decide) c53
              refine lv_iconst (v := 0) hx hb dX2_faultOf_82 (by decide) ?_
              exact W.iret (v := 0) hx hb hr (fun t ht hW => ⟨⟨0, (), rfl, trivial, by rw [ht]; exact hP, va_K.moved hW.alike hK, hD⟩, hS.F ht⟩) hS.2.2 dX2_faultOf_83
            · skip
              have f55 : z50.toInt ≠ 0 := b_neq rfl (by decide) c53
              refine lv_iconst (v := 4) hx hb dX2_faultOf_78 (by decide) ?_
              refine lv_goto (tgt := 83) hx hb dX2_faultOf_79 (by decide) ?_
              exact W.iret (v := 4) hx hb hr (fun t ht hW => ⟨⟨4, (), rfl, trivial, by rw [ht]; exact hP, va_K.moved hW.alike hK, hD⟩, hS.F ht⟩) hS.2.2 dX2_faultOf_83
        · skip
          have f56 : 1 < z41.toInt := b_nle rfl (by decide) c44
          refine lv_iconst (v := 2) hx hb dX2_faultOf_57 (by decide) ?_
          exact W.iret (v := 2) hx hb hr (fun t ht hW => ⟨⟨2, (), rfl, trivial, by rw [ht]; exact hP, va_K.moved hW.alike hK, hD⟩, hS.F ht⟩) hS.2.2 dX2_faultOf_58
    · skip
      have f57 : z7.toInt = 0 := b_eq rfl (by decide) c26
      refine lv_iconst (v := 1) hx hb dX2_faultOf_40 (by decide) ?_
      exact W.iret (v := 1) hx hb hr (fun t ht hW => ⟨⟨1, (), rfl, trivial, by rw [ht]; exact hP, va_K.moved hW.alike hK, hD⟩, hS.F ht⟩) hS.2.2 dX2_faultOf_41
abbrev r_x_examineNeeds : Room := { frames := 3, cells := 0, slots := 0, locals := 78 }
abbrev q_x_examineNeeds (D : va_G) (ks : KS) (ad : Nat → Nat) (kk : Nat → ClassId) (V : Vf) (L : Lf) (Z : XZ) (p0 : Int32) (b : Nat) (A : Nat → Prop) : Array Value → State → Outcome → State → Prop := va_Qv (fun (u : Vf × Lf) => rgd bX u.1 ∧ agr [(2, 7)] [15, 16, 17] V u.1 ∧ u.2 = L ∧ ((u.1 2 7).toInt ≤ (V 2 7).toInt + 8)) (fun u t => gq D A (xw ad kk u.1 u.2 Z) (xty kk Z) t) A
set_option maxHeartbeats 4000000 in
set_option maxRecDepth 100000 in
theorem x_examineNeeds (l : Launch) (D : va_G) (ks : KS) (sz : Nat) (ad : Nat → Nat) (kk : Nat → ClassId) (V : Vf) (L : Lf) (Z : XZ) (p0 : Int32) (b : Nat) (hMV : rgd bX V) (rg_p0 : 0 ≤ p0.toInt ∧ p0.toInt ≤ 23) (hb2 : b < 2) (cbk : (V 2 6).toInt = (b : Int)) (y1 : (V 2 7).toInt ≤ 999000)  : Met l yX2_examineNeeds (Cond.code yX2_examineNeeds cX2_examineNeeds 4 none :: GW) r_x_examineNeeds (va_Pc [.ref (ad 2), .int p0] (gp D ks (xw ad kk V L Z) (xty kk Z) sz)) (q_x_examineNeeds D ks ad kk V L Z p0 b (va_A (xw ad kk V L Z) sz)) 0 0 (va_A (xw ad kk V L Z) sz) := by
  refine g_met (q_x_examineNeeds D ks ad kk V L Z p0 b) (by decide) (Nat.le_of_ble_eq_true rfl) ?_
  intro p e s m below meth c A ls H locs hx hb hr hml hown hg hlocks hin hnw hgk hP hK hD hS hA hl
  have hown : s.vm.findClass RX2 = some m.cls := hown
  have hl : lv_has ls 4 [(0, .ref (ad 2)), (1, .int p0)] := hl
  have hP : va_P D vwCl (xw ad kk V L Z) H := hP
  have hD : va_D A (xw ad kk V L Z) := hD
  have hK : va_K D vwCl (xty kk Z) s := hK
  have agV : agr [(2, 7)] [15, 16, 17] V V := agr.rf
  have r1 : (-1) ≤ ((V 2 6)).toInt ∧ ((V 2 6)).toInt ≤ 1 := hMV 2 6
  have r2 : 0 ≤ ((V 2 7)).toInt ∧ ((V 2 7)).toInt ≤ 1000000 := hMV 2 7
  refine lv_iconst (v := 0) hx hb dX2_examineNeeds_0 (by decide) ?_
  refine lv_istore_n (lv' := [(2, .int 0), (0, .ref (ad 2)), (1, .int p0)]) hx hb dX2_examineNeeds_1 rfl hl (by decide) rfl (fun ls hl => ?_)
  have lp5 : ∀ (fulp5 : Nat) (y3 : Int32) (V4 : Vf) (H : Heap) (locs : List Loc) (ls : Array Slot), 0 ≤ y3.toInt ∧ y3.toInt ≤ 8 → (V4 2 7).toInt ≤ (V 2 7).toInt + y3.toInt → 8 - y3.toInt < (fulp5 : Int) → agr [(2, 7)] [15, 16, 17] V V4 → rgd bX V4 → va_P D vwCl (xw ad kk V4 L Z) H → va_D A (xw ad kk V4 L Z) → va_S A s.heap H locs → lv_has ls 4 [(2, .int y3), (0, .ref (ad 2)), (1, .int p0)] → W p l e r_x_examineNeeds s m ([.ref (ad 2), .int p0] : List Value).toArray below meth c H locs 0 0 (MQ below (q_x_examineNeeds D ks ad kk V L Z p0 b A) ([.ref (ad 2), .int p0] : List Value).toArray s 0 0 A) (F0 m 2 ls []) := by
    intro fulp5
    induction fulp5 with
    | zero =>
      intro y3 V4 H locs ls klp5_0 xlp5_0 hn ajV4 hMV4 hP hD hS hl
      exfalso; omega
    | succ fulp5 ihlp5 =>
      intro y3 V4 H locs ls klp5_0 xlp5_0 hn ajV4 hMV4 hP hD hS hl
      have agV4 : agr [(2, 7)] [15, 16, 17] V V4 := agV.tr ajV4 (by decide) (by decide)
      have r6 : 0 ≤ ((V4 2 7)).toInt ∧ ((V4 2 7)).toInt ≤ 1000000 := hMV4 2 7
      refine lv_iload_n hx hb dX2_examineNeeds_2 rfl (lv_at hl 0 rfl) ?_
      refine lv_aload_n hx hb dX2_examineNeeds_3 rfl (lv_at hl 1 rfl) ?_
      refine va_get (D := D) (ci := 2) (v := rfN ad 38 (V4 2 6)) (fs := (xfChecker ad V4 L Z)) (C := RX2) (T := TX2) (N := 8) hx hb hg inX2 hown hK hP 2 xgChecker rfl 6 (by decide) (hg _ w344) (fun _ h9 => h9) rfl dX2_examineNeeds_4 ?_
      have pq7 : (V4 2 6).toInt = ((V 2 6)).toInt := congrArg Int32.toInt (ajV4 2 6 rfl)
      refine g_topv (v := .ref (ad (38 + b))) (rfN_r (by omega)) ?_
      refine va_getN (D := D) (ci := 0) (v := .ref (ad (64 + b))) (fs := (xfBook ad V4 b)) (C := RX0) (T := TX0) (N := 13) hx hb hg inX0 hown hK hP (38 + b) (xgBook hb2) rfl 7 (by decide) (hnw.use 615 n615 rfl) (fun _ h9 => h9) rfl dX2_examineNeeds_7 ?_
      refine lv_iload_n hx hb dX2_examineNeeds_10 rfl (lv_at hl 2 rfl) ?_
      have il8 : b < 2 := by omega
      refine va_aldq (D := D) (i := p0) hx hb hK hP (64 + b) (57 + b) (xgcomps il8) (xtcomps il8) (i_in (a := p0.toInt) rfl (by omega)) dX2_examineNeeds_11 ?_
      have kc9 := i_clamp (x := p0) rfl (by omega)
      refine g_topv (v := .ref (ad (72 + (24 * b + (Int32.toNatClampNeg p0))))) (congrArg va_rf (if_pos (by omega))) ?_
      have il10 : (24 * b + (Int32.toNatClampNeg p0)) < 48 := by omega
      refine va_getN (D := D) (ci := 3) (v := .int (V4 49 (24 * b + (Int32.toNatClampNeg p0)))) (fs := (xfComp ad V4 (24 * b + (Int32.toNatClampNeg p0)))) (C := RX3) (T := TX3) (N := 13) hx hb hg inX3 hown hK hP (72 + (24 * b + (Int32.toNatClampNeg p0))) (xgComp il10) rfl 4 (by decide) (hnw.use 511 n511 rfl) (fun _ h9 => h9) rfl dX2_examineNeeds_12 ?_
      refine g_top (v := (V 49 (24 * b + (Int32.toNatClampNeg p0)))) (ajV4 49 (24 * b + (Int32.toNatClampNeg p0)) rfl) ?_
      have r11 : 0 ≤ ((V 49 (24 * b + (Int32.toNatClampNeg p0)))).toInt ∧ ((V 49 (24 * b + (Int32.toNatClampNeg p0)))).toInt ≤ 8 := hMV 49 (24 * b + (Int32.toNatClampNeg p0))
      refine lv_icmp_ge (tgt := 42) hx hb dX2_examineNeeds_15 (by decide) (fun c12 => ?_) (fun c12 => ?_)
      · skip
        have f13 : ((V 49 (24 * b + (Int32.toNatClampNeg p0)))).toInt ≤ y3.toInt := b_le rfl rfl c12
        exact W.vret hx hb hr (fun t ht hW => ⟨⟨(V4, L), rfl, ⟨hMV4, agV4, rfl, (show (V4 2 7).toInt ≤ (V 2 7).toInt + 8 from by omega)⟩, by rw [ht]; exact hP, va_K.moved hW.alike hK, hD⟩, hS.F ht⟩) hS.2.2 dX2_examineNeeds_42
      · skip
        have f14 : y3.toInt < ((V 49 (24 * b + (Int32.toNatClampNeg p0)))).toInt := b_nle rfl rfl c12
        refine lv_aload_n hx hb dX2_examineNeeds_18 rfl (lv_at hl 1 rfl) ?_
        refine lv_iload_n hx hb dX2_examineNeeds_19 rfl (lv_at hl 2 rfl) ?_
        refine lv_iload_n hx hb dX2_examineNeeds_20 rfl (lv_at hl 0 rfl) ?_
        refine gA_int (gA_runV (As := [.int p0, .int y3]) (rest := []) (ci := 2) (q0 := 2) hx hb hml hown hg hP hD hK hS hA hnw hgk (x_faultOf l D ks H.size ad kk V4 L Z p0 y3 (b) hMV4 (by omega) (by omega) (show b < 2 from by omega) (show (V4 2 6).toInt = (b : Int) from by omega)) w1077 w1079 w35 w163 w1080 rfl xgChecker hdV_yX2_faultOf ⟨Nat.le_of_ble_eq_true rfl, Nat.le_of_ble_eq_true rfl⟩ rfl hl.1 rfl (Nat.le_of_ble_eq_true rfl) dX2_examineNeeds_21 ⟨Nat.le_of_ble_eq_true rfl, Nat.le_of_ble_eq_true rfl⟩) hP hD hK hS hA (fun z15 u16 H locs w17 hP hD hK hS => ?_)
        refine lv_istore_n (lv' := [(3, .int z15), (2, .int y3), (0, .ref (ad 2)), (1, .int p0)]) hx hb dX2_examineNeeds_24 rfl hl (by decide) rfl (fun ls hl => ?_)
        refine lv_iload_n hx hb dX2_examineNeeds_25 rfl (lv_at hl 0 rfl) ?_
        refine lv_if_eq (tgt := 36) hx hb dX2_examineNeeds_26 (by decide) (fun c18 => ?_) (fun c18 => ?_)
        · skip
          have f19 : z15.toInt = 0 := b_eq rfl (by decide) c18
          obtain ⟨z20, ez20⟩ : ∃ y : Int32, y = y3 + 1 := ⟨_, rfl⟩
          have hz20 : z20.toInt = y3.toInt + 1 := i_add ez20 rfl (by decide) (by omega)
          refine lv_iinc (v := z20) (lv' := [(2, .int z20), (3, .int z15), (0, .ref (ad 2)), (1, .int p0)]) hx hb dX2_examineNeeds_36 hl (k := 1) rfl (by rw [ez20]; rfl) (by decide) rfl (fun ls hl => ?_)
          refine lv_goto (tgt := 2) hx hb dX2_examineNeeds_39 (by decide) ?_
          exact ihlp5 z20 V4 H locs ls (by omega) (show (V4 2 7).toInt ≤ (V 2 7).toInt + z20.toInt from by omega) (by omega) (agr.tr agr.rf ajV4 (by decide) (by decide)) hMV4 hP hD hS (lv_sub hl [0, 2, 3] rfl)
        · skip
          have f21 : z15.toInt ≠ 0 := b_neq rfl (by decide) c18
          refine lv_aload_n hx hb dX2_examineNeeds_29 rfl (lv_at hl 2 rfl) ?_
          refine lv_iload_n hx hb dX2_examineNeeds_30 rfl (lv_at hl 0 rfl) ?_
          refine lv_iload_n hx hb dX2_examineNeeds_31 rfl (lv_at hl 3 rfl) ?_
          refine lv_iload_n hx hb dX2_examineNeeds_32 rfl (lv_at hl 1 rfl) ?_
          refine gA_void (gA_runV (As := [.int z15, .int p0, .int y3]) (rest := []) (ci := 2) (q0 := 2) hx hb hml hown hg hP hD hK hS hA hnw hgk (x_note l D ks H.size ad kk V4 L Z z15 p0 y3 hMV4 (by omega) (show (V4 2 7).toInt ≤ 999999 from by omega)) w1096 w1098 w37 w163 w1099 rfl xgChecker hdV_yX2_note ⟨Nat.le_of_ble_eq_true rfl, Nat.le_of_ble_eq_true rfl⟩ rfl hl.1 rfl (Nat.le_of_ble_eq_true rfl) dX2_examineNeeds_33 ⟨Nat.le_of_ble_eq_true rfl, Nat.le_of_ble_eq_true rfl⟩) hP hD hK hS hA (fun u23 H locs w24 hP hD hK hS => ?_)
          obtain ⟨V26, L27⟩ := u23
          obtain ⟨hMV26, ajV26, axL27, t25⟩ := w24
          have axL27 : L = L27 := Eq.symm axL27
          subst axL27
          have hP : va_P D vwCl (xw ad kk V26 L Z) H := hP
          have hD : va_D A (xw ad kk V26 L Z) := hD
          have hMV26 : rgd bX V26 := hMV26
          have ajV26 : agr [(2, 7)] [15, 16, 17] V4 V26 := ajV26
          have agV26 : agr [(2, 7)] [15, 16, 17] V V26 := agV4.tr ajV26 (by decide) (by decide)
          have t25 : (V26 2 7).toInt = (V4 2 7).toInt + 1 := t25
          have r28 : 0 ≤ ((V26 2 7)).toInt ∧ ((V26 2 7)).toInt ≤ 1000000 := hMV26 2 7
          obtain ⟨z29, ez29⟩ : ∃ y : Int32, y = y3 + 1 := ⟨_, rfl⟩
          have hz29 : z29.toInt = y3.toInt + 1 := i_add ez29 rfl (by decide) (by omega)
          refine lv_iinc (v := z29) (lv' := [(2, .int z29), (3, .int z15), (0, .ref (ad 2)), (1, .int p0)]) hx hb dX2_examineNeeds_36 hl (k := 1) rfl (by rw [ez29]; rfl) (by decide) rfl (fun ls hl => ?_)
          refine lv_goto (tgt := 2) hx hb dX2_examineNeeds_39 (by decide) ?_
          exact ihlp5 z29 V26 H locs ls (by omega) (show (V26 2 7).toInt ≤ (V 2 7).toInt + z29.toInt from by omega) (by omega) (agr.tr (agr.tr agr.rf ajV4 (by decide) (by decide)) ajV26 (by decide) (by decide)) hMV26 hP hD hS (lv_sub hl [0, 2, 3] rfl)
  have r30 : Int32.toInt 0 = 0 := by decide
  exact lp5 ((8 - (Int32.toInt 0) + 1 : Int).toNat) 0 V H locs ls (by decide) (show (V 2 7).toInt ≤ (V 2 7).toInt + (Int32.toInt 0) from by omega) (by omega) agr.rf hMV hP hD hS (lv_sub hl [0, 1, 2] rfl)
abbrev r_x_followed : Room := { frames := 3, cells := 0, slots := 0, locals := 78 }
abbrev q_x_followed (D : va_G) (ks : KS) (ad : Nat → Nat) (kk : Nat → ClassId) (V : Vf) (L : Lf) (Z : XZ) (p0 : Int32) (p1 : Int32) (b : Nat) (A : Nat → Prop) : Array Value → State → Outcome → State → Prop := va_Qi (fun (r : Int32) (_ : Unit) => True) (fun _ t => gq D A (xw ad kk V L Z) (xty kk Z) t) A
set_option maxHeartbeats 4000000 in
set_option maxRecDepth 100000 in
theorem x_followed (l : Launch) (D : va_G) (ks : KS) (sz : Nat) (ad : Nat → Nat) (kk : Nat → ClassId) (V : Vf) (L : Lf) (Z : XZ) (p0 : Int32) (p1 : Int32) (b : Nat) (hMV : rgd bX V) (rg_p0 : 0 ≤ p0.toInt ∧ p0.toInt ≤ 23) (rg_p1 : 0 ≤ p1.toInt ∧ p1.toInt ≤ 7) (hb2 : b < 2) (cbk : (V 2 6).toInt = (b : Int))  : Met l yX2_followed (Cond.code yX2_followed cX2_followed 4 (some .int) :: GW) r_x_followed (va_Pc [.ref (ad 2), .int p0, .int p1] (gp D ks (xw ad kk V L Z) (xty kk Z) sz)) (q_x_followed D ks ad kk V L Z p0 p1 b (va_A (xw ad kk V L Z) sz)) 0 0 (va_A (xw ad kk V L Z) sz) := by
  refine g_met (q_x_followed D ks ad kk V L Z p0 p1 b) (by decide) (Nat.le_of_ble_eq_true rfl) ?_
  intro p e s m below meth c A ls H locs hx hb hr hml hown hg hlocks hin hnw hgk hP hK hD hS hA hl
  have hown : s.vm.findClass RX2 = some m.cls := hown
  have hl : lv_has ls 4 [(0, .ref (ad 2)), (1, .int p0), (2, .int p1)] := hl
  have hP : va_P D vwCl (xw ad kk V L Z) H := hP
  have hD : va_D A (xw ad kk V L Z) := hD
  have hK : va_K D vwCl (xty kk Z) s := hK
  have r1 : (-1) ≤ ((V 2 6)).toInt ∧ ((V 2 6)).toInt ≤ 1 := hMV 2 6
  refine lv_aload_n hx hb dX2_followed_0 rfl (lv_at hl 0 rfl) ?_
  refine lv_iload_n hx hb dX2_followed_1 rfl (lv_at hl 1 rfl) ?_
  refine lv_iload_n hx hb dX2_followed_2 rfl (lv_at hl 2 rfl) ?_
  refine gA_int (gA_runV (As := [.int p0, .int p1]) (rest := []) (ci := 2) (q0 := 2) hx hb hml hown hg hP hD hK hS hA hnw hgk (x_faultOf l D ks H.size ad kk V L Z p0 p1 (b) hMV (by omega) (by omega) (show b < 2 from by omega) (show (V 2 6).toInt = (b : Int) from by omega)) w1077 w1079 w35 w163 w1080 rfl xgChecker hdV_yX2_faultOf ⟨Nat.le_of_ble_eq_true rfl, Nat.le_of_ble_eq_true rfl⟩ rfl hl.1 rfl (Nat.le_of_ble_eq_true rfl) dX2_followed_3 ⟨Nat.le_of_ble_eq_true rfl, Nat.le_of_ble_eq_true rfl⟩) hP hD hK hS hA (fun z2 u3 H locs w4 hP hD hK hS => ?_)
  refine lv_istore_n (lv' := [(3, .int z2), (0, .ref (ad 2)), (1, .int p0), (2, .int p1)]) hx hb dX2_followed_6 rfl hl (by decide) rfl (fun ls hl => ?_)
  refine lv_iload_n hx hb dX2_followed_7 rfl (lv_at hl 0 rfl) ?_
  refine lv_iconst (v := 1) hx hb dX2_followed_8 (by decide) ?_
  refine lv_icmp_eq (tgt := 17) hx hb dX2_followed_9 (by decide) (fun c5 => ?_) (fun c5 => ?_)
  · skip
    have f6 : z2.toInt = 1 := b_eq rfl (by decide) c5
    refine lv_iconst (v := 0) hx hb dX2_followed_17 (by decide) ?_
    refine lv_goto (tgt := 30) hx hb dX2_followed_18 (by decide) ?_
    exact W.iret (v := 0) hx hb hr (fun t ht hW => ⟨⟨0, (), rfl, trivial, by rw [ht]; exact hP, va_K.moved hW.alike hK, hD⟩, hS.F ht⟩) hS.2.2 dX2_followed_30
  · skip
    have f7 : z2.toInt ≠ 1 := b_neq rfl (by decide) c5
    refine lv_iload_n hx hb dX2_followed_12 rfl (lv_at hl 0 rfl) ?_
    refine lv_iconst (v := 2) hx hb dX2_followed_13 (by decide) ?_
    refine lv_icmp_ne (tgt := 21) hx hb dX2_followed_14 (by decide) (fun c8 => ?_) (fun c8 => ?_)
    · skip
      have f9 : z2.toInt ≠ 2 := b_neq rfl (by decide) c8
      refine lv_aload_n hx hb dX2_followed_21 rfl (lv_at hl 1 rfl) ?_
      refine va_get (D := D) (ci := 2) (v := rfN ad 38 (V 2 6)) (fs := (xfChecker ad V L Z)) (C := RX2) (T := TX2) (N := 8) hx hb hg inX2 hown hK hP 2 xgChecker rfl 6 (by decide) (hg _ w344) (fun _ h9 => h9) rfl dX2_followed_22 ?_
      refine g_topv (v := .ref (ad (38 + b))) (rfN_r (by omega)) ?_
      refine lv_iload_n hx hb dX2_followed_25 rfl (lv_at hl 2 rfl) ?_
      refine lv_iload_n hx hb dX2_followed_26 rfl (lv_at hl 3 rfl) ?_
      refine gA_int (gA_runV (As := [.int p0, .int p1]) (rest := []) (ci := 0) (q0 := (38 + b)) hx hb hml hown hg hP hD hK hS hA hnw hgk (x_candidates l D ks H.size ad kk V L Z p0 p1 (b) hMV (by omega) (by omega) (show b < 2 from by omega)) w1081 w1082 w1083 w167 w1084 rfl (xgBook hb2) hdV_yX0_candidates ⟨Nat.le_of_ble_eq_true rfl, Nat.le_of_ble_eq_true rfl⟩ rfl hl.1 rfl (Nat.le_of_ble_eq_true rfl) dX2_followed_27 ⟨Nat.le_of_ble_eq_true rfl, Nat.le_of_ble_eq_true rfl⟩) hP hD hK hS hA (fun z10 u11 H locs w12 hP hD hK hS => ?_)
      exact W.iret (v := z10) hx hb hr (fun t ht hW => ⟨⟨z10, (), rfl, trivial, by rw [ht]; exact hP, va_K.moved hW.alike hK, hD⟩, hS.F ht⟩) hS.2.2 dX2_followed_30
    · skip
      have f13 : z2.toInt = 2 := b_eq rfl (by decide) c8
      refine lv_iconst (v := 0) hx hb dX2_followed_17 (by decide) ?_
      refine lv_goto (tgt := 30) hx hb dX2_followed_18 (by decide) ?_
      exact W.iret (v := 0) hx hb hr (fun t ht hW => ⟨⟨0, (), rfl, trivial, by rw [ht]; exact hP, va_K.moved hW.alike hK, hD⟩, hS.F ht⟩) hS.2.2 dX2_followed_30
abbrev q_x_follow (D : va_G) (ks : KS) (ad : Nat → Nat) (kk : Nat → ClassId) (V : Vf) (L : Lf) (Z : XZ) (p0 : Int32) (p1 : Int32) (b : Nat) (A : Nat → Prop) : Array Value → State → Outcome → State → Prop := va_Qv (fun (u : Vf × Lf) => rgd bX u.1 ∧ agr [(2, 7)] [15, 16, 17, 18, 19, 20] V u.1 ∧ u.2 = L ∧ ((u.1 2 7).toInt + 192 * (cx u.1 24 : Int) ≤ (V 2 7).toInt + 192 * (cx V 24 : Int)) ∧ ((V 2 7).toInt ≤ (u.1 2 7).toInt) ∧ ((∀ q : Nat, (V 20 q).toInt ≠ -1 → (u.1 20 q).toInt ≠ -1))) (fun u t => gq D A (xw ad kk u.1 u.2 Z) (xty kk Z) t) A
def K_x_follow (l : Launch) (D : va_G) (ks : KS) (dd : Nat) : Prop := ∀ (sz : Nat) (ad : Nat → Nat) (kk : Nat → ClassId) (V : Vf) (L : Lf) (Z : XZ) (p0 : Int32) (p1 : Int32) (b : Nat) (hMV : rgd bX V) (rg_p0 : 0 ≤ p0.toInt ∧ p0.toInt ≤ 23) (rg_p1 : 0 ≤ p1.toInt ∧ p1.toInt ≤ 24) (hb2 : b < 2) (cbk : (V 2 6).toInt = (b : Int)) (y1 : (V 20 (Int32.toNatClampNeg p0)).toInt = -1) (y2 : 24 - p1.toInt ≤ (dd : Int)) (y3 : (V 2 7).toInt + 192 * (cx V 24 : Int) ≤ 999000) , Met l yX2_follow (Cond.code yX2_follow cX2_follow 6 none :: GW) (rK 8 260 dd) (va_Pc [.ref (ad 2), .int p0, .int p1] (gp D ks (xw ad kk V L Z) (xty kk Z) sz)) (q_x_follow D ks ad kk V L Z p0 p1 b (va_A (xw ad kk V L Z) sz)) 0 0 (va_A (xw ad kk V L Z) sz)
set_option maxHeartbeats 4000000 in
set_option maxRecDepth 100000 in
theorem x_follow {l : Launch} {D : va_G} {ks : KS} {dd : Nat} (hk_x_follow : ∀ d9, dd = d9 + 1 → K_x_follow l D ks d9) : K_x_follow l D ks dd := by
  intro sz ad kk V L Z p0 p1 b hMV rg_p0 rg_p1 hb2 cbk y1 y2 y3
  refine g_met (q_x_follow D ks ad kk V L Z p0 p1 b) (by decide) (Nat.le_of_ble_eq_true rfl) ?_
  intro p e s m below meth c A ls H locs hx hb hr hml hown hg hlocks hin hnw hgk hP hK hD hS hA hl
  have hown : s.vm.findClass RX2 = some m.cls := hown
  have hl : lv_has ls 6 [(0, .ref (ad 2)), (1, .int p0), (2, .int p1)] := hl
  have hP : va_P D vwCl (xw ad kk V L Z) H := hP
  have hD : va_D A (xw ad kk V L Z) := hD
  have hK : va_K D vwCl (xty kk Z) s := hK
  have agV : agr [(2, 7)] [15, 16, 17, 18, 19, 20] V V := agr.rf
  have r1 : (-1) ≤ ((V 2 6)).toInt ∧ ((V 2 6)).toInt ≤ 1 := hMV 2 6
  have r2 : (-2) ≤ ((V 20 (Int32.toNatClampNeg p0))).toInt ∧ ((V 20 (Int32.toNatClampNeg p0))).toInt ≤ 23 := hMV 20 (Int32.toNatClampNeg p0)
  have r3 : 0 ≤ ((V 2 7)).toInt ∧ ((V 2 7)).toInt ≤ 1000000 := hMV 2 7
  refine lv_iload_n hx hb dX2_follow_0 rfl (lv_at hl 2 rfl) ?_
  refine lv_bipush (v := 24) hx hb dX2_follow_1 (by decide) ?_
  refine lv_icmp_lt (tgt := 7) hx hb dX2_follow_3 (by decide) (fun c4 => ?_) (fun c4 => ?_)
  · skip
    have f5 : p1.toInt < 24 := b_lt rfl (by decide) c4
    refine lv_aload_n hx hb dX2_follow_7 rfl (lv_at hl 0 rfl) ?_
    refine va_get (D := D) (ci := 2) (v := .ref (ad 16)) (fs := (xfChecker ad V L Z)) (C := RX2) (T := TX2) (N := 8) hx hb hg inX2 hown hK hP 2 xgChecker rfl 4 (by decide) (hg _ w342) (fun _ h9 => h9) rfl dX2_follow_8 ?_
    refine lv_iload_n hx hb dX2_follow_11 rfl (lv_at hl 2 rfl) ?_
    refine lv_iload_n hx hb dX2_follow_12 rfl (lv_at hl 1 rfl) ?_
    refine va_iast (D := D) (i := p1) (x := p0) hx hb hK hP hD hS 16 9 rfl rfl (i_in (a := p1.toInt) rfl (by omega)) dX2_follow_13 (fun H locs hP hD hS => ?_)
    obtain ⟨V6, hV6⟩ : ∃ z, z = up2 V 19 (Int32.toNatClampNeg p1) p0 := ⟨_, rfl⟩
    have ew7 : (xw ad kk V L Z).set 16 ((ad 16), .inl ((kk 16), 24, .inl (upd (V 19) (Int32.toNatClampNeg p1) p0))) = xw ad kk V6 L Z := by rw [hV6]; exact xw_ss (by decide) rfl (xb_si (by decide))
    have hP : va_P D vwCl (xw ad kk V6 L Z) H := by rw [← ew7]; exact hP
    have hD : va_D A (xw ad kk V6 L Z) := by rw [← ew7]; exact hD
    have hMV6 : rgd bX V6 := hMV.put hV6 (show 0 ≤ p0.toInt ∧ p0.toInt ≤ 23 from by omega)
    have agV6 : agr [(2, 7)] [15, 16, 17, 18, 19, 20] V V6 := agV.up hV6 rfl
    refine lv_aload_n hx hb dX2_follow_14 rfl (lv_at hl 0 rfl) ?_
    refine va_get (D := D) (ci := 2) (v := .ref (ad 17)) (fs := (xfChecker ad V6 L Z)) (C := RX2) (T := TX2) (N := 8) hx hb hg inX2 hown hK hP 2 xgChecker rfl 5 (by decide) (hg _ w343) (fun _ h9 => h9) rfl dX2_follow_15 ?_
    refine lv_iload_n hx hb dX2_follow_18 rfl (lv_at hl 1 rfl) ?_
    refine lv_iload_n hx hb dX2_follow_19 rfl (lv_at hl 2 rfl) ?_
    refine va_iast (D := D) (i := p0) (x := p1) hx hb hK hP hD hS 17 10 rfl rfl (i_in (a := p0.toInt) rfl (by omega)) dX2_follow_20 (fun H locs hP hD hS => ?_)
    obtain ⟨V8, hV8⟩ : ∃ z, z = up2 V6 20 (Int32.toNatClampNeg p0) p1 := ⟨_, rfl⟩
    have ew9 : (xw ad kk V6 L Z).set 17 ((ad 17), .inl ((kk 17), 24, .inl (upd (V6 20) (Int32.toNatClampNeg p0) p1))) = xw ad kk V8 L Z := by rw [hV8]; exact xw_ss (by decide) rfl (xb_si (by decide))
    have hP : va_P D vwCl (xw ad kk V8 L Z) H := by rw [← ew9]; exact hP
    have hD : va_D A (xw ad kk V8 L Z) := by rw [← ew9]; exact hD
    have hMV8 : rgd bX V8 := hMV6.put hV8 (show (-2) ≤ p1.toInt ∧ p1.toInt ≤ 23 from by omega)
    have agV8 : agr [(2, 7)] [15, 16, 17, 18, 19, 20] V V8 := agV6.up hV8 rfl
    have kz := i_clamp (x := p0) rfl (by omega)
    have cq10 : cx V6 24 = cx V 24 := cx_ag (show agr [] [19] V V6 from (agr.up agr.rf hV6 rfl)) (fun _ => rfl) 24
    have pq11 : (V6 20 (Int32.toNatClampNeg p0)).toInt = ((V 20 (Int32.toNatClampNeg p0))).toInt := congrArg Int32.toInt (up2_o hV6 (by decide))
    have cu := (cx_up hV8 (by omega) (by omega) 24).1 (by omega)
    refine lv_iconst (v := 0) hx hb dX2_follow_21 (by decide) ?_
    refine lv_istore_n (lv' := [(3, .int 0), (0, .ref (ad 2)), (1, .int p0), (2, .int p1)]) hx hb dX2_follow_22 rfl hl (by decide) rfl (fun ls hl => ?_)
    have lp14 : ∀ (fulp14 : Nat) (y12 : Int32) (V13 : Vf) (H : Heap) (locs : List Loc) (ls : Array Slot), 0 ≤ y12.toInt ∧ y12.toInt ≤ 8 → (V13 2 7).toInt + 192 * (cx V13 24 : Int) + 192 ≤ (V 2 7).toInt + 192 * (cx V 24 : Int) + 24 * y12.toInt → (V 2 7).toInt ≤ (V13 2 7).toInt → (∀ q : Nat, (V 20 q).toInt ≠ -1 → (V13 20 q).toInt ≠ -1) → (V13 20 (Int32.toNatClampNeg p0)).toInt ≠ -1 → 8 - y12.toInt < (fulp14 : Int) → agr [(2, 7)] [15, 16, 17, 18, 19, 20] V8 V13 → rgd bX V13 → va_P D vwCl (xw ad kk V13 L Z) H → va_D A (xw ad kk V13 L Z) → va_S A s.heap H locs → lv_has ls 6 [(3, .int y12), (0, .ref (ad 2)), (1, .int p0), (2, .int p1)] → W p l e (rK 8 260 dd) s m ([.ref (ad 2), .int p0, .int p1] : List Value).toArray below meth c H locs 0 0 (MQ below (q_x_follow D ks ad kk V L Z p0 p1 b A) ([.ref (ad 2), .int p0, .int p1] : List Value).toArray s 0 0 A) (F0 m 23 ls []) := by
      intro fulp14
      induction fulp14 with
      | zero =>
        intro y12 V13 H locs ls klp14_0 xlp14_0 xlp14_1 xlp14_2 xlp14_3 hn ajV13 hMV13 hP hD hS hl
        exfalso; omega
      | succ fulp14 ihlp14 =>
        intro y12 V13 H locs ls klp14_0 xlp14_0 xlp14_1 xlp14_2 xlp14_3 hn ajV13 hMV13 hP hD hS hl
        have agV13 : agr [(2, 7)] [15, 16, 17, 18, 19, 20] V V13 := agV8.tr ajV13 (by decide) (by decide)
        have r15 : 0 ≤ ((V13 2 7)).toInt ∧ ((V13 2 7)).toInt ≤ 1000000 := hMV13 2 7
        refine lv_iload_n hx hb dX2_follow_23 rfl (lv_at hl 0 rfl) ?_
        refine lv_aload_n hx hb dX2_follow_24 rfl (lv_at hl 1 rfl) ?_
        refine va_get (D := D) (ci := 2) (v := rfN ad 38 (V13 2 6)) (fs := (xfChecker ad V13 L Z)) (C := RX2) (T := TX2) (N := 8) hx hb hg inX2 hown hK hP 2 xgChecker rfl 6 (by decide) (hg _ w344) (fun _ h9 => h9) rfl dX2_follow_25 ?_
        have pq16 : (V13 2 6).toInt = ((V 2 6)).toInt := congrArg Int32.toInt ((ajV13 2 6 rfl).trans ((up2_o hV8 (by decide)).trans (up2_o hV6 (by decide))))
        refine g_topv (v := .ref (ad (38 + b))) (rfN_r (by omega)) ?_
        refine va_getN (D := D) (ci := 0) (v := .ref (ad (64 + b))) (fs := (xfBook ad V13 b)) (C := RX0) (T := TX0) (N := 13) hx hb hg inX0 hown hK hP (38 + b) (xgBook hb2) rfl 7 (by decide) (hnw.use 615 n615 rfl) (fun _ h9 => h9) rfl dX2_follow_28 ?_
        refine lv_iload_n hx hb dX2_follow_31 rfl (lv_at hl 2 rfl) ?_
        have il17 : b < 2 := by omega
        refine va_aldq (D := D) (i := p0) hx hb hK hP (64 + b) (57 + b) (xgcomps il17) (xtcomps il17) (i_in (a := p0.toInt) rfl (by omega)) dX2_follow_32 ?_
        have kc18 := i_clamp (x := p0) rfl (by omega)
        refine g_topv (v := .ref (ad (72 + (24 * b + (Int32.toNatClampNeg p0))))) (congrArg va_rf (if_pos (by omega))) ?_
        have il19 : (24 * b + (Int32.toNatClampNeg p0)) < 48 := by omega
        refine va_getN (D := D) (ci := 3) (v := .int (V13 49 (24 * b + (Int32.toNatClampNeg p0)))) (fs := (xfComp ad V13 (24 * b + (Int32.toNatClampNeg p0)))) (C := RX3) (T := TX3) (N := 13) hx hb hg inX3 hown hK hP (72 + (24 * b + (Int32.toNatClampNeg p0))) (xgComp il19) rfl 4 (by decide) (hnw.use 511 n511 rfl) (fun _ h9 => h9) rfl dX2_follow_33 ?_
        refine g_top (v := (V 49 (24 * b + (Int32.toNatClampNeg p0)))) ((ajV13 49 (24 * b + (Int32.toNatClampNeg p0)) rfl).trans ((up2_o hV8 (by decide)).trans (up2_o hV6 (by decide)))) ?_
        have r20 : 0 ≤ ((V 49 (24 * b + (Int32.toNatClampNeg p0)))).toInt ∧ ((V 49 (24 * b + (Int32.toNatClampNeg p0)))).toInt ≤ 8 := hMV 49 (24 * b + (Int32.toNatClampNeg p0))
        refine lv_icmp_ge (tgt := 159) hx hb dX2_follow_36 (by decide) (fun c21 => ?_) (fun c21 => ?_)
        · skip
          have f22 : ((V 49 (24 * b + (Int32.toNatClampNeg p0)))).toInt ≤ y12.toInt := b_le rfl rfl c21
          refine lv_aload_n hx hb dX2_follow_159 rfl (lv_at hl 1 rfl) ?_
          refine va_get (D := D) (ci := 2) (v := .ref (ad 17)) (fs := (xfChecker ad V13 L Z)) (C := RX2) (T := TX2) (N := 8) hx hb hg inX2 hown hK hP 2 xgChecker rfl 5 (by decide) (hg _ w343) (fun _ h9 => h9) rfl dX2_follow_160 ?_
          refine lv_iload_n hx hb dX2_follow_163 rfl (lv_at hl 2 rfl) ?_
          refine lv_bipush (v := (-2)) hx hb dX2_follow_164 (by decide) ?_
          refine va_iast (D := D) (i := p0) (x := (-2)) hx hb hK hP hD hS 17 10 rfl rfl (i_in (a := p0.toInt) rfl (by omega)) dX2_follow_166 (fun H locs hP hD hS => ?_)
          obtain ⟨V23, hV23⟩ : ∃ z, z = up2 V13 20 (Int32.toNatClampNeg p0) (-2) := ⟨_, rfl⟩
          have ew24 : (xw ad kk V13 L Z).set 17 ((ad 17), .inl ((kk 17), 24, .inl (upd (V13 20) (Int32.toNatClampNeg p0) (-2)))) = xw ad kk V23 L Z := by rw [hV23]; exact xw_ss (by decide) rfl (xb_si (by decide))
          have hP : va_P D vwCl (xw ad kk V23 L Z) H := by rw [← ew24]; exact hP
          have hD : va_D A (xw ad kk V23 L Z) := by rw [← ew24]; exact hD
          have hMV23 : rgd bX V23 := hMV13.put hV23 (show (-2) ≤ Int32.toInt (-2) ∧ Int32.toInt (-2) ≤ 23 from by decide)
          have agV23 : agr [(2, 7)] [15, 16, 17, 18, 19, 20] V V23 := agV13.up hV23 rfl
          have r25 : (-2) ≤ ((V13 20 (Int32.toNatClampNeg p0))).toInt ∧ ((V13 20 (Int32.toNatClampNeg p0))).toInt ≤ 23 := hMV13 20 (Int32.toNatClampNeg p0)
          have m2 : Int32.toInt (-2) = -2 := by decide
          have cl := cx_lo hV23 (by omega) (by omega) 24
          have pq26 : (V23 2 7).toInt = ((V13 2 7)).toInt := congrArg Int32.toInt (up2_o hV23 (by decide))
          have rp27 : ∀ q : Nat, (V 20 q).toInt ≠ -1 → (V23 20 q).toInt ≠ -1 := (fun q hq => by rcases Decidable.em (q = (Int32.toNatClampNeg p0)) with h9 | h9; (rw [h9, up2_s hV23]; omega); (rw [up2_k hV23 h9]; exact xlp14_2 q hq))
          exact W.vret hx hb hr (fun t ht hW => ⟨⟨(V23, L), rfl, ⟨hMV23, agV23, rfl, (show (V23 2 7).toInt + 192 * (cx V23 24 : Int) ≤ (V 2 7).toInt + 192 * (cx V 24 : Int) from by omega), (show (V 2 7).toInt ≤ (V23 2 7).toInt from by omega), rp27⟩, by rw [ht]; exact hP, va_K.moved hW.alike hK, hD⟩, hS.F ht⟩) hS.2.2 dX2_follow_167
        · skip
          have f28 : y12.toInt < ((V 49 (24 * b + (Int32.toNatClampNeg p0)))).toInt := b_nle rfl rfl c21
          refine lv_aload_n hx hb dX2_follow_39 rfl (lv_at hl 1 rfl) ?_
          refine va_get (D := D) (ci := 2) (v := rfN ad 38 (V13 2 6)) (fs := (xfChecker ad V13 L Z)) (C := RX2) (T := TX2) (N := 8) hx hb hg inX2 hown hK hP 2 xgChecker rfl 6 (by decide) (hg _ w344) (fun _ h9 => h9) rfl dX2_follow_40 ?_
          refine g_topv (v := .ref (ad (38 + b))) (rfN_r (by omega)) ?_
          refine va_getN (D := D) (ci := 0) (v := .ref (ad (64 + b))) (fs := (xfBook ad V13 b)) (C := RX0) (T := TX0) (N := 13) hx hb hg inX0 hown hK hP (38 + b) (xgBook hb2) rfl 7 (by decide) (hnw.use 615 n615 rfl) (fun _ h9 => h9) rfl dX2_follow_43 ?_
          refine lv_iload_n hx hb dX2_follow_46 rfl (lv_at hl 2 rfl) ?_
          refine va_aldq (D := D) (i := p0) hx hb hK hP (64 + b) (57 + b) (xgcomps il17) (xtcomps il17) (i_in (a := p0.toInt) rfl (by omega)) dX2_follow_47 ?_
          refine g_topv (v := .ref (ad (72 + (24 * b + (Int32.toNatClampNeg p0))))) (congrArg va_rf (if_pos (by omega))) ?_
          refine va_getN (D := D) (ci := 3) (v := .ref (ad (216 + (24 * b + (Int32.toNatClampNeg p0))))) (fs := (xfComp ad V13 (24 * b + (Int32.toNatClampNeg p0)))) (C := RX3) (T := TX3) (N := 13) hx hb hg inX3 hown hK hP (72 + (24 * b + (Int32.toNatClampNeg p0))) (xgComp il19) rfl 2 (by decide) (hnw.use 504 n504 rfl) (fun _ h9 => h9) rfl dX2_follow_48 ?_
          refine lv_iload_n hx hb dX2_follow_51 rfl (lv_at hl 0 rfl) ?_
          have il29 : (24 * b + (Int32.toNatClampNeg p0)) < 48 := by omega
          refine va_iald (D := D) (i := y12) hx hb hK hP (216 + (24 * b + (Int32.toNatClampNeg p0))) (209 + (24 * b + (Int32.toNatClampNeg p0))) (xgneedKinds il29) (xtneedKinds il29) (i_in (a := y12.toInt) rfl (by omega)) dX2_follow_52 ?_
          have kc30 := i_clamp (x := y12) rfl (by omega)
          refine g_top (v := V13 60 (8 * (24 * b + (Int32.toNatClampNeg p0)) + (Int32.toNatClampNeg y12))) (if_pos (by omega)) ?_
          refine g_top (v := (V 60 (8 * (24 * b + (Int32.toNatClampNeg p0)) + (Int32.toNatClampNeg y12)))) ((ajV13 60 (8 * (24 * b + (Int32.toNatClampNeg p0)) + (Int32.toNatClampNeg y12)) rfl).trans ((up2_o hV8 (by decide)).trans (up2_o hV6 (by decide)))) ?_
          refine lv_iconst (v := 1) hx hb dX2_follow_53 (by decide) ?_
          refine lv_icmp_ne (tgt := 61) hx hb dX2_follow_54 (by decide) (fun c31 => ?_) (fun c31 => ?_)
          · skip
            have f32 : ((V 60 (8 * (24 * b + (Int32.toNatClampNeg p0)) + (Int32.toNatClampNeg y12)))).toInt ≠ 1 := b_neq rfl (by decide) c31
            refine lv_aload_n hx hb dX2_follow_61 rfl (lv_at hl 1 rfl) ?_
            refine lv_iload_n hx hb dX2_follow_62 rfl (lv_at hl 2 rfl) ?_
            refine lv_iload_n hx hb dX2_follow_63 rfl (lv_at hl 0 rfl) ?_
            refine gA_int (gA_runV (As := [.int p0, .int y12]) (rest := []) (ci := 2) (q0 := 2) hx hb hml hown hg hP hD hK hS hA hnw hgk (x_followed l D ks H.size ad kk V13 L Z p0 y12 (b) hMV13 (by omega) (by omega) (show b < 2 from by omega) (show (V13 2 6).toInt = (b : Int) from by omega)) w1105 w1107 w39 w163 w1108 rfl xgChecker hdV_yX2_followed ⟨(by show 3 + 1 ≤ 10 * dd + 8; omega), (by show 8 + (4 + 11) + (78) ≤ 300 * dd + 260; omega)⟩ rfl hl.1 rfl (Nat.le_of_ble_eq_true rfl) dX2_follow_64 ⟨Nat.le_of_ble_eq_true rfl, Nat.le_of_ble_eq_true rfl⟩) hP hD hK hS hA (fun z33 u34 H locs w35 hP hD hK hS => ?_)
            refine lv_istore (lv' := [(4, .int z33), (3, .int y12), (0, .ref (ad 2)), (1, .int p0), (2, .int p1)]) hx hb dX2_follow_67 hl (by decide) rfl (fun ls hl => ?_)
            refine lv_iconst (v := 0) hx hb dX2_follow_69 (by decide) ?_
            refine lv_istore (lv' := [(5, .int 0), (4, .int z33), (3, .int y12), (0, .ref (ad 2)), (1, .int p0), (2, .int p1)]) hx hb dX2_follow_70 hl (by decide) rfl (fun ls hl => ?_)
            have lp38 : ∀ (fulp38 : Nat) (y36 : Int32) (V37 : Vf) (H : Heap) (locs : List Loc) (ls : Array Slot), 0 ≤ y36.toInt ∧ y36.toInt ≤ 24 → (V37 2 7).toInt + 192 * (cx V37 24 : Int) + 192 ≤ (V 2 7).toInt + 192 * (cx V 24 : Int) + 24 * y12.toInt + y36.toInt → (V 2 7).toInt ≤ (V37 2 7).toInt → (∀ q : Nat, (V 20 q).toInt ≠ -1 → (V37 20 q).toInt ≠ -1) → (V37 20 (Int32.toNatClampNeg p0)).toInt ≠ -1 → 24 - y36.toInt < (fulp38 : Int) → agr [(2, 7)] [15, 16, 17, 18, 19, 20] V13 V37 → rgd bX V37 → va_P D vwCl (xw ad kk V37 L Z) H → va_D A (xw ad kk V37 L Z) → va_S A s.heap H locs → lv_has ls 6 [(5, .int y36), (4, .int z33), (3, .int y12), (0, .ref (ad 2)), (1, .int p0), (2, .int p1)] → W p l e (rK 8 260 dd) s m ([.ref (ad 2), .int p0, .int p1] : List Value).toArray below meth c H locs 0 0 (MQ below (q_x_follow D ks ad kk V L Z p0 p1 b A) ([.ref (ad 2), .int p0, .int p1] : List Value).toArray s 0 0 A) (F0 m 72 ls []) := by
              intro fulp38
              induction fulp38 with
              | zero =>
                intro y36 V37 H locs ls klp38_0 xlp38_0 xlp38_1 xlp38_2 xlp38_3 hn ajV37 hMV37 hP hD hS hl
                exfalso; omega
              | succ fulp38 ihlp38 =>
                intro y36 V37 H locs ls klp38_0 xlp38_0 xlp38_1 xlp38_2 xlp38_3 hn ajV37 hMV37 hP hD hS hl
                have agV37 : agr [(2, 7)] [15, 16, 17, 18, 19, 20] V V37 := agV13.tr ajV37 (by decide) (by decide)
                have r39 : 0 ≤ ((V37 2 7)).toInt ∧ ((V37 2 7)).toInt ≤ 1000000 := hMV37 2 7
                refine lv_iload hx hb dX2_follow_72 (lv_at hl 0 rfl) ?_
                refine lv_aload_n hx hb dX2_follow_74 rfl (lv_at hl 3 rfl) ?_
                refine va_get (D := D) (ci := 2) (v := rfN ad 38 (V37 2 6)) (fs := (xfChecker ad V37 L Z)) (C := RX2) (T := TX2) (N := 8) hx hb hg inX2 hown hK hP 2 xgChecker rfl 6 (by decide) (hg _ w344) (fun _ h9 => h9) rfl dX2_follow_75 ?_
                have pq40 : (V37 2 6).toInt = ((V 2 6)).toInt := congrArg Int32.toInt ((ajV37 2 6 rfl).trans ((ajV13 2 6 rfl).trans ((up2_o hV8 (by decide)).trans (up2_o hV6 (by decide)))))
                refine g_topv (v := .ref (ad (38 + b))) (rfN_r (by omega)) ?_
                refine va_getN (D := D) (ci := 0) (v := .ref (ad (40 + (5 * b + 2)))) (fs := (xfBook ad V37 b)) (C := RX0) (T := TX0) (N := 13) hx hb hg inX0 hown hK hP (38 + b) (xgBook hb2) rfl 2 (by decide) (hnw.use 600 n600 rfl) (fun _ h9 => h9) rfl dX2_follow_78 ?_
                have il41 : (5 * b + 2) < 10 := by omega
                refine va_getN (D := D) (ci := 6) (v := .int (V37 43 (5 * b + 2))) (fs := (xfNames ad V37 (5 * b + 2))) (C := RX6) (T := TX6) (N := 2) hx hb hg inX6 hown hK hP (40 + (5 * b + 2)) (xgNames il41) rfl 1 (by decide) (hnw.use 482 n482 rfl) (fun _ h9 => h9) rfl dX2_follow_81 ?_
                refine g_top (v := (V 43 (5 * b + 2))) ((ajV37 43 (5 * b + 2) rfl).trans ((ajV13 43 (5 * b + 2) rfl).trans ((up2_o hV8 (by decide)).trans (up2_o hV6 (by decide))))) ?_
                have r42 : 0 ≤ ((V 43 (5 * b + 2))).toInt ∧ ((V 43 (5 * b + 2))).toInt ≤ ((xcap (5 * b + 2) : Nat) : Int) := hMV 43 (5 * b + 2)
                have r43 : xcap (5 * b + 2) = 24 := xcap_2
                refine lv_icmp_ge (tgt := 153) hx hb dX2_follow_84 (by decide) (fun c44 => ?_) (fun c44 => ?_)
                · skip
                  have f45 : ((V 43 (5 * b + 2))).toInt ≤ y36.toInt := b_le rfl rfl c44
                  obtain ⟨z46, ez46⟩ : ∃ y : Int32, y = y12 + 1 := ⟨_, rfl⟩
                  have hz46 : z46.toInt = y12.toInt + 1 := i_add ez46 rfl (by decide) (by omega)
                  refine lv_iinc (v := z46) (lv' := [(3, .int z46), (5, .int y36), (4, .int z33), (0, .ref (ad 2)), (1, .int p0), (2, .int p1)]) hx hb dX2_follow_153 hl (k := 2) rfl (by rw [ez46]; rfl) (by decide) rfl (fun ls hl => ?_)
                  refine lv_goto (tgt := 23) hx hb dX2_follow_156 (by decide) ?_
                  exact ihlp14 z46 V37 H locs ls (by omega) (show (V37 2 7).toInt + 192 * (cx V37 24 : Int) + 192 ≤ (V 2 7).toInt + 192 * (cx V 24 : Int) + 24 * z46.toInt from by omega) (show (V 2 7).toInt ≤ (V37 2 7).toInt from by omega) xlp38_2 xlp38_3 (by omega) (agr.tr (agr.tr agr.rf ajV13 (by decide) (by decide)) ajV37 (by decide) (by decide)) hMV37 hP hD hS (lv_sub hl [0, 3, 4, 5] rfl)
                · skip
                  have f47 : y36.toInt < ((V 43 (5 * b + 2))).toInt := b_nle rfl rfl c44
                  refine lv_iload hx hb dX2_follow_87 (lv_at hl 1 rfl) ?_
                  refine lv_iload hx hb dX2_follow_89 (lv_at hl 0 rfl) ?_
                  refine lv_ishr hx hb dX2_follow_91 ?_
                  refine lv_topi (fun z48 ez48 => ?_)
                  refine lv_iconst (v := 1) hx hb dX2_follow_92 (by decide) ?_
                  refine lv_iand hx hb dX2_follow_93 ?_
                  refine lv_topi (fun z49 ez49 => ?_)
                  have hz49 : 0 ≤ z49.toInt ∧ z49.toInt ≤ 1 := and_m ez49 (by decide)
                  refine lv_if_ne (tgt := 100) hx hb dX2_follow_94 (by decide) (fun c50 => ?_) (fun c50 => ?_)
                  · skip
                    have f51 : z49.toInt ≠ 0 := b_neq rfl (by decide) c50
                    refine lv_aload_n hx hb dX2_follow_100 rfl (lv_at hl 3 rfl) ?_
                    refine va_get (D := D) (ci := 2) (v := .ref (ad 17)) (fs := (xfChecker ad V37 L Z)) (C := RX2) (T := TX2) (N := 8) hx hb hg inX2 hown hK hP 2 xgChecker rfl 5 (by decide) (hg _ w343) (fun _ h9 => h9) rfl dX2_follow_101 ?_
                    refine lv_iload hx hb dX2_follow_104 (lv_at hl 0 rfl) ?_
                    refine va_iald (D := D) (i := y36) hx hb hK hP 17 10 rfl rfl (i_in (a := y36.toInt) rfl (by omega)) dX2_follow_106 ?_
                    have r52 : (-2) ≤ ((V37 20 (Int32.toNatClampNeg y36))).toInt ∧ ((V37 20 (Int32.toNatClampNeg y36))).toInt ≤ 23 := hMV37 20 (Int32.toNatClampNeg y36)
                    refine lv_iconst (v := (-1)) hx hb dX2_follow_107 (by decide) ?_
                    refine lv_icmp_ne (tgt := 123) hx hb dX2_follow_108 (by decide) (fun c53 => ?_) (fun c53 => ?_)
                    · skip
                      have f54 : ((V37 20 (Int32.toNatClampNeg y36))).toInt ≠ (-1) := b_neq rfl (by decide) c53
                      refine lv_aload_n hx hb dX2_follow_123 rfl (lv_at hl 3 rfl) ?_
                      refine va_get (D := D) (ci := 2) (v := .ref (ad 17)) (fs := (xfChecker ad V37 L Z)) (C := RX2) (T := TX2) (N := 8) hx hb hg inX2 hown hK hP 2 xgChecker rfl 5 (by decide) (hg _ w343) (fun _ h9 => h9) rfl dX2_follow_124 ?_
                      refine lv_iload hx hb dX2_follow_127 (lv_at hl 0 rfl) ?_
                      refine va_iald (D := D) (i := y36) hx hb hK hP 17 10 rfl rfl (i_in (a := y36.toInt) rfl (by omega)) dX2_follow_129 ?_
                      refine lv_bipush (v := (-2)) hx hb dX2_follow_130 (by decide) ?_
                      refine lv_icmp_eq (tgt := 147) hx hb dX2_follow_132 (by decide) (fun c55 => ?_) (fun c55 => ?_)
                      · skip
                        have f56 : ((V37 20 (Int32.toNatClampNeg y36))).toInt = (-2) := b_eq rfl (by decide) c55
                        obtain ⟨z57, ez57⟩ : ∃ y : Int32, y = y36 + 1 := ⟨_, rfl⟩
                        have hz57 : z57.toInt = y36.toInt + 1 := i_add ez57 rfl (by decide) (by omega)
                        refine lv_iinc (v := z57) (lv' := [(5, .int z57), (4, .int z33), (3, .int y12), (0, .ref (ad 2)), (1, .int p0), (2, .int p1)]) hx hb dX2_follow_147 hl (k := 0) rfl (by rw [ez57]; rfl) (by decide) rfl (fun ls hl => ?_)
                        refine lv_goto (tgt := 72) hx hb dX2_follow_150 (by decide) ?_
                        exact ihlp38 z57 V37 H locs ls (by omega) (show (V37 2 7).toInt + 192 * (cx V37 24 : Int) + 192 ≤ (V 2 7).toInt + 192 * (cx V 24 : Int) + 24 * y12.toInt + z57.toInt from by omega) (show (V 2 7).toInt ≤ (V37 2 7).toInt from by omega) xlp38_2 xlp38_3 (by omega) (agr.tr agr.rf ajV37 (by decide) (by decide)) hMV37 hP hD hS (lv_sub hl [0, 1, 2, 3, 4, 5] rfl)
                      · skip
                        have f58 : ((V37 20 (Int32.toNatClampNeg y36))).toInt ≠ (-2) := b_neq rfl (by decide) c55
                        refine lv_aload_n hx hb dX2_follow_135 rfl (lv_at hl 3 rfl) ?_
                        refine lv_aload_n hx hb dX2_follow_136 rfl (lv_at hl 3 rfl) ?_
                        refine va_get (D := D) (ci := 2) (v := .ref (ad 17)) (fs := (xfChecker ad V37 L Z)) (C := RX2) (T := TX2) (N := 8) hx hb hg inX2 hown hK hP 2 xgChecker rfl 5 (by decide) (hg _ w343) (fun _ h9 => h9) rfl dX2_follow_137 ?_
                        refine lv_iload hx hb dX2_follow_140 (lv_at hl 0 rfl) ?_
                        refine va_iald (D := D) (i := y36) hx hb hK hP 17 10 rfl rfl (i_in (a := y36.toInt) rfl (by omega)) dX2_follow_142 ?_
                        refine lv_iload_n hx hb dX2_follow_143 rfl (lv_at hl 5 rfl) ?_
                        refine gA_void (gA_runV (As := [.int (V37 20 (Int32.toNatClampNeg y36)), .int p1]) (rest := []) (ci := 2) (q0 := 2) hx hb hml hown hg hP hD hK hS hA hnw hgk (x_noteRing l D ks H.size ad kk V37 L Z (V37 20 (Int32.toNatClampNeg y36)) p1 hMV37 (by omega) (by omega) (show (V37 2 7).toInt ≤ 999999 from by omega)) w1109 w1111 w40 w163 w1112 rfl xgChecker hdV_yX2_noteRing ⟨(by show 1 + 1 ≤ 10 * dd + 8; omega), (by show 8 + (4 + 11) + (23) ≤ 300 * dd + 260; omega)⟩ rfl hl.1 rfl (Nat.le_of_ble_eq_true rfl) dX2_follow_144 ⟨Nat.le_of_ble_eq_true rfl, Nat.le_of_ble_eq_true rfl⟩) hP hD hK hS hA (fun u60 H locs w61 hP hD hK hS => ?_)
                        obtain ⟨V63, L64⟩ := u60
                        obtain ⟨hMV63, ajV63, axL64, t62⟩ := w61
                        have axL64 : L = L64 := Eq.symm axL64
                        subst axL64
                        have hP : va_P D vwCl (xw ad kk V63 L Z) H := hP
                        have hD : va_D A (xw ad kk V63 L Z) := hD
                        have hMV63 : rgd bX V63 := hMV63
                        have ajV63 : agr [(2, 7)] [15, 16, 17, 18] V37 V63 := ajV63
                        have agV63 : agr [(2, 7)] [15, 16, 17, 18, 19, 20] V V63 := agV37.tr ajV63 (by decide) (by decide)
                        have t62 : (V63 2 7).toInt = (V37 2 7).toInt + 1 := t62
                        have r65 : 0 ≤ ((V63 2 7)).toInt ∧ ((V63 2 7)).toInt ≤ 1000000 := hMV63 2 7
                        obtain ⟨z66, ez66⟩ : ∃ y : Int32, y = y36 + 1 := ⟨_, rfl⟩
                        have hz66 : z66.toInt = y36.toInt + 1 := i_add ez66 rfl (by decide) (by omega)
                        refine lv_iinc (v := z66) (lv' := [(5, .int z66), (4, .int z33), (3, .int y12), (0, .ref (ad 2)), (1, .int p0), (2, .int p1)]) hx hb dX2_follow_147 hl (k := 0) rfl (by rw [ez66]; rfl) (by decide) rfl (fun ls hl => ?_)
                        refine lv_goto (tgt := 72) hx hb dX2_follow_150 (by decide) ?_
                        have cq67 : cx V63 24 = cx V37 24 := cx_ag (show agr [(2, 7)] [15, 16, 17, 18] V37 V63 from (agr.tr agr.rf ajV63 (by decide) (by decide))) (fun _ => rfl) 24
                        exact ihlp38 z66 V63 H locs ls (by omega) (show (V63 2 7).toInt + 192 * (cx V63 24 : Int) + 192 ≤ (V 2 7).toInt + 192 * (cx V 24 : Int) + 24 * y12.toInt + z66.toInt from by omega) (show (V 2 7).toInt ≤ (V63 2 7).toInt from by omega) (fun q hq => by rw [ajV63 20 q rfl]; exact xlp38_2 q hq) (by rw [ajV63 20 _ rfl]; exact xlp38_3) (by omega) (agr.tr (agr.tr agr.rf ajV37 (by decide) (by decide)) ajV63 (by decide) (by decide)) hMV63 hP hD hS (lv_sub hl [0, 1, 2, 3, 4, 5] rfl)
                    · skip
                      have f68 : ((V37 20 (Int32.toNatClampNeg y36))).toInt = (-1) := b_eq rfl (by decide) c53
                      refine lv_aload_n hx hb dX2_follow_111 rfl (lv_at hl 3 rfl) ?_
                      obtain ⟨d9, rfl⟩ : ∃ d9, dd = d9 + 1 := ⟨dd - 1, by omega⟩
                      refine lv_iload hx hb dX2_follow_112 (lv_at hl 0 rfl) ?_
                      refine lv_iload_n hx hb dX2_follow_114 rfl (lv_at hl 5 rfl) ?_
                      refine lv_iconst (v := 1) hx hb dX2_follow_115 (by decide) ?_
                      refine lv_iadd hx hb dX2_follow_116 ?_
                      refine lv_topi (fun z69 ez69 => ?_)
                      have hz69 : z69.toInt = p1.toInt + 1 := i_add ez69 rfl (by decide) (by omega)
                      refine gA_void (gA_runV (As := [.int y36, .int z69]) (rest := []) (ci := 2) (q0 := 2) hx hb hml hown hg hP hD hK hS hA hnw hgk ((hk_x_follow d9 rfl) H.size ad kk V37 L Z y36 z69 (b) hMV37 (by omega) (by omega) (show b < 2 from by omega) (show (V37 2 6).toInt = (b : Int) from by omega) (show (V37 20 (Int32.toNatClampNeg y36)).toInt = -1 from by omega) (show 24 - z69.toInt ≤ ((d9 : Nat) : Int) from by omega) (show (V37 2 7).toInt + 192 * (cx V37 24 : Int) ≤ 999000 from by omega)) w1101 w1103 w38 w163 w1104 rfl xgChecker hdV_yX2_follow ⟨(by show 10 * d9 + 8 + 1 ≤ 10 * (d9 + 1) + 8; omega), (by show 8 + (6 + 11) + (300 * d9 + 260) ≤ 300 * (d9 + 1) + 260; omega)⟩ rfl hl.1 rfl (Nat.le_of_ble_eq_true rfl) dX2_follow_117 ⟨Nat.le_of_ble_eq_true rfl, Nat.le_of_ble_eq_true rfl⟩) hP hD hK hS hA (fun u71 H locs w72 hP hD hK hS => ?_)
                      obtain ⟨V76, L77⟩ := u71
                      obtain ⟨hMV76, ajV76, axL77, t73, t74, t75⟩ := w72
                      have axL77 : L = L77 := Eq.symm axL77
                      subst axL77
                      have hP : va_P D vwCl (xw ad kk V76 L Z) H := hP
                      have hD : va_D A (xw ad kk V76 L Z) := hD
                      have hMV76 : rgd bX V76 := hMV76
                      have ajV76 : agr [(2, 7)] [15, 16, 17, 18, 19, 20] V37 V76 := ajV76
                      have agV76 : agr [(2, 7)] [15, 16, 17, 18, 19, 20] V V76 := agV37.tr ajV76 (by decide) (by decide)
                      have t73 : (V76 2 7).toInt + 192 * (cx V76 24 : Int) ≤ (V37 2 7).toInt + 192 * (cx V37 24 : Int) := t73
                      have t74 : (V37 2 7).toInt ≤ (V76 2 7).toInt := t74
                      have t75 : (∀ q : Nat, (V37 20 q).toInt ≠ -1 → (V76 20 q).toInt ≠ -1) := t75
                      have r78 : 0 ≤ ((V76 2 7)).toInt ∧ ((V76 2 7)).toInt ≤ 1000000 := hMV76 2 7
                      refine lv_goto (tgt := 147) hx hb dX2_follow_120 (by decide) ?_
                      obtain ⟨z79, ez79⟩ : ∃ y : Int32, y = y36 + 1 := ⟨_, rfl⟩
                      have hz79 : z79.toInt = y36.toInt + 1 := i_add ez79 rfl (by decide) (by omega)
                      refine lv_iinc (v := z79) (lv' := [(5, .int z79), (4, .int z33), (3, .int y12), (0, .ref (ad 2)), (1, .int p0), (2, .int p1)]) hx hb dX2_follow_147 hl (k := 0) rfl (by rw [ez79]; rfl) (by decide) rfl (fun ls hl => ?_)
                      refine lv_goto (tgt := 72) hx hb dX2_follow_150 (by decide) ?_
                      exact ihlp38 z79 V76 H locs ls (by omega) (show (V76 2 7).toInt + 192 * (cx V76 24 : Int) + 192 ≤ (V 2 7).toInt + 192 * (cx V 24 : Int) + 24 * y12.toInt + z79.toInt from by omega) (show (V 2 7).toInt ≤ (V76 2 7).toInt from by omega) (fun q hq => t75 q (xlp38_2 q hq)) (t75 _ xlp38_3) (by omega) (agr.tr (agr.tr agr.rf ajV37 (by decide) (by decide)) ajV76 (by decide) (by decide)) hMV76 hP hD hS (lv_sub hl [0, 1, 2, 3, 4, 5] rfl)
                  · skip
                    have f80 : z49.toInt = 0 := b_eq rfl (by decide) c50
                    refine lv_goto (tgt := 147) hx hb dX2_follow_97 (by decide) ?_
                    obtain ⟨z81, ez81⟩ : ∃ y : Int32, y = y36 + 1 := ⟨_, rfl⟩
                    have hz81 : z81.toInt = y36.toInt + 1 := i_add ez81 rfl (by decide) (by omega)
                    refine lv_iinc (v := z81) (lv' := [(5, .int z81), (4, .int z33), (3, .int y12), (0, .ref (ad 2)), (1, .int p0), (2, .int p1)]) hx hb dX2_follow_147 hl (k := 0) rfl (by rw [ez81]; rfl) (by decide) rfl (fun ls hl => ?_)
                    refine lv_goto (tgt := 72) hx hb dX2_follow_150 (by decide) ?_
                    exact ihlp38 z81 V37 H locs ls (by omega) (show (V37 2 7).toInt + 192 * (cx V37 24 : Int) + 192 ≤ (V 2 7).toInt + 192 * (cx V 24 : Int) + 24 * y12.toInt + z81.toInt from by omega) (show (V 2 7).toInt ≤ (V37 2 7).toInt from by omega) xlp38_2 xlp38_3 (by omega) (agr.tr agr.rf ajV37 (by decide) (by decide)) hMV37 hP hD hS (lv_sub hl [0, 1, 2, 3, 4, 5] rfl)
            have r82 : Int32.toInt 0 = 0 := by decide
            exact lp38 ((24 - (Int32.toInt 0) + 1 : Int).toNat) 0 V13 H locs ls (by decide) (show (V13 2 7).toInt + 192 * (cx V13 24 : Int) + 192 ≤ (V 2 7).toInt + 192 * (cx V 24 : Int) + 24 * y12.toInt + (Int32.toInt 0) from by omega) (show (V 2 7).toInt ≤ (V13 2 7).toInt from by omega) xlp14_2 xlp14_3 (by omega) agr.rf hMV13 hP hD hS (lv_sub hl [0, 1, 2, 3, 4, 5] rfl)
          · skip
            have f83 : ((V 60 (8 * (24 * b + (Int32.toNatClampNeg p0)) + (Int32.toNatClampNeg y12)))).toInt = 1 := b_eq rfl (by decide) c31
            refine lv_iconst (v := 0) hx hb dX2_follow_57 (by decide) ?_
            refine lv_goto (tgt := 67) hx hb dX2_follow_58 (by decide) ?_
            refine lv_istore (lv' := [(4, .int 0), (3, .int y12), (0, .ref (ad 2)), (1, .int p0), (2, .int p1)]) hx hb dX2_follow_67 hl (by decide) rfl (fun ls hl => ?_)
            refine lv_iconst (v := 0) hx hb dX2_follow_69 (by decide) ?_
            refine lv_istore (lv' := [(5, .int 0), (4, .int 0), (3, .int y12), (0, .ref (ad 2)), (1, .int p0), (2, .int p1)]) hx hb dX2_follow_70 hl (by decide) rfl (fun ls hl => ?_)
            have lp86 : ∀ (fulp86 : Nat) (y84 : Int32) (V85 : Vf) (H : Heap) (locs : List Loc) (ls : Array Slot), 0 ≤ y84.toInt ∧ y84.toInt ≤ 24 → (V85 2 7).toInt + 192 * (cx V85 24 : Int) + 192 ≤ (V 2 7).toInt + 192 * (cx V 24 : Int) + 24 * y12.toInt + y84.toInt → (V 2 7).toInt ≤ (V85 2 7).toInt → (∀ q : Nat, (V 20 q).toInt ≠ -1 → (V85 20 q).toInt ≠ -1) → (V85 20 (Int32.toNatClampNeg p0)).toInt ≠ -1 → 24 - y84.toInt < (fulp86 : Int) → agr [(2, 7)] [15, 16, 17, 18, 19, 20] V13 V85 → rgd bX V85 → va_P D vwCl (xw ad kk V85 L Z) H → va_D A (xw ad kk V85 L Z) → va_S A s.heap H locs → lv_has ls 6 [(5, .int y84), (4, .int 0), (3, .int y12), (0, .ref (ad 2)), (1, .int p0), (2, .int p1)] → W p l e (rK 8 260 dd) s m ([.ref (ad 2), .int p0, .int p1] : List Value).toArray below meth c H locs 0 0 (MQ below (q_x_follow D ks ad kk V L Z p0 p1 b A) ([.ref (ad 2), .int p0, .int p1] : List Value).toArray s 0 0 A) (F0 m 72 ls []) := by
              intro fulp86
              induction fulp86 with
              | zero =>
                intro y84 V85 H locs ls klp86_0 xlp86_0 xlp86_1 xlp86_2 xlp86_3 hn ajV85 hMV85 hP hD hS hl
                exfalso; omega
              | succ fulp86 ihlp86 =>
                intro y84 V85 H locs ls klp86_0 xlp86_0 xlp86_1 xlp86_2 xlp86_3 hn ajV85 hMV85 hP hD hS hl
                have agV85 : agr [(2, 7)] [15, 16, 17, 18, 19, 20] V V85 := agV13.tr ajV85 (by decide) (by decide)
                have r87 : 0 ≤ ((V85 2 7)).toInt ∧ ((V85 2 7)).toInt ≤ 1000000 := hMV85 2 7
                refine lv_iload hx hb dX2_follow_72 (lv_at hl 0 rfl) ?_
                refine lv_aload_n hx hb dX2_follow_74 rfl (lv_at hl 3 rfl) ?_
                refine va_get (D := D) (ci := 2) (v := rfN ad 38 (V85 2 6)) (fs := (xfChecker ad V85 L Z)) (C := RX2) (T := TX2) (N := 8) hx hb hg inX2 hown hK hP 2 xgChecker rfl 6 (by decide) (hg _ w344) (fun _ h9 => h9) rfl dX2_follow_75 ?_
                have pq88 : (V85 2 6).toInt = ((V 2 6)).toInt := congrArg Int32.toInt ((ajV85 2 6 rfl).trans ((ajV13 2 6 rfl).trans ((up2_o hV8 (by decide)).trans (up2_o hV6 (by decide)))))
                refine g_topv (v := .ref (ad (38 + b))) (rfN_r (by omega)) ?_
                refine va_getN (D := D) (ci := 0) (v := .ref (ad (40 + (5 * b + 2)))) (fs := (xfBook ad V85 b)) (C := RX0) (T := TX0) (N := 13) hx hb hg inX0 hown hK hP (38 + b) (xgBook hb2) rfl 2 (by decide) (hnw.use 600 n600 rfl) (fun _ h9 => h9) rfl dX2_follow_78 ?_
                have il89 : (5 * b + 2) < 10 := by omega
                refine va_getN (D := D) (ci := 6) (v := .int (V85 43 (5 * b + 2))) (fs := (xfNames ad V85 (5 * b + 2))) (C := RX6) (T := TX6) (N := 2) hx hb hg inX6 hown hK hP (40 + (5 * b + 2)) (xgNames il89) rfl 1 (by decide) (hnw.use 482 n482 rfl) (fun _ h9 => h9) rfl dX2_follow_81 ?_
                refine g_top (v := (V 43 (5 * b + 2))) ((ajV85 43 (5 * b + 2) rfl).trans ((ajV13 43 (5 * b + 2) rfl).trans ((up2_o hV8 (by decide)).trans (up2_o hV6 (by decide))))) ?_
                have r90 : 0 ≤ ((V 43 (5 * b + 2))).toInt ∧ ((V 43 (5 * b + 2))).toInt ≤ ((xcap (5 * b + 2) : Nat) : Int) := hMV 43 (5 * b + 2)
                have r91 : xcap (5 * b + 2) = 24 := xcap_2
                refine lv_icmp_ge (tgt := 153) hx hb dX2_follow_84 (by decide) (fun c92 => ?_) (fun c92 => ?_)
                · skip
                  have f93 : ((V 43 (5 * b + 2))).toInt ≤ y84.toInt := b_le rfl rfl c92
                  obtain ⟨z94, ez94⟩ : ∃ y : Int32, y = y12 + 1 := ⟨_, rfl⟩
                  have hz94 : z94.toInt = y12.toInt + 1 := i_add ez94 rfl (by decide) (by omega)
                  refine lv_iinc (v := z94) (lv' := [(3, .int z94), (5, .int y84), (4, .int 0), (0, .ref (ad 2)), (1, .int p0), (2, .int p1)]) hx hb dX2_follow_153 hl (k := 2) rfl (by rw [ez94]; rfl) (by decide) rfl (fun ls hl => ?_)
                  refine lv_goto (tgt := 23) hx hb dX2_follow_156 (by decide) ?_
                  have r95 : Int32.toInt 0 = 0 := by decide
                  exact ihlp14 z94 V85 H locs ls (by omega) (show (V85 2 7).toInt + 192 * (cx V85 24 : Int) + 192 ≤ (V 2 7).toInt + 192 * (cx V 24 : Int) + 24 * z94.toInt from by omega) (show (V 2 7).toInt ≤ (V85 2 7).toInt from by omega) xlp86_2 xlp86_3 (by omega) (agr.tr (agr.tr agr.rf ajV13 (by decide) (by decide)) ajV85 (by decide) (by decide)) hMV85 hP hD hS (lv_sub hl [0, 3, 4, 5] rfl)
                · skip
                  have f96 : y84.toInt < ((V 43 (5 * b + 2))).toInt := b_nle rfl rfl c92
                  refine lv_iload hx hb dX2_follow_87 (lv_at hl 1 rfl) ?_
                  refine lv_iload hx hb dX2_follow_89 (lv_at hl 0 rfl) ?_
                  refine lv_ishr hx hb dX2_follow_91 ?_
                  refine lv_topi (fun z97 ez97 => ?_)
                  refine lv_iconst (v := 1) hx hb dX2_follow_92 (by decide) ?_
                  refine lv_iand hx hb dX2_follow_93 ?_
                  refine lv_topi (fun z98 ez98 => ?_)
                  have hz98 : 0 ≤ z98.toInt ∧ z98.toInt ≤ 1 := and_m ez98 (by decide)
                  refine lv_if_ne (tgt := 100) hx hb dX2_follow_94 (by decide) (fun c99 => ?_) (fun c99 => ?_)
                  · skip
                    have f100 : z98.toInt ≠ 0 := b_neq rfl (by decide) c99
                    refine lv_aload_n hx hb dX2_follow_100 rfl (lv_at hl 3 rfl) ?_
                    refine va_get (D := D) (ci := 2) (v := .ref (ad 17)) (fs := (xfChecker ad V85 L Z)) (C := RX2) (T := TX2) (N := 8) hx hb hg inX2 hown hK hP 2 xgChecker rfl 5 (by decide) (hg _ w343) (fun _ h9 => h9) rfl dX2_follow_101 ?_
                    refine lv_iload hx hb dX2_follow_104 (lv_at hl 0 rfl) ?_
                    refine va_iald (D := D) (i := y84) hx hb hK hP 17 10 rfl rfl (i_in (a := y84.toInt) rfl (by omega)) dX2_follow_106 ?_
                    have r101 : (-2) ≤ ((V85 20 (Int32.toNatClampNeg y84))).toInt ∧ ((V85 20 (Int32.toNatClampNeg y84))).toInt ≤ 23 := hMV85 20 (Int32.toNatClampNeg y84)
                    refine lv_iconst (v := (-1)) hx hb dX2_follow_107 (by decide) ?_
                    refine lv_icmp_ne (tgt := 123) hx hb dX2_follow_108 (by decide) (fun c102 => ?_) (fun c102 => ?_)
                    · skip
                      have f103 : ((V85 20 (Int32.toNatClampNeg y84))).toInt ≠ (-1) := b_neq rfl (by decide) c102
                      refine lv_aload_n hx hb dX2_follow_123 rfl (lv_at hl 3 rfl) ?_
                      refine va_get (D := D) (ci := 2) (v := .ref (ad 17)) (fs := (xfChecker ad V85 L Z)) (C := RX2) (T := TX2) (N := 8) hx hb hg inX2 hown hK hP 2 xgChecker rfl 5 (by decide) (hg _ w343) (fun _ h9 => h9) rfl dX2_follow_124 ?_
                      refine lv_iload hx hb dX2_follow_127 (lv_at hl 0 rfl) ?_
                      refine va_iald (D := D) (i := y84) hx hb hK hP 17 10 rfl rfl (i_in (a := y84.toInt) rfl (by omega)) dX2_follow_129 ?_
                      refine lv_bipush (v := (-2)) hx hb dX2_follow_130 (by decide) ?_
                      refine lv_icmp_eq (tgt := 147) hx hb dX2_follow_132 (by decide) (fun c104 => ?_) (fun c104 => ?_)
                      · skip
                        have f105 : ((V85 20 (Int32.toNatClampNeg y84))).toInt = (-2) := b_eq rfl (by decide) c104
                        obtain ⟨z106, ez106⟩ : ∃ y : Int32, y = y84 + 1 := ⟨_, rfl⟩
                        have hz106 : z106.toInt = y84.toInt + 1 := i_add ez106 rfl (by decide) (by omega)
                        refine lv_iinc (v := z106) (lv' := [(5, .int z106), (4, .int 0), (3, .int y12), (0, .ref (ad 2)), (1, .int p0), (2, .int p1)]) hx hb dX2_follow_147 hl (k := 0) rfl (by rw [ez106]; rfl) (by decide) rfl (fun ls hl => ?_)
                        refine lv_goto (tgt := 72) hx hb dX2_follow_150 (by decide) ?_
                        have r107 : Int32.toInt 0 = 0 := by decide
                        exact ihlp86 z106 V85 H locs ls (by omega) (show (V85 2 7).toInt + 192 * (cx V85 24 : Int) + 192 ≤ (V 2 7).toInt + 192 * (cx V 24 : Int) + 24 * y12.toInt + z106.toInt from by omega) (show (V 2 7).toInt ≤ (V85 2 7).toInt from by omega) xlp86_2 xlp86_3 (by omega) (agr.tr agr.rf ajV85 (by decide) (by decide)) hMV85 hP hD hS (lv_sub hl [0, 1, 2, 3, 4, 5] rfl)
                      · skip
                        have f108 : ((V85 20 (Int32.toNatClampNeg y84))).toInt ≠ (-2) := b_neq rfl (by decide) c104
                        refine lv_aload_n hx hb dX2_follow_135 rfl (lv_at hl 3 rfl) ?_
                        refine lv_aload_n hx hb dX2_follow_136 rfl (lv_at hl 3 rfl) ?_
                        refine va_get (D := D) (ci := 2) (v := .ref (ad 17)) (fs := (xfChecker ad V85 L Z)) (C := RX2) (T := TX2) (N := 8) hx hb hg inX2 hown hK hP 2 xgChecker rfl 5 (by decide) (hg _ w343) (fun _ h9 => h9) rfl dX2_follow_137 ?_
                        refine lv_iload hx hb dX2_follow_140 (lv_at hl 0 rfl) ?_
                        refine va_iald (D := D) (i := y84) hx hb hK hP 17 10 rfl rfl (i_in (a := y84.toInt) rfl (by omega)) dX2_follow_142 ?_
                        refine lv_iload_n hx hb dX2_follow_143 rfl (lv_at hl 5 rfl) ?_
                        refine gA_void (gA_runV (As := [.int (V85 20 (Int32.toNatClampNeg y84)), .int p1]) (rest := []) (ci := 2) (q0 := 2) hx hb hml hown hg hP hD hK hS hA hnw hgk (x_noteRing l D ks H.size ad kk V85 L Z (V85 20 (Int32.toNatClampNeg y84)) p1 hMV85 (by omega) (by omega) (show (V85 2 7).toInt ≤ 999999 from by omega)) w1109 w1111 w40 w163 w1112 rfl xgChecker hdV_yX2_noteRing ⟨(by show 1 + 1 ≤ 10 * dd + 8; omega), (by show 8 + (4 + 11) + (23) ≤ 300 * dd + 260; omega)⟩ rfl hl.1 rfl (Nat.le_of_ble_eq_true rfl) dX2_follow_144 ⟨Nat.le_of_ble_eq_true rfl, Nat.le_of_ble_eq_true rfl⟩) hP hD hK hS hA (fun u110 H locs w111 hP hD hK hS => ?_)
                        obtain ⟨V113, L114⟩ := u110
                        obtain ⟨hMV113, ajV113, axL114, t112⟩ := w111
                        have axL114 : L = L114 := Eq.symm axL114
                        subst axL114
                        have hP : va_P D vwCl (xw ad kk V113 L Z) H := hP
                        have hD : va_D A (xw ad kk V113 L Z) := hD
                        have hMV113 : rgd bX V113 := hMV113
                        have ajV113 : agr [(2, 7)] [15, 16, 17, 18] V85 V113 := ajV113
                        have agV113 : agr [(2, 7)] [15, 16, 17, 18, 19, 20] V V113 := agV85.tr ajV113 (by decide) (by decide)
                        have t112 : (V113 2 7).toInt = (V85 2 7).toInt + 1 := t112
                        have r115 : 0 ≤ ((V113 2 7)).toInt ∧ ((V113 2 7)).toInt ≤ 1000000 := hMV113 2 7
                        obtain ⟨z116, ez116⟩ : ∃ y : Int32, y = y84 + 1 := ⟨_, rfl⟩
                        have hz116 : z116.toInt = y84.toInt + 1 := i_add ez116 rfl (by decide) (by omega)
                        refine lv_iinc (v := z116) (lv' := [(5, .int z116), (4, .int 0), (3, .int y12), (0, .ref (ad 2)), (1, .int p0), (2, .int p1)]) hx hb dX2_follow_147 hl (k := 0) rfl (by rw [ez116]; rfl) (by decide) rfl (fun ls hl => ?_)
                        refine lv_goto (tgt := 72) hx hb dX2_follow_150 (by decide) ?_
                        have r117 : Int32.toInt 0 = 0 := by decide
                        have cq118 : cx V113 24 = cx V85 24 := cx_ag (show agr [(2, 7)] [15, 16, 17, 18] V85 V113 from (agr.tr agr.rf ajV113 (by decide) (by decide))) (fun _ => rfl) 24
                        exact ihlp86 z116 V113 H locs ls (by omega) (show (V113 2 7).toInt + 192 * (cx V113 24 : Int) + 192 ≤ (V 2 7).toInt + 192 * (cx V 24 : Int) + 24 * y12.toInt + z116.toInt from by omega) (show (V 2 7).toInt ≤ (V113 2 7).toInt from by omega) (fun q hq => by rw [ajV113 20 q rfl]; exact xlp86_2 q hq) (by rw [ajV113 20 _ rfl]; exact xlp86_3) (by omega) (agr.tr (agr.tr agr.rf ajV85 (by decide) (by decide)) ajV113 (by decide) (by decide)) hMV113 hP hD hS (lv_sub hl [0, 1, 2, 3, 4, 5] rfl)
                    · skip
                      have f119 : ((V85 20 (Int32.toNatClampNeg y84))).toInt = (-1) := b_eq rfl (by decide) c102
                      refine lv_aload_n hx hb dX2_follow_111 rfl (lv_at hl 3 rfl) ?_
                      obtain ⟨d9, rfl⟩ : ∃ d9, dd = d9 + 1 := ⟨dd - 1, by omega⟩
                      refine lv_iload hx hb dX2_follow_112 (lv_at hl 0 rfl) ?_
                      refine lv_iload_n hx hb dX2_follow_114 rfl (lv_at hl 5 rfl) ?_
                      refine lv_iconst (v := 1) hx hb dX2_follow_115 (by decide) ?_
                      refine lv_iadd hx hb dX2_follow_116 ?_
                      refine lv_topi (fun z120 ez120 => ?_)
                      have hz120 : z120.toInt = p1.toInt + 1 := i_add ez120 rfl (by decide) (by omega)
                      refine gA_void (gA_runV (As := [.int y84, .int z120]) (rest := []) (ci := 2) (q0 := 2) hx hb hml hown hg hP hD hK hS hA hnw hgk ((hk_x_follow d9 rfl) H.size ad kk V85 L Z y84 z120 (b) hMV85 (by omega) (by omega) (show b < 2 from by omega) (show (V85 2 6).toInt = (b : Int) from by omega) (show (V85 20 (Int32.toNatClampNeg y84)).toInt = -1 from by omega) (show 24 - z120.toInt ≤ ((d9 : Nat) : Int) from by omega) (show (V85 2 7).toInt + 192 * (cx V85 24 : Int) ≤ 999000 from by omega)) w1101 w1103 w38 w163 w1104 rfl xgChecker hdV_yX2_follow ⟨(by show 10 * d9 + 8 + 1 ≤ 10 * (d9 + 1) + 8; omega), (by show 8 + (6 + 11) + (300 * d9 + 260) ≤ 300 * (d9 + 1) + 260; omega)⟩ rfl hl.1 rfl (Nat.le_of_ble_eq_true rfl) dX2_follow_117 ⟨Nat.le_of_ble_eq_true rfl, Nat.le_of_ble_eq_true rfl⟩) hP hD hK hS hA (fun u122 H locs w123 hP hD hK hS => ?_)
                      obtain ⟨V127, L128⟩ := u122
                      obtain ⟨hMV127, ajV127, axL128, t124, t125, t126⟩ := w123
                      have axL128 : L = L128 := Eq.symm axL128
                      subst axL128
                      have hP : va_P D vwCl (xw ad kk V127 L Z) H := hP
                      have hD : va_D A (xw ad kk V127 L Z) := hD
                      have hMV127 : rgd bX V127 := hMV127
                      have ajV127 : agr [(2, 7)] [15, 16, 17, 18, 19, 20] V85 V127 := ajV127
                      have agV127 : agr [(2, 7)] [15, 16, 17, 18, 19, 20] V V127 := agV85.tr ajV127 (by decide) (by decide)
                      have t124 : (V127 2 7).toInt + 192 * (cx V127 24 : Int) ≤ (V85 2 7).toInt + 192 * (cx V85 24 : Int) := t124
                      have t125 : (V85 2 7).toInt ≤ (V127 2 7).toInt := t125
                      have t126 : (∀ q : Nat, (V85 20 q).toInt ≠ -1 → (V127 20 q).toInt ≠ -1) := t126
                      have r129 : 0 ≤ ((V127 2 7)).toInt ∧ ((V127 2 7)).toInt ≤ 1000000 := hMV127 2 7
                      refine lv_goto (tgt := 147) hx hb dX2_follow_120 (by decide) ?_
                      obtain ⟨z130, ez130⟩ : ∃ y : Int32, y = y84 + 1 := ⟨_, rfl⟩
                      have hz130 : z130.toInt = y84.toInt + 1 := i_add ez130 rfl (by decide) (by omega)
                      refine lv_iinc (v := z130) (lv' := [(5, .int z130), (4, .int 0), (3, .int y12), (0, .ref (ad 2)), (1, .int p0), (2, .int p1)]) hx hb dX2_follow_147 hl (k := 0) rfl (by rw [ez130]; rfl) (by decide) rfl (fun ls hl => ?_)
                      refine lv_goto (tgt := 72) hx hb dX2_follow_150 (by decide) ?_
                      have r131 : Int32.toInt 0 = 0 := by decide
                      exact ihlp86 z130 V127 H locs ls (by omega) (show (V127 2 7).toInt + 192 * (cx V127 24 : Int) + 192 ≤ (V 2 7).toInt + 192 * (cx V 24 : Int) + 24 * y12.toInt + z130.toInt from by omega) (show (V 2 7).toInt ≤ (V127 2 7).toInt from by omega) (fun q hq => t126 q (xlp86_2 q hq)) (t126 _ xlp86_3) (by omega) (agr.tr (agr.tr agr.rf ajV85 (by decide) (by decide)) ajV127 (by decide) (by decide)) hMV127 hP hD hS (lv_sub hl [0, 1, 2, 3, 4, 5] rfl)
                  · skip
                    have f132 : z98.toInt = 0 := b_eq rfl (by decide) c99
                    refine lv_goto (tgt := 147) hx hb dX2_follow_97 (by decide) ?_
                    obtain ⟨z133, ez133⟩ : ∃ y : Int32, y = y84 + 1 := ⟨_, rfl⟩
                    have hz133 : z133.toInt = y84.toInt + 1 := i_add ez133 rfl (by decide) (by omega)
                    refine lv_iinc (v := z133) (lv' := [(5, .int z133), (4, .int 0), (3, .int y12), (0, .ref (ad 2)), (1, .int p0), (2, .int p1)]) hx hb dX2_follow_147 hl (k := 0) rfl (by rw [ez133]; rfl) (by decide) rfl (fun ls hl => ?_)
                    refine lv_goto (tgt := 72) hx hb dX2_follow_150 (by decide) ?_
                    have r134 : Int32.toInt 0 = 0 := by decide
                    exact ihlp86 z133 V85 H locs ls (by omega) (show (V85 2 7).toInt + 192 * (cx V85 24 : Int) + 192 ≤ (V 2 7).toInt + 192 * (cx V 24 : Int) + 24 * y12.toInt + z133.toInt from by omega) (show (V 2 7).toInt ≤ (V85 2 7).toInt from by omega) xlp86_2 xlp86_3 (by omega) (agr.tr agr.rf ajV85 (by decide) (by decide)) hMV85 hP hD hS (lv_sub hl [0, 1, 2, 3, 4, 5] rfl)
            have r135 : Int32.toInt 0 = 0 := by decide
            exact lp86 ((24 - (Int32.toInt 0) + 1 : Int).toNat) 0 V13 H locs ls (by decide) (show (V13 2 7).toInt + 192 * (cx V13 24 : Int) + 192 ≤ (V 2 7).toInt + 192 * (cx V 24 : Int) + 24 * y12.toInt + (Int32.toInt 0) from by omega) (show (V 2 7).toInt ≤ (V13 2 7).toInt from by omega) xlp14_2 xlp14_3 (by omega) agr.rf hMV13 hP hD hS (lv_sub hl [0, 1, 2, 3, 4, 5] rfl)
    have r136 : Int32.toInt 0 = 0 := by decide
    have pq137 : (V8 2 7).toInt = ((V 2 7)).toInt := congrArg Int32.toInt ((up2_o hV8 (by decide)).trans (up2_o hV6 (by decide)))
    exact lp14 ((8 - (Int32.toInt 0) + 1 : Int).toNat) 0 V8 H locs ls (by decide) (show (V8 2 7).toInt + 192 * (cx V8 24 : Int) + 192 ≤ (V 2 7).toInt + 192 * (cx V 24 : Int) + 24 * (Int32.toInt 0) from by omega) (show (V 2 7).toInt ≤ (V8 2 7).toInt from by omega) (fun q hq => by rcases Decidable.em (q = (Int32.toNatClampNeg p0)) with h9 | h9; (rw [h9, up2_s hV8]; omega); (rw [up2_k hV8 h9]; exact (fun q hq => by rw [up2_o hV6 (show ¬ (20 = 19) from by decide)]; exact (fun q hq => hq) q hq) q hq)) (by rw [up2_s hV8]; omega) (by omega) agr.rf hMV8 hP hD hS (lv_sub hl [0, 1, 2, 3] rfl)
  · skip
    have f138 : 24 ≤ p1.toInt := b_nlt rfl (by decide) c4
    have rp139 : ∀ q : Nat, (V 20 q).toInt ≠ -1 → (V 20 q).toInt ≠ -1 := (fun q hq => hq)
    exact W.vret hx hb hr (fun t ht hW => ⟨⟨(V, L), rfl, ⟨hMV, agV, rfl, (show (V 2 7).toInt + 192 * (cx V 24 : Int) ≤ (V 2 7).toInt + 192 * (cx V 24 : Int) from by omega), (show (V 2 7).toInt ≤ (V 2 7).toInt from by omega), rp139⟩, by rw [ht]; exact hP, va_K.moved hW.alike hK, hD⟩, hS.F ht⟩) hS.2.2 dX2_follow_6
theorem K_follow {l : Launch} {D : va_G} {ks : KS} : ∀ dd, K_x_follow l D ks dd
  | 0 => x_follow (fun d9 h => absurd h (by omega))
  | d + 1 => x_follow (fun d9 h => by
    have e : d9 = d := by omega
    subst e
    exact K_follow d9)
