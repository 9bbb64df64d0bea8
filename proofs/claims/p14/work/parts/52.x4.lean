/-! how many components are not on the path yet -/
def cx (V : Vf) : Nat → Nat
  | 0 => 0
  | n + 1 => cx V n + (if (V 20 n).toInt = -1 then 1 else 0)
theorem cx_le (V : Vf) : ∀ n, cx V n ≤ n
  | 0 => Nat.le_refl _
  | n + 1 => by
    have := cx_le V n
    show cx V n + (if (V 20 n).toInt = -1 then 1 else 0) ≤ n + 1
    split <;> omega
theorem cx_same {V W : Vf} : ∀ n, (∀ k, k < n → ((W 20 k).toInt = -1 ↔ (V 20 k).toInt = -1)) → cx W n = cx V n
  | 0, _ => rfl
  | n + 1, h => by
    have ih := cx_same (V := V) (W := W) n (fun k hk => h k (by omega))
    have e := h n (by omega)
    show cx W n + (if (W 20 n).toInt = -1 then 1 else 0) = cx V n + (if (V 20 n).toInt = -1 then 1 else 0)
    rw [ih]
    by_cases q : (V 20 n).toInt = -1
    · rw [if_pos q, if_pos (e.mpr q)]
    · rw [if_neg q, if_neg (fun z => q (e.mp z))]
theorem cx_up {V W : Vf} {x : Nat} {v : Int32} (e : W = up2 V 20 x v) (h1 : (V 20 x).toInt = -1) (h2 : v.toInt ≠ -1) : ∀ n, (x < n → cx W n + 1 = cx V n) ∧ (n ≤ x → cx W n = cx V n)
  | 0 => ⟨fun h => absurd h (by omega), fun _ => rfl⟩
  | n + 1 => by
    have ih := cx_up e h1 h2 n
    show (_ → cx W n + (if (W 20 n).toInt = -1 then 1 else 0) + 1 = cx V n + (if (V 20 n).toInt = -1 then 1 else 0)) ∧ (_ → cx W n + (if (W 20 n).toInt = -1 then 1 else 0) = cx V n + (if (V 20 n).toInt = -1 then 1 else 0))
    by_cases q : n = x
    · subst q
      rw [up2_s e, if_pos h1, if_neg h2]
      have := ih.2 (Nat.le_refl _)
      exact ⟨fun _ => by omega, fun h => absurd h (by omega)⟩
    · rw [up2_k e q]
      refine ⟨fun h => ?_, fun h => ?_⟩
      · have := ih.1 (by omega)
        omega
      · have := ih.2 (by omega)
        omega
theorem cx_lo {V W : Vf} {x : Nat} {v : Int32} (e : W = up2 V 20 x v) (h1 : (V 20 x).toInt ≠ -1) (h2 : v.toInt ≠ -1) (n : Nat) : cx W n = cx V n := by
  refine cx_same n (fun k _ => ?_)
  by_cases q : k = x
  · subst q
    rw [up2_s e]
    exact ⟨fun h => absurd h h2, fun h => absurd h h1⟩
  · rw [up2_k e q]
theorem cx_ag {fs : List (Nat × Nat)} {cs : List Nat} {V W : Vf} (a : agr fs cs V W) (h : ∀ k, wrL fs cs 20 k = false) (n : Nat) : cx W n = cx V n := cx_same n (fun k _ => by rw [a 20 k (h k)])

theorem w372 : Cond.code yJ7_fill_53178 cJ7_fill_53178 4 none ∈ GW := gw_k tk9_1 217 (rfl) rfl
theorem w370 : Cond.methodLink RX8 49 yJ7_fill_53178 ∈ GW := gw_k tk9_1 215 (by decide +kernel) rfl
theorem w371 : Cond.static yJ7_fill_53178 ∈ GW := gw_k tk9_1 216 (by decide +kernel) rfl
theorem hdS_yJ7_fill_53178 : yJ7_fill_53178.cls ≠ "java/lang/invoke/MethodHandle" ∧ yJ7_fill_53178.cls ≠ "java/lang/invoke/VarHandle" ∧ (parseMethodDescriptor yJ7_fill_53178.desc).map (fun d => d.parameters.length) = some 2 := by decide +kernel
theorem w394 : Cond.fieldLink RX8 69 "WiringHouse$Stock" "linkCount" "I" ∈ GW := gw_k tk9_1 239 (by decide +kernel) rfl
theorem w1030 : Cond.code yX8_shut cX8_shut 2 none ∈ GW := gw_k tk9_4 155 (rfl) rfl
theorem w1027 : Cond.methodLink RX8 59 yX8_shut ∈ GW := gw_k tk9_4 152 (by decide +kernel) rfl
theorem w1028 : Cond.instanceMethod yX8_shut ∈ GW := gw_k tk9_4 153 (by decide +kernel) rfl
theorem w1029 : Cond.selects RX8 yX8_shut yX8_shut ∈ GW := gw_k tk9_4 154 (by decide +kernel) rfl
theorem hdV_yX8_shut : yX8_shut.cls = RX8 ∧ yX8_shut.cls ≠ "java/lang/invoke/MethodHandle" ∧ yX8_shut.cls ≠ "java/lang/invoke/VarHandle" ∧ (parseMethodDescriptor yX8_shut.desc).map (fun d => d.parameters.length) = some 1 := by decide +kernel
theorem w507 : Cond.fieldLink RX3 21 "WiringHouse$Component" "methodStarts" "[I" ∈ GW := gw_k tk9_2 112 (by decide +kernel) rfl
theorem w918 : Cond.methodLink RX3 24 yJ7_fill_53178 ∈ GW := gw_k tk9_4 43 (by decide +kernel) rfl
theorem w515 : Cond.fieldLink RX3 34 "WiringHouse$Component" "under" "I" ∈ GW := gw_k tk9_2 120 (by decide +kernel) rfl
theorem w518 : Cond.fieldLink RX3 37 "WiringHouse$Component" "scope" "I" ∈ GW := gw_k tk9_2 123 (by decide +kernel) rfl
theorem w523 : Cond.fieldLink RX3 40 "WiringHouse$Component" "calledWord" "I" ∈ GW := gw_k tk9_2 128 (by decide +kernel) rfl
theorem w527 : Cond.fieldLink RX3 43 "WiringHouse$Component" "rank" "I" ∈ GW := gw_k tk9_2 132 (by decide +kernel) rfl
theorem w531 : Cond.fieldLink RX3 46 "WiringHouse$Component" "whenSetting" "I" ∈ GW := gw_k tk9_2 136 (by decide +kernel) rfl
theorem w534 : Cond.fieldLink RX3 49 "WiringHouse$Component" "whenValue" "I" ∈ GW := gw_k tk9_2 139 (by decide +kernel) rfl
theorem w537 : Cond.fieldLink RX3 52 "WiringHouse$Component" "openedStart" "I" ∈ GW := gw_k tk9_2 142 (by decide +kernel) rfl
theorem w540 : Cond.fieldLink RX3 55 "WiringHouse$Component" "closedStart" "I" ∈ GW := gw_k tk9_2 145 (by decide +kernel) rfl
theorem w345 : Cond.fieldLink RX2 30 "WiringHouse$Checker" "faults" "I" ∈ GW := gw_k tk9_1 190 (by decide +kernel) rfl
theorem w338 : Cond.fieldLink RX2 9 "WiringHouse$Checker" "kinds" "[I" ∈ GW := gw_k tk9_1 183 (by decide +kernel) rfl
theorem w339 : Cond.fieldLink RX2 15 "WiringHouse$Checker" "whose" "[I" ∈ GW := gw_k tk9_1 184 (by decide +kernel) rfl
theorem w340 : Cond.fieldLink RX2 18 "WiringHouse$Checker" "details" "[I" ∈ GW := gw_k tk9_1 185 (by decide +kernel) rfl
theorem w1124 : Cond.code yX2_tells cX2_tells 2 (some .boolean) ∈ GW := gw_k tk9_5 9 (rfl) rfl
theorem w1121 : Cond.methodLink RX2 109 yX2_tells ∈ GW := gw_k tk9_5 6 (by decide +kernel) rfl
theorem w163 : Cond.initialized RX2 ∈ GW := gw_k tk9_1 8 (by decide +kernel) rfl
theorem w1123 : Cond.instanceMethod yX2_tells ∈ GW := gw_k tk9_5 8 (by decide +kernel) rfl
theorem w41 : Cond.selects RX2 yX2_tells yX2_tells ∈ GW := gw_mem 41 (by decide +kernel) rfl
theorem hdV_yX2_tells : yX2_tells.cls = RX2 ∧ yX2_tells.cls ≠ "java/lang/invoke/MethodHandle" ∧ yX2_tells.cls ≠ "java/lang/invoke/VarHandle" ∧ (parseMethodDescriptor yX2_tells.desc).map (fun d => d.parameters.length) = some 1 := by decide +kernel
theorem w341 : Cond.fieldLink RX2 21 "WiringHouse$Checker" "rings" "[I" ∈ GW := gw_k tk9_1 186 (by decide +kernel) rfl
theorem w342 : Cond.fieldLink RX2 24 "WiringHouse$Checker" "path" "[I" ∈ GW := gw_k tk9_1 187 (by decide +kernel) rfl
theorem w1099 : Cond.code yX2_note cX2_note 4 none ∈ GW := gw_k tk9_4 224 (rfl) rfl
theorem w1096 : Cond.methodLink RX2 80 yX2_note ∈ GW := gw_k tk9_4 221 (by decide +kernel) rfl
theorem w1098 : Cond.instanceMethod yX2_note ∈ GW := gw_k tk9_4 223 (by decide +kernel) rfl
theorem w37 : Cond.selects RX2 yX2_note yX2_note ∈ GW := gw_mem 37 (by decide +kernel) rfl
theorem hdV_yX2_note : yX2_note.cls = RX2 ∧ yX2_note.cls ≠ "java/lang/invoke/MethodHandle" ∧ yX2_note.cls ≠ "java/lang/invoke/VarHandle" ∧ (parseMethodDescriptor yX2_note.desc).map (fun d => d.parameters.length) = some 3 := by decide +kernel
theorem w344 : Cond.fieldLink RX2 34 "WiringHouse$Checker" "book" "LWiringHouse$Book;" ∈ GW := gw_k tk9_1 189 (by decide +kernel) rfl
theorem n600 : lw_tbl[600]? = some (Cond.fieldLinkNest RX2 38 "WiringHouse$Book" "names" "LWiringHouse$Names;" "WiringHouse") := la9 (n := 155) (i := 445) lz9 (la9 (n := 240) (i := 205) ln9_1 (lb9 (i := 205) (by decide +kernel)))
theorem n482 : lw_tbl[482]? = some (Cond.fieldLinkNest RX2 44 "WiringHouse$Names" "size" "I" "WiringHouse") := la9 (n := 155) (i := 327) lz9 (la9 (n := 240) (i := 87) ln9_1 (lb9 (i := 87) (by decide +kernel)))
theorem n615 : lw_tbl[615]? = some (Cond.fieldLinkNest RX2 67 "WiringHouse$Book" "components" "[LWiringHouse$Component;" "WiringHouse") := la9 (n := 155) (i := 460) lz9 (la9 (n := 240) (i := 220) ln9_1 (lb9 (i := 220) (by decide +kernel)))
theorem n519 : lw_tbl[519]? = some (Cond.fieldLinkNest RX2 96 "WiringHouse$Component" "scope" "I" "WiringHouse") := la9 (n := 155) (i := 364) lz9 (la9 (n := 240) (i := 124) ln9_1 (lb9 (i := 124) (by decide +kernel)))
theorem n504 : lw_tbl[504]? = some (Cond.fieldLinkNest RX2 84 "WiringHouse$Component" "needKinds" "[I" "WiringHouse") := la9 (n := 155) (i := 349) lz9 (la9 (n := 240) (i := 109) ln9_1 (lb9 (i := 109) (by decide +kernel)))
theorem w1084 : Cond.code yX0_candidates cX0_candidates 12 (some .int) ∈ GW := gw_k tk9_4 209 (rfl) rfl
theorem w1081 : Cond.methodLink RX2 87 yX0_candidates ∈ GW := gw_k tk9_4 206 (by decide +kernel) rfl
theorem w1082 : Cond.instanceMethod yX0_candidates ∈ GW := gw_k tk9_4 207 (by decide +kernel) rfl
theorem w1083 : Cond.selects RX0 yX0_candidates yX0_candidates ∈ GW := gw_k tk9_4 208 (by decide +kernel) rfl
theorem hdV_yX0_candidates : yX0_candidates.cls = RX0 ∧ yX0_candidates.cls ≠ "java/lang/invoke/MethodHandle" ∧ yX0_candidates.cls ≠ "java/lang/invoke/VarHandle" ∧ (parseMethodDescriptor yX0_candidates.desc).map (fun d => d.parameters.length) = some 2 := by decide +kernel
theorem w1095 : Cond.code yX2_hasShorter cX2_hasShorter 6 (some .boolean) ∈ GW := gw_k tk9_4 220 (rfl) rfl
theorem w1092 : Cond.methodLink RX2 99 yX2_hasShorter ∈ GW := gw_k tk9_4 217 (by decide +kernel) rfl
theorem w1094 : Cond.instanceMethod yX2_hasShorter ∈ GW := gw_k tk9_4 219 (by decide +kernel) rfl
theorem w36 : Cond.selects RX2 yX2_hasShorter yX2_hasShorter ∈ GW := gw_mem 36 (by decide +kernel) rfl
theorem hdV_yX2_hasShorter : yX2_hasShorter.cls = RX2 ∧ yX2_hasShorter.cls ≠ "java/lang/invoke/MethodHandle" ∧ yX2_hasShorter.cls ≠ "java/lang/invoke/VarHandle" ∧ (parseMethodDescriptor yX2_hasShorter.desc).map (fun d => d.parameters.length) = some 2 := by decide +kernel
theorem w1088 : Cond.code yJ6_bitCount_0f7a4 cJ6_bitCount_0f7a4 1 (some .int) ∈ GW := gw_k tk9_4 213 (rfl) rfl
theorem w1086 : Cond.methodLink RX2 90 yJ6_bitCount_0f7a4 ∈ GW := gw_k tk9_4 211 (by decide +kernel) rfl
theorem w175 : Cond.initialized RJ6 ∈ GW := gw_k tk9_1 20 (by decide +kernel) rfl
theorem w1087 : Cond.static yJ6_bitCount_0f7a4 ∈ GW := gw_k tk9_4 212 (by decide +kernel) rfl
theorem hdS_yJ6_bitCount_0f7a4 : yJ6_bitCount_0f7a4.cls ≠ "java/lang/invoke/MethodHandle" ∧ yJ6_bitCount_0f7a4.cls ≠ "java/lang/invoke/VarHandle" ∧ (parseMethodDescriptor yJ6_bitCount_0f7a4.desc).map (fun d => d.parameters.length) = some 1 := by decide +kernel
theorem n511 : lw_tbl[511]? = some (Cond.fieldLinkNest RX2 71 "WiringHouse$Component" "needs" "I" "WiringHouse") := la9 (n := 155) (i := 356) lz9 (la9 (n := 240) (i := 116) ln9_1 (lb9 (i := 116) (by decide +kernel)))
theorem w1080 : Cond.code yX2_faultOf cX2_faultOf 6 (some .int) ∈ GW := gw_k tk9_4 205 (rfl) rfl
theorem w1077 : Cond.methodLink RX2 76 yX2_faultOf ∈ GW := gw_k tk9_4 202 (by decide +kernel) rfl
theorem w1079 : Cond.instanceMethod yX2_faultOf ∈ GW := gw_k tk9_4 204 (by decide +kernel) rfl
theorem w35 : Cond.selects RX2 yX2_faultOf yX2_faultOf ∈ GW := gw_mem 35 (by decide +kernel) rfl
theorem hdV_yX2_faultOf : yX2_faultOf.cls = RX2 ∧ yX2_faultOf.cls ≠ "java/lang/invoke/MethodHandle" ∧ yX2_faultOf.cls ≠ "java/lang/invoke/VarHandle" ∧ (parseMethodDescriptor yX2_faultOf.desc).map (fun d => d.parameters.length) = some 2 := by decide +kernel
theorem w343 : Cond.fieldLink RX2 27 "WiringHouse$Checker" "onPath" "[I" ∈ GW := gw_k tk9_1 188 (by decide +kernel) rfl
theorem w1108 : Cond.code yX2_followed cX2_followed 4 (some .int) ∈ GW := gw_k tk9_4 233 (rfl) rfl
theorem w1105 : Cond.methodLink RX2 103 yX2_followed ∈ GW := gw_k tk9_4 230 (by decide +kernel) rfl
theorem w1107 : Cond.instanceMethod yX2_followed ∈ GW := gw_k tk9_4 232 (by decide +kernel) rfl
theorem w39 : Cond.selects RX2 yX2_followed yX2_followed ∈ GW := gw_mem 39 (by decide +kernel) rfl
theorem hdV_yX2_followed : yX2_followed.cls = RX2 ∧ yX2_followed.cls ≠ "java/lang/invoke/MethodHandle" ∧ yX2_followed.cls ≠ "java/lang/invoke/VarHandle" ∧ (parseMethodDescriptor yX2_followed.desc).map (fun d => d.parameters.length) = some 2 := by decide +kernel
theorem w1112 : Cond.code yX2_noteRing cX2_noteRing 4 none ∈ GW := gw_k tk9_4 237 (rfl) rfl
theorem w1109 : Cond.methodLink RX2 106 yX2_noteRing ∈ GW := gw_k tk9_4 234 (by decide +kernel) rfl
theorem w1111 : Cond.instanceMethod yX2_noteRing ∈ GW := gw_k tk9_4 236 (by decide +kernel) rfl
theorem w40 : Cond.selects RX2 yX2_noteRing yX2_noteRing ∈ GW := gw_mem 40 (by decide +kernel) rfl
theorem hdV_yX2_noteRing : yX2_noteRing.cls = RX2 ∧ yX2_noteRing.cls ≠ "java/lang/invoke/MethodHandle" ∧ yX2_noteRing.cls ≠ "java/lang/invoke/VarHandle" ∧ (parseMethodDescriptor yX2_noteRing.desc).map (fun d => d.parameters.length) = some 2 := by decide +kernel
theorem w1104 : Cond.code yX2_follow cX2_follow 6 none ∈ GW := gw_k tk9_4 229 (rfl) rfl
theorem w1101 : Cond.methodLink RX2 63 yX2_follow ∈ GW := gw_k tk9_4 226 (by decide +kernel) rfl
theorem w1103 : Cond.instanceMethod yX2_follow ∈ GW := gw_k tk9_4 228 (by decide +kernel) rfl
theorem w38 : Cond.selects RX2 yX2_follow yX2_follow ∈ GW := gw_mem 38 (by decide +kernel) rfl
theorem hdV_yX2_follow : yX2_follow.cls = RX2 ∧ yX2_follow.cls ≠ "java/lang/invoke/MethodHandle" ∧ yX2_follow.cls ≠ "java/lang/invoke/VarHandle" ∧ (parseMethodDescriptor yX2_follow.desc).map (fun d => d.parameters.length) = some 2 := by decide +kernel
theorem dk9_dX8_clear_0_0 : dOk cX8_clear [(0, .aload_n 0, 1), (1, .getfield 25, 3), (4, .iconst (-1), 1), (5, .invokestatic 49, 3), (8, .iconst 0, 1), (9, .istore_n 1, 1), (10, .iload_n 1, 1), (11, .bipush 40, 2), (13, .if_icmp .ge 14, 3), (27, .aload_n 0, 1), (28, .getfield 18, 3), (31, .iconst 0, 1), (32, .iconst 1, 1), (33, .bastore, 1), (34, .aload_n 0, 1), (35, .iconst 1, 1), (36, .putfield 55, 3), (39, .aload_n 0, 1), (40, .iconst 0, 1), (41, .putfield 63, 3), (44, .aload_n 0, 1), (45, .iconst 0, 1), (46, .putfield 66, 3), (49, .aload_n 0, 1)] = true ∧ dOk cX8_clear [(50, .iconst 0, 1), (51, .putfield 69, 3), (54, .return_, 1), (16, .aload_n 0, 1), (17, .iload_n 1, 1), (18, .invokevirtual 59, 3), (21, .iinc 1 1, 3), (24, .goto (-14), 3)] = true := by decide +kernel
theorem dX8_clear_0 : decode cX8_clear 0 = .ok (.aload_n 0, 1) := dr9 dk9_dX8_clear_0_0.1 0 (0, .aload_n 0, 1) rfl
theorem dX8_clear_1 : decode cX8_clear 1 = .ok (.getfield 25, 3) := dr9 dk9_dX8_clear_0_0.1 1 (1, .getfield 25, 3) rfl
theorem dX8_clear_4 : decode cX8_clear 4 = .ok (.iconst (-1), 1) := dr9 dk9_dX8_clear_0_0.1 2 (4, .iconst (-1), 1) rfl
theorem dX8_clear_5 : decode cX8_clear 5 = .ok (.invokestatic 49, 3) := dr9 dk9_dX8_clear_0_0.1 3 (5, .invokestatic 49, 3) rfl
theorem dX8_clear_8 : decode cX8_clear 8 = .ok (.iconst 0, 1) := dr9 dk9_dX8_clear_0_0.1 4 (8, .iconst 0, 1) rfl
theorem dX8_clear_9 : decode cX8_clear 9 = .ok (.istore_n 1, 1) := dr9 dk9_dX8_clear_0_0.1 5 (9, .istore_n 1, 1) rfl
theorem dX8_clear_10 : decode cX8_clear 10 = .ok (.iload_n 1, 1) := dr9 dk9_dX8_clear_0_0.1 6 (10, .iload_n 1, 1) rfl
theorem dX8_clear_11 : decode cX8_clear 11 = .ok (.bipush 40, 2) := dr9 dk9_dX8_clear_0_0.1 7 (11, .bipush 40, 2) rfl
theorem dX8_clear_13 : decode cX8_clear 13 = .ok (.if_icmp .ge 14, 3) := dr9 dk9_dX8_clear_0_0.1 8 (13, .if_icmp .ge 14, 3) rfl
theorem dX8_clear_27 : decode cX8_clear 27 = .ok (.aload_n 0, 1) := dr9 dk9_dX8_clear_0_0.1 9 (27, .aload_n 0, 1) rfl
theorem dX8_clear_28 : decode cX8_clear 28 = .ok (.getfield 18, 3) := dr9 dk9_dX8_clear_0_0.1 10 (28, .getfield 18, 3) rfl
theorem dX8_clear_31 : decode cX8_clear 31 = .ok (.iconst 0, 1) := dr9 dk9_dX8_clear_0_0.1 11 (31, .iconst 0, 1) rfl
theorem dX8_clear_32 : decode cX8_clear 32 = .ok (.iconst 1, 1) := dr9 dk9_dX8_clear_0_0.1 12 (32, .iconst 1, 1) rfl
theorem dX8_clear_33 : decode cX8_clear 33 = .ok (.bastore, 1) := dr9 dk9_dX8_clear_0_0.1 13 (33, .bastore, 1) rfl
theorem dX8_clear_34 : decode cX8_clear 34 = .ok (.aload_n 0, 1) := dr9 dk9_dX8_clear_0_0.1 14 (34, .aload_n 0, 1) rfl
theorem dX8_clear_35 : decode cX8_clear 35 = .ok (.iconst 1, 1) := dr9 dk9_dX8_clear_0_0.1 15 (35, .iconst 1, 1) rfl
theorem dX8_clear_36 : decode cX8_clear 36 = .ok (.putfield 55, 3) := dr9 dk9_dX8_clear_0_0.1 16 (36, .putfield 55, 3) rfl
theorem dX8_clear_39 : decode cX8_clear 39 = .ok (.aload_n 0, 1) := dr9 dk9_dX8_clear_0_0.1 17 (39, .aload_n 0, 1) rfl
theorem dX8_clear_40 : decode cX8_clear 40 = .ok (.iconst 0, 1) := dr9 dk9_dX8_clear_0_0.1 18 (40, .iconst 0, 1) rfl
theorem dX8_clear_41 : decode cX8_clear 41 = .ok (.putfield 63, 3) := dr9 dk9_dX8_clear_0_0.1 19 (41, .putfield 63, 3) rfl
theorem dX8_clear_44 : decode cX8_clear 44 = .ok (.aload_n 0, 1) := dr9 dk9_dX8_clear_0_0.1 20 (44, .aload_n 0, 1) rfl
theorem dX8_clear_45 : decode cX8_clear 45 = .ok (.iconst 0, 1) := dr9 dk9_dX8_clear_0_0.1 21 (45, .iconst 0, 1) rfl
theorem dX8_clear_46 : decode cX8_clear 46 = .ok (.putfield 66, 3) := dr9 dk9_dX8_clear_0_0.1 22 (46, .putfield 66, 3) rfl
theorem dX8_clear_49 : decode cX8_clear 49 = .ok (.aload_n 0, 1) := dr9 dk9_dX8_clear_0_0.1 23 (49, .aload_n 0, 1) rfl
theorem dX8_clear_50 : decode cX8_clear 50 = .ok (.iconst 0, 1) := dr9 dk9_dX8_clear_0_0.2 0 (50, .iconst 0, 1) rfl
theorem dX8_clear_51 : decode cX8_clear 51 = .ok (.putfield 69, 3) := dr9 dk9_dX8_clear_0_0.2 1 (51, .putfield 69, 3) rfl
theorem dX8_clear_54 : decode cX8_clear 54 = .ok (.return_, 1) := dr9 dk9_dX8_clear_0_0.2 2 (54, .return_, 1) rfl
theorem dX8_clear_16 : decode cX8_clear 16 = .ok (.aload_n 0, 1) := dr9 dk9_dX8_clear_0_0.2 3 (16, .aload_n 0, 1) rfl
theorem dX8_clear_17 : decode cX8_clear 17 = .ok (.iload_n 1, 1) := dr9 dk9_dX8_clear_0_0.2 4 (17, .iload_n 1, 1) rfl
theorem dX8_clear_18 : decode cX8_clear 18 = .ok (.invokevirtual 59, 3) := dr9 dk9_dX8_clear_0_0.2 5 (18, .invokevirtual 59, 3) rfl
theorem dX8_clear_21 : decode cX8_clear 21 = .ok (.iinc 1 1, 3) := dr9 dk9_dX8_clear_0_0.2 6 (21, .iinc 1 1, 3) rfl
theorem dX8_clear_24 : decode cX8_clear 24 = .ok (.goto (-14), 3) := dr9 dk9_dX8_clear_0_0.2 7 (24, .goto (-14), 3) rfl
theorem dk9_dX3_clear_0_0 : dOk cX3_clear [(0, .aload_n 0, 1), (1, .getfield 21, 3), (4, .iconst (-1), 1), (5, .invokestatic 24, 3), (8, .aload_n 0, 1), (9, .iconst 0, 1), (10, .putfield 30, 3), (13, .aload_n 0, 1), (14, .iconst 0, 1), (15, .putfield 34, 3), (18, .aload_n 0, 1), (19, .iconst 0, 1), (20, .putfield 37, 3), (23, .aload_n 0, 1), (24, .iconst (-1), 1), (25, .putfield 40, 3), (28, .aload_n 0, 1), (29, .iconst 0, 1), (30, .putfield 43, 3), (33, .aload_n 0, 1), (34, .iconst (-1), 1), (35, .putfield 46, 3), (38, .aload_n 0, 1), (39, .iconst 0, 1)] = true ∧ dOk cX3_clear [(40, .putfield 49, 3), (43, .aload_n 0, 1), (44, .iconst (-1), 1), (45, .putfield 52, 3), (48, .aload_n 0, 1), (49, .iconst (-1), 1), (50, .putfield 55, 3), (53, .return_, 1)] = true := by decide +kernel
theorem dX3_clear_0 : decode cX3_clear 0 = .ok (.aload_n 0, 1) := dr9 dk9_dX3_clear_0_0.1 0 (0, .aload_n 0, 1) rfl
theorem dX3_clear_1 : decode cX3_clear 1 = .ok (.getfield 21, 3) := dr9 dk9_dX3_clear_0_0.1 1 (1, .getfield 21, 3) rfl
theorem dX3_clear_4 : decode cX3_clear 4 = .ok (.iconst (-1), 1) := dr9 dk9_dX3_clear_0_0.1 2 (4, .iconst (-1), 1) rfl
theorem dX3_clear_5 : decode cX3_clear 5 = .ok (.invokestatic 24, 3) := dr9 dk9_dX3_clear_0_0.1 3 (5, .invokestatic 24, 3) rfl
theorem dX3_clear_8 : decode cX3_clear 8 = .ok (.aload_n 0, 1) := dr9 dk9_dX3_clear_0_0.1 4 (8, .aload_n 0, 1) rfl
theorem dX3_clear_9 : decode cX3_clear 9 = .ok (.iconst 0, 1) := dr9 dk9_dX3_clear_0_0.1 5 (9, .iconst 0, 1) rfl
theorem dX3_clear_10 : decode cX3_clear 10 = .ok (.putfield 30, 3) := dr9 dk9_dX3_clear_0_0.1 6 (10, .putfield 30, 3) rfl
theorem dX3_clear_13 : decode cX3_clear 13 = .ok (.aload_n 0, 1) := dr9 dk9_dX3_clear_0_0.1 7 (13, .aload_n 0, 1) rfl
theorem dX3_clear_14 : decode cX3_clear 14 = .ok (.iconst 0, 1) := dr9 dk9_dX3_clear_0_0.1 8 (14, .iconst 0, 1) rfl
theorem dX3_clear_15 : decode cX3_clear 15 = .ok (.putfield 34, 3) := dr9 dk9_dX3_clear_0_0.1 9 (15, .putfield 34, 3) rfl
theorem dX3_clear_18 : decode cX3_clear 18 = .ok (.aload_n 0, 1) := dr9 dk9_dX3_clear_0_0.1 10 (18, .aload_n 0, 1) rfl
theorem dX3_clear_19 : decode cX3_clear 19 = .ok (.iconst 0, 1) := dr9 dk9_dX3_clear_0_0.1 11 (19, .iconst 0, 1) rfl
theorem dX3_clear_20 : decode cX3_clear 20 = .ok (.putfield 37, 3) := dr9 dk9_dX3_clear_0_0.1 12 (20, .putfield 37, 3) rfl
theorem dX3_clear_23 : decode cX3_clear 23 = .ok (.aload_n 0, 1) := dr9 dk9_dX3_clear_0_0.1 13 (23, .aload_n 0, 1) rfl
theorem dX3_clear_24 : decode cX3_clear 24 = .ok (.iconst (-1), 1) := dr9 dk9_dX3_clear_0_0.1 14 (24, .iconst (-1), 1) rfl
theorem dX3_clear_25 : decode cX3_clear 25 = .ok (.putfield 40, 3) := dr9 dk9_dX3_clear_0_0.1 15 (25, .putfield 40, 3) rfl
theorem dX3_clear_28 : decode cX3_clear 28 = .ok (.aload_n 0, 1) := dr9 dk9_dX3_clear_0_0.1 16 (28, .aload_n 0, 1) rfl
theorem dX3_clear_29 : decode cX3_clear 29 = .ok (.iconst 0, 1) := dr9 dk9_dX3_clear_0_0.1 17 (29, .iconst 0, 1) rfl
theorem dX3_clear_30 : decode cX3_clear 30 = .ok (.putfield 43, 3) := dr9 dk9_dX3_clear_0_0.1 18 (30, .putfield 43, 3) rfl
theorem dX3_clear_33 : decode cX3_clear 33 = .ok (.aload_n 0, 1) := dr9 dk9_dX3_clear_0_0.1 19 (33, .aload_n 0, 1) rfl
theorem dX3_clear_34 : decode cX3_clear 34 = .ok (.iconst (-1), 1) := dr9 dk9_dX3_clear_0_0.1 20 (34, .iconst (-1), 1) rfl
theorem dX3_clear_35 : decode cX3_clear 35 = .ok (.putfield 46, 3) := dr9 dk9_dX3_clear_0_0.1 21 (35, .putfield 46, 3) rfl
theorem dX3_clear_38 : decode cX3_clear 38 = .ok (.aload_n 0, 1) := dr9 dk9_dX3_clear_0_0.1 22 (38, .aload_n 0, 1) rfl
theorem dX3_clear_39 : decode cX3_clear 39 = .ok (.iconst 0, 1) := dr9 dk9_dX3_clear_0_0.1 23 (39, .iconst 0, 1) rfl
theorem dX3_clear_40 : decode cX3_clear 40 = .ok (.putfield 49, 3) := dr9 dk9_dX3_clear_0_0.2 0 (40, .putfield 49, 3) rfl
theorem dX3_clear_43 : decode cX3_clear 43 = .ok (.aload_n 0, 1) := dr9 dk9_dX3_clear_0_0.2 1 (43, .aload_n 0, 1) rfl
theorem dX3_clear_44 : decode cX3_clear 44 = .ok (.iconst (-1), 1) := dr9 dk9_dX3_clear_0_0.2 2 (44, .iconst (-1), 1) rfl
theorem dX3_clear_45 : decode cX3_clear 45 = .ok (.putfield 52, 3) := dr9 dk9_dX3_clear_0_0.2 3 (45, .putfield 52, 3) rfl
theorem dX3_clear_48 : decode cX3_clear 48 = .ok (.aload_n 0, 1) := dr9 dk9_dX3_clear_0_0.2 4 (48, .aload_n 0, 1) rfl
theorem dX3_clear_49 : decode cX3_clear 49 = .ok (.iconst (-1), 1) := dr9 dk9_dX3_clear_0_0.2 5 (49, .iconst (-1), 1) rfl
theorem dX3_clear_50 : decode cX3_clear 50 = .ok (.putfield 55, 3) := dr9 dk9_dX3_clear_0_0.2 6 (50, .putfield 55, 3) rfl
theorem dX3_clear_53 : decode cX3_clear 53 = .ok (.return_, 1) := dr9 dk9_dX3_clear_0_0.2 7 (53, .return_, 1) rfl
theorem dk9_dX2_clear_0_0 : dOk cX2_clear [(0, .aload_n 0, 1), (1, .iconst 0, 1), (2, .putfield 30, 3), (5, .return_, 1)] = true := by decide +kernel
theorem dX2_clear_0 : decode cX2_clear 0 = .ok (.aload_n 0, 1) := dr9 dk9_dX2_clear_0_0 0 (0, .aload_n 0, 1) rfl
theorem dX2_clear_1 : decode cX2_clear 1 = .ok (.iconst 0, 1) := dr9 dk9_dX2_clear_0_0 1 (1, .iconst 0, 1) rfl
theorem dX2_clear_2 : decode cX2_clear 2 = .ok (.putfield 30, 3) := dr9 dk9_dX2_clear_0_0 2 (2, .putfield 30, 3) rfl
theorem dX2_clear_5 : decode cX2_clear 5 = .ok (.return_, 1) := dr9 dk9_dX2_clear_0_0 3 (5, .return_, 1) rfl
theorem dk9_dX2_tells_0_0 : dOk cX2_tells [(0, .iload_n 1, 1), (1, .ifCond .lt 21, 3), (22, .iconst 0, 1), (23, .ireturn, 1), (4, .iload_n 1, 1), (5, .aload_n 0, 1), (6, .getfield 30, 3), (9, .if_icmp .ge 13, 3), (12, .iload_n 1, 1), (13, .bipush 100, 2), (15, .if_icmp .ge 7, 3), (18, .iconst 1, 1), (19, .goto 4, 3)] = true := by decide +kernel
theorem dX2_tells_0 : decode cX2_tells 0 = .ok (.iload_n 1, 1) := dr9 dk9_dX2_tells_0_0 0 (0, .iload_n 1, 1) rfl
theorem dX2_tells_1 : decode cX2_tells 1 = .ok (.ifCond .lt 21, 3) := dr9 dk9_dX2_tells_0_0 1 (1, .ifCond .lt 21, 3) rfl
theorem dX2_tells_22 : decode cX2_tells 22 = .ok (.iconst 0, 1) := dr9 dk9_dX2_tells_0_0 2 (22, .iconst 0, 1) rfl
theorem dX2_tells_23 : decode cX2_tells 23 = .ok (.ireturn, 1) := dr9 dk9_dX2_tells_0_0 3 (23, .ireturn, 1) rfl
theorem dX2_tells_4 : decode cX2_tells 4 = .ok (.iload_n 1, 1) := dr9 dk9_dX2_tells_0_0 4 (4, .iload_n 1, 1) rfl
theorem dX2_tells_5 : decode cX2_tells 5 = .ok (.aload_n 0, 1) := dr9 dk9_dX2_tells_0_0 5 (5, .aload_n 0, 1) rfl
theorem dX2_tells_6 : decode cX2_tells 6 = .ok (.getfield 30, 3) := dr9 dk9_dX2_tells_0_0 6 (6, .getfield 30, 3) rfl
theorem dX2_tells_9 : decode cX2_tells 9 = .ok (.if_icmp .ge 13, 3) := dr9 dk9_dX2_tells_0_0 7 (9, .if_icmp .ge 13, 3) rfl
theorem dX2_tells_12 : decode cX2_tells 12 = .ok (.iload_n 1, 1) := dr9 dk9_dX2_tells_0_0 8 (12, .iload_n 1, 1) rfl
theorem dX2_tells_13 : decode cX2_tells 13 = .ok (.bipush 100, 2) := dr9 dk9_dX2_tells_0_0 9 (13, .bipush 100, 2) rfl
theorem dX2_tells_15 : decode cX2_tells 15 = .ok (.if_icmp .ge 7, 3) := dr9 dk9_dX2_tells_0_0 10 (15, .if_icmp .ge 7, 3) rfl
theorem dX2_tells_18 : decode cX2_tells 18 = .ok (.iconst 1, 1) := dr9 dk9_dX2_tells_0_0 11 (18, .iconst 1, 1) rfl
theorem dX2_tells_19 : decode cX2_tells 19 = .ok (.goto 4, 3) := dr9 dk9_dX2_tells_0_0 12 (19, .goto 4, 3) rfl
theorem dk9_dX2_note_0_0 : dOk cX2_note [(0, .aload_n 0, 1), (1, .getfield 30, 3), (4, .bipush 100, 2), (6, .if_icmp .ge 33, 3), (39, .aload_n 0, 1), (40, .dup, 1), (41, .getfield 30, 3), (44, .iconst 1, 1), (45, .iadd, 1), (46, .putfield 30, 3), (49, .return_, 1), (9, .aload_n 0, 1), (10, .getfield 9, 3), (13, .aload_n 0, 1), (14, .getfield 30, 3), (17, .iload_n 1, 1), (18, .iastore, 1), (19, .aload_n 0, 1), (20, .getfield 15, 3), (23, .aload_n 0, 1), (24, .getfield 30, 3), (27, .iload_n 2, 1), (28, .iastore, 1), (29, .aload_n 0, 1)] = true ∧ dOk cX2_note [(30, .getfield 18, 3), (33, .aload_n 0, 1), (34, .getfield 30, 3), (37, .iload_n 3, 1), (38, .iastore, 1)] = true := by decide +kernel
theorem dX2_note_0 : decode cX2_note 0 = .ok (.aload_n 0, 1) := dr9 dk9_dX2_note_0_0.1 0 (0, .aload_n 0, 1) rfl
theorem dX2_note_1 : decode cX2_note 1 = .ok (.getfield 30, 3) := dr9 dk9_dX2_note_0_0.1 1 (1, .getfield 30, 3) rfl
theorem dX2_note_4 : decode cX2_note 4 = .ok (.bipush 100, 2) := dr9 dk9_dX2_note_0_0.1 2 (4, .bipush 100, 2) rfl
theorem dX2_note_6 : decode cX2_note 6 = .ok (.if_icmp .ge 33, 3) := dr9 dk9_dX2_note_0_0.1 3 (6, .if_icmp .ge 33, 3) rfl
theorem dX2_note_39 : decode cX2_note 39 = .ok (.aload_n 0, 1) := dr9 dk9_dX2_note_0_0.1 4 (39, .aload_n 0, 1) rfl
theorem dX2_note_40 : decode cX2_note 40 = .ok (.dup, 1) := dr9 dk9_dX2_note_0_0.1 5 (40, .dup, 1) rfl
theorem dX2_note_41 : decode cX2_note 41 = .ok (.getfield 30, 3) := dr9 dk9_dX2_note_0_0.1 6 (41, .getfield 30, 3) rfl
theorem dX2_note_44 : decode cX2_note 44 = .ok (.iconst 1, 1) := dr9 dk9_dX2_note_0_0.1 7 (44, .iconst 1, 1) rfl
theorem dX2_note_45 : decode cX2_note 45 = .ok (.iadd, 1) := dr9 dk9_dX2_note_0_0.1 8 (45, .iadd, 1) rfl
theorem dX2_note_46 : decode cX2_note 46 = .ok (.putfield 30, 3) := dr9 dk9_dX2_note_0_0.1 9 (46, .putfield 30, 3) rfl
theorem dX2_note_49 : decode cX2_note 49 = .ok (.return_, 1) := dr9 dk9_dX2_note_0_0.1 10 (49, .return_, 1) rfl
theorem dX2_note_9 : decode cX2_note 9 = .ok (.aload_n 0, 1) := dr9 dk9_dX2_note_0_0.1 11 (9, .aload_n 0, 1) rfl
theorem dX2_note_10 : decode cX2_note 10 = .ok (.getfield 9, 3) := dr9 dk9_dX2_note_0_0.1 12 (10, .getfield 9, 3) rfl
theorem dX2_note_13 : decode cX2_note 13 = .ok (.aload_n 0, 1) := dr9 dk9_dX2_note_0_0.1 13 (13, .aload_n 0, 1) rfl
theorem dX2_note_14 : decode cX2_note 14 = .ok (.getfield 30, 3) := dr9 dk9_dX2_note_0_0.1 14 (14, .getfield 30, 3) rfl
theorem dX2_note_17 : decode cX2_note 17 = .ok (.iload_n 1, 1) := dr9 dk9_dX2_note_0_0.1 15 (17, .iload_n 1, 1) rfl
theorem dX2_note_18 : decode cX2_note 18 = .ok (.iastore, 1) := dr9 dk9_dX2_note_0_0.1 16 (18, .iastore, 1) rfl
theorem dX2_note_19 : decode cX2_note 19 = .ok (.aload_n 0, 1) := dr9 dk9_dX2_note_0_0.1 17 (19, .aload_n 0, 1) rfl
theorem dX2_note_20 : decode cX2_note 20 = .ok (.getfield 15, 3) := dr9 dk9_dX2_note_0_0.1 18 (20, .getfield 15, 3) rfl
theorem dX2_note_23 : decode cX2_note 23 = .ok (.aload_n 0, 1) := dr9 dk9_dX2_note_0_0.1 19 (23, .aload_n 0, 1) rfl
theorem dX2_note_24 : decode cX2_note 24 = .ok (.getfield 30, 3) := dr9 dk9_dX2_note_0_0.1 20 (24, .getfield 30, 3) rfl
theorem dX2_note_27 : decode cX2_note 27 = .ok (.iload_n 2, 1) := dr9 dk9_dX2_note_0_0.1 21 (27, .iload_n 2, 1) rfl
theorem dX2_note_28 : decode cX2_note 28 = .ok (.iastore, 1) := dr9 dk9_dX2_note_0_0.1 22 (28, .iastore, 1) rfl
theorem dX2_note_29 : decode cX2_note 29 = .ok (.aload_n 0, 1) := dr9 dk9_dX2_note_0_0.1 23 (29, .aload_n 0, 1) rfl
theorem dX2_note_30 : decode cX2_note 30 = .ok (.getfield 18, 3) := dr9 dk9_dX2_note_0_0.2 0 (30, .getfield 18, 3) rfl
theorem dX2_note_33 : decode cX2_note 33 = .ok (.aload_n 0, 1) := dr9 dk9_dX2_note_0_0.2 1 (33, .aload_n 0, 1) rfl
theorem dX2_note_34 : decode cX2_note 34 = .ok (.getfield 30, 3) := dr9 dk9_dX2_note_0_0.2 2 (34, .getfield 30, 3) rfl
theorem dX2_note_37 : decode cX2_note 37 = .ok (.iload_n 3, 1) := dr9 dk9_dX2_note_0_0.2 3 (37, .iload_n 3, 1) rfl
theorem dX2_note_38 : decode cX2_note 38 = .ok (.iastore, 1) := dr9 dk9_dX2_note_0_0.2 4 (38, .iastore, 1) rfl
theorem dk9_dX2_tell_0_0 : dOk cX2_tell [(0, .aload_n 0, 1), (1, .iload_n 1, 1), (2, .invokevirtual 109, 3), (5, .ifCond .ne 5, 3), (10, .iload_n 2, 1), (11, .tableswitch 46 0 2 #[25, 32, 39], 25), (36, .aload_n 0, 1), (37, .getfield 9, 3), (40, .iload_n 1, 1), (41, .iaload, 1), (42, .ireturn, 1), (43, .aload_n 0, 1), (44, .getfield 15, 3), (47, .iload_n 1, 1), (48, .iaload, 1), (49, .ireturn, 1), (50, .aload_n 0, 1), (51, .getfield 18, 3), (54, .iload_n 1, 1), (55, .iaload, 1), (56, .ireturn, 1), (57, .iconst (-1), 1), (58, .ireturn, 1), (8, .iconst (-1), 1)] = true ∧ dOk cX2_tell [(9, .ireturn, 1)] = true := by decide +kernel
theorem dX2_tell_0 : decode cX2_tell 0 = .ok (.aload_n 0, 1) := dr9 dk9_dX2_tell_0_0.1 0 (0, .aload_n 0, 1) rfl
theorem dX2_tell_1 : decode cX2_tell 1 = .ok (.iload_n 1, 1) := dr9 dk9_dX2_tell_0_0.1 1 (1, .iload_n 1, 1) rfl
theorem dX2_tell_2 : decode cX2_tell 2 = .ok (.invokevirtual 109, 3) := dr9 dk9_dX2_tell_0_0.1 2 (2, .invokevirtual 109, 3) rfl
theorem dX2_tell_5 : decode cX2_tell 5 = .ok (.ifCond .ne 5, 3) := dr9 dk9_dX2_tell_0_0.1 3 (5, .ifCond .ne 5, 3) rfl
theorem dX2_tell_10 : decode cX2_tell 10 = .ok (.iload_n 2, 1) := dr9 dk9_dX2_tell_0_0.1 4 (10, .iload_n 2, 1) rfl
theorem dX2_tell_11 : decode cX2_tell 11 = .ok (.tableswitch 46 0 2 #[25, 32, 39], 25) := dr9 dk9_dX2_tell_0_0.1 5 (11, .tableswitch 46 0 2 #[25, 32, 39], 25) rfl
theorem dX2_tell_36 : decode cX2_tell 36 = .ok (.aload_n 0, 1) := dr9 dk9_dX2_tell_0_0.1 6 (36, .aload_n 0, 1) rfl
theorem dX2_tell_37 : decode cX2_tell 37 = .ok (.getfield 9, 3) := dr9 dk9_dX2_tell_0_0.1 7 (37, .getfield 9, 3) rfl
theorem dX2_tell_40 : decode cX2_tell 40 = .ok (.iload_n 1, 1) := dr9 dk9_dX2_tell_0_0.1 8 (40, .iload_n 1, 1) rfl
theorem dX2_tell_41 : decode cX2_tell 41 = .ok (.iaload, 1) := dr9 dk9_dX2_tell_0_0.1 9 (41, .iaload, 1) rfl
theorem dX2_tell_42 : decode cX2_tell 42 = .ok (.ireturn, 1) := dr9 dk9_dX2_tell_0_0.1 10 (42, .ireturn, 1) rfl
theorem dX2_tell_43 : decode cX2_tell 43 = .ok (.aload_n 0, 1) := dr9 dk9_dX2_tell_0_0.1 11 (43, .aload_n 0, 1) rfl
theorem dX2_tell_44 : decode cX2_tell 44 = .ok (.getfield 15, 3) := dr9 dk9_dX2_tell_0_0.1 12 (44, .getfield 15, 3) rfl
theorem dX2_tell_47 : decode cX2_tell 47 = .ok (.iload_n 1, 1) := dr9 dk9_dX2_tell_0_0.1 13 (47, .iload_n 1, 1) rfl
theorem dX2_tell_48 : decode cX2_tell 48 = .ok (.iaload, 1) := dr9 dk9_dX2_tell_0_0.1 14 (48, .iaload, 1) rfl
theorem dX2_tell_49 : decode cX2_tell 49 = .ok (.ireturn, 1) := dr9 dk9_dX2_tell_0_0.1 15 (49, .ireturn, 1) rfl
theorem dX2_tell_50 : decode cX2_tell 50 = .ok (.aload_n 0, 1) := dr9 dk9_dX2_tell_0_0.1 16 (50, .aload_n 0, 1) rfl
theorem dX2_tell_51 : decode cX2_tell 51 = .ok (.getfield 18, 3) := dr9 dk9_dX2_tell_0_0.1 17 (51, .getfield 18, 3) rfl
theorem dX2_tell_54 : decode cX2_tell 54 = .ok (.iload_n 1, 1) := dr9 dk9_dX2_tell_0_0.1 18 (54, .iload_n 1, 1) rfl
theorem dX2_tell_55 : decode cX2_tell 55 = .ok (.iaload, 1) := dr9 dk9_dX2_tell_0_0.1 19 (55, .iaload, 1) rfl
theorem dX2_tell_56 : decode cX2_tell 56 = .ok (.ireturn, 1) := dr9 dk9_dX2_tell_0_0.1 20 (56, .ireturn, 1) rfl
theorem dX2_tell_57 : decode cX2_tell 57 = .ok (.iconst (-1), 1) := dr9 dk9_dX2_tell_0_0.1 21 (57, .iconst (-1), 1) rfl
theorem dX2_tell_58 : decode cX2_tell 58 = .ok (.ireturn, 1) := dr9 dk9_dX2_tell_0_0.1 22 (58, .ireturn, 1) rfl
theorem dX2_tell_8 : decode cX2_tell 8 = .ok (.iconst (-1), 1) := dr9 dk9_dX2_tell_0_0.1 23 (8, .iconst (-1), 1) rfl
theorem dX2_tell_9 : decode cX2_tell 9 = .ok (.ireturn, 1) := dr9 dk9_dX2_tell_0_0.2 0 (9, .ireturn, 1) rfl
theorem dk9_dX2_onRing_0_0 : dOk cX2_onRing [(0, .aload_n 0, 1), (1, .iload_n 1, 1), (2, .invokevirtual 109, 3), (5, .ifCond .eq 17, 3), (22, .iconst 0, 1), (23, .istore_n 3, 1), (24, .iload_n 3, 1), (25, .ifCond .eq 31, 3), (56, .iconst (-1), 1), (57, .ireturn, 1), (8, .aload_n 0, 1), (9, .getfield 9, 3), (12, .iload_n 1, 1), (13, .iaload, 1), (14, .iconst 3, 1), (15, .if_icmp .ne 7, 3), (18, .iconst 1, 1), (19, .goto 4, 3), (28, .iload_n 2, 1), (29, .ifCond .lt 27, 3), (32, .iload_n 2, 1), (33, .aload_n 0, 1), (34, .getfield 18, 3), (37, .iload_n 1, 1)] = true ∧ dOk cX2_onRing [(38, .iaload, 1), (39, .if_icmp .ge 17, 3), (42, .aload_n 0, 1), (43, .getfield 21, 3), (46, .iload_n 1, 1), (47, .bipush 24, 2), (49, .imul, 1), (50, .iload_n 2, 1), (51, .iadd, 1), (52, .iaload, 1), (53, .goto 4, 3)] = true := by decide +kernel
theorem dX2_onRing_0 : decode cX2_onRing 0 = .ok (.aload_n 0, 1) := dr9 dk9_dX2_onRing_0_0.1 0 (0, .aload_n 0, 1) rfl
theorem dX2_onRing_1 : decode cX2_onRing 1 = .ok (.iload_n 1, 1) := dr9 dk9_dX2_onRing_0_0.1 1 (1, .iload_n 1, 1) rfl
theorem dX2_onRing_2 : decode cX2_onRing 2 = .ok (.invokevirtual 109, 3) := dr9 dk9_dX2_onRing_0_0.1 2 (2, .invokevirtual 109, 3) rfl
theorem dX2_onRing_5 : decode cX2_onRing 5 = .ok (.ifCond .eq 17, 3) := dr9 dk9_dX2_onRing_0_0.1 3 (5, .ifCond .eq 17, 3) rfl
theorem dX2_onRing_22 : decode cX2_onRing 22 = .ok (.iconst 0, 1) := dr9 dk9_dX2_onRing_0_0.1 4 (22, .iconst 0, 1) rfl
theorem dX2_onRing_23 : decode cX2_onRing 23 = .ok (.istore_n 3, 1) := dr9 dk9_dX2_onRing_0_0.1 5 (23, .istore_n 3, 1) rfl
theorem dX2_onRing_24 : decode cX2_onRing 24 = .ok (.iload_n 3, 1) := dr9 dk9_dX2_onRing_0_0.1 6 (24, .iload_n 3, 1) rfl
theorem dX2_onRing_25 : decode cX2_onRing 25 = .ok (.ifCond .eq 31, 3) := dr9 dk9_dX2_onRing_0_0.1 7 (25, .ifCond .eq 31, 3) rfl
theorem dX2_onRing_56 : decode cX2_onRing 56 = .ok (.iconst (-1), 1) := dr9 dk9_dX2_onRing_0_0.1 8 (56, .iconst (-1), 1) rfl
theorem dX2_onRing_57 : decode cX2_onRing 57 = .ok (.ireturn, 1) := dr9 dk9_dX2_onRing_0_0.1 9 (57, .ireturn, 1) rfl
theorem dX2_onRing_8 : decode cX2_onRing 8 = .ok (.aload_n 0, 1) := dr9 dk9_dX2_onRing_0_0.1 10 (8, .aload_n 0, 1) rfl
theorem dX2_onRing_9 : decode cX2_onRing 9 = .ok (.getfield 9, 3) := dr9 dk9_dX2_onRing_0_0.1 11 (9, .getfield 9, 3) rfl
theorem dX2_onRing_12 : decode cX2_onRing 12 = .ok (.iload_n 1, 1) := dr9 dk9_dX2_onRing_0_0.1 12 (12, .iload_n 1, 1) rfl
theorem dX2_onRing_13 : decode cX2_onRing 13 = .ok (.iaload, 1) := dr9 dk9_dX2_onRing_0_0.1 13 (13, .iaload, 1) rfl
theorem dX2_onRing_14 : decode cX2_onRing 14 = .ok (.iconst 3, 1) := dr9 dk9_dX2_onRing_0_0.1 14 (14, .iconst 3, 1) rfl
theorem dX2_onRing_15 : decode cX2_onRing 15 = .ok (.if_icmp .ne 7, 3) := dr9 dk9_dX2_onRing_0_0.1 15 (15, .if_icmp .ne 7, 3) rfl
theorem dX2_onRing_18 : decode cX2_onRing 18 = .ok (.iconst 1, 1) := dr9 dk9_dX2_onRing_0_0.1 16 (18, .iconst 1, 1) rfl
theorem dX2_onRing_19 : decode cX2_onRing 19 = .ok (.goto 4, 3) := dr9 dk9_dX2_onRing_0_0.1 17 (19, .goto 4, 3) rfl
theorem dX2_onRing_28 : decode cX2_onRing 28 = .ok (.iload_n 2, 1) := dr9 dk9_dX2_onRing_0_0.1 18 (28, .iload_n 2, 1) rfl
theorem dX2_onRing_29 : decode cX2_onRing 29 = .ok (.ifCond .lt 27, 3) := dr9 dk9_dX2_onRing_0_0.1 19 (29, .ifCond .lt 27, 3) rfl
theorem dX2_onRing_32 : decode cX2_onRing 32 = .ok (.iload_n 2, 1) := dr9 dk9_dX2_onRing_0_0.1 20 (32, .iload_n 2, 1) rfl
theorem dX2_onRing_33 : decode cX2_onRing 33 = .ok (.aload_n 0, 1) := dr9 dk9_dX2_onRing_0_0.1 21 (33, .aload_n 0, 1) rfl
theorem dX2_onRing_34 : decode cX2_onRing 34 = .ok (.getfield 18, 3) := dr9 dk9_dX2_onRing_0_0.1 22 (34, .getfield 18, 3) rfl
theorem dX2_onRing_37 : decode cX2_onRing 37 = .ok (.iload_n 1, 1) := dr9 dk9_dX2_onRing_0_0.1 23 (37, .iload_n 1, 1) rfl
theorem dX2_onRing_38 : decode cX2_onRing 38 = .ok (.iaload, 1) := dr9 dk9_dX2_onRing_0_0.2 0 (38, .iaload, 1) rfl
theorem dX2_onRing_39 : decode cX2_onRing 39 = .ok (.if_icmp .ge 17, 3) := dr9 dk9_dX2_onRing_0_0.2 1 (39, .if_icmp .ge 17, 3) rfl
theorem dX2_onRing_42 : decode cX2_onRing 42 = .ok (.aload_n 0, 1) := dr9 dk9_dX2_onRing_0_0.2 2 (42, .aload_n 0, 1) rfl
theorem dX2_onRing_43 : decode cX2_onRing 43 = .ok (.getfield 21, 3) := dr9 dk9_dX2_onRing_0_0.2 3 (43, .getfield 21, 3) rfl
theorem dX2_onRing_46 : decode cX2_onRing 46 = .ok (.iload_n 1, 1) := dr9 dk9_dX2_onRing_0_0.2 4 (46, .iload_n 1, 1) rfl
theorem dX2_onRing_47 : decode cX2_onRing 47 = .ok (.bipush 24, 2) := dr9 dk9_dX2_onRing_0_0.2 5 (47, .bipush 24, 2) rfl
theorem dX2_onRing_49 : decode cX2_onRing 49 = .ok (.imul, 1) := dr9 dk9_dX2_onRing_0_0.2 6 (49, .imul, 1) rfl
theorem dX2_onRing_50 : decode cX2_onRing 50 = .ok (.iload_n 2, 1) := dr9 dk9_dX2_onRing_0_0.2 7 (50, .iload_n 2, 1) rfl
theorem dX2_onRing_51 : decode cX2_onRing 51 = .ok (.iadd, 1) := dr9 dk9_dX2_onRing_0_0.2 8 (51, .iadd, 1) rfl
theorem dX2_onRing_52 : decode cX2_onRing 52 = .ok (.iaload, 1) := dr9 dk9_dX2_onRing_0_0.2 9 (52, .iaload, 1) rfl
theorem dX2_onRing_53 : decode cX2_onRing 53 = .ok (.goto 4, 3) := dr9 dk9_dX2_onRing_0_0.2 10 (53, .goto 4, 3) rfl
theorem dk9_dX2_noteRing_0_0 : dOk cX2_noteRing [(0, .aload_n 0, 1), (1, .getfield 30, 3), (4, .bipush 100, 2), (6, .if_icmp .ge 38, 3), (44, .aload_n 0, 1), (45, .iconst 3, 1), (46, .aload_n 0, 1), (47, .getfield 24, 3), (50, .iload_n 1, 1), (51, .iaload, 1), (52, .iload_n 2, 1), (53, .iload_n 1, 1), (54, .isub, 1), (55, .iconst 1, 1), (56, .iadd, 1), (57, .invokevirtual 80, 3), (60, .return_, 1), (9, .iload_n 1, 1), (10, .istore_n 3, 1), (11, .iload_n 3, 1), (12, .iload_n 2, 1), (13, .if_icmp .gt 31, 3), (16, .aload_n 0, 1), (17, .getfield 21, 3)] = true ∧ dOk cX2_noteRing [(20, .aload_n 0, 1), (21, .getfield 30, 3), (24, .bipush 24, 2), (26, .imul, 1), (27, .iload_n 3, 1), (28, .iadd, 1), (29, .iload_n 1, 1), (30, .isub, 1), (31, .aload_n 0, 1), (32, .getfield 24, 3), (35, .iload_n 3, 1), (36, .iaload, 1), (37, .iastore, 1), (38, .iinc 3 1, 3), (41, .goto (-30), 3)] = true := by decide +kernel
theorem dX2_noteRing_0 : decode cX2_noteRing 0 = .ok (.aload_n 0, 1) := dr9 dk9_dX2_noteRing_0_0.1 0 (0, .aload_n 0, 1) rfl
theorem dX2_noteRing_1 : decode cX2_noteRing 1 = .ok (.getfield 30, 3) := dr9 dk9_dX2_noteRing_0_0.1 1 (1, .getfield 30, 3) rfl
theorem dX2_noteRing_4 : decode cX2_noteRing 4 = .ok (.bipush 100, 2) := dr9 dk9_dX2_noteRing_0_0.1 2 (4, .bipush 100, 2) rfl
theorem dX2_noteRing_6 : decode cX2_noteRing 6 = .ok (.if_icmp .ge 38, 3) := dr9 dk9_dX2_noteRing_0_0.1 3 (6, .if_icmp .ge 38, 3) rfl
theorem dX2_noteRing_44 : decode cX2_noteRing 44 = .ok (.aload_n 0, 1) := dr9 dk9_dX2_noteRing_0_0.1 4 (44, .aload_n 0, 1) rfl
theorem dX2_noteRing_45 : decode cX2_noteRing 45 = .ok (.iconst 3, 1) := dr9 dk9_dX2_noteRing_0_0.1 5 (45, .iconst 3, 1) rfl
theorem dX2_noteRing_46 : decode cX2_noteRing 46 = .ok (.aload_n 0, 1) := dr9 dk9_dX2_noteRing_0_0.1 6 (46, .aload_n 0, 1) rfl
theorem dX2_noteRing_47 : decode cX2_noteRing 47 = .ok (.getfield 24, 3) := dr9 dk9_dX2_noteRing_0_0.1 7 (47, .getfield 24, 3) rfl
theorem dX2_noteRing_50 : decode cX2_noteRing 50 = .ok (.iload_n 1, 1) := dr9 dk9_dX2_noteRing_0_0.1 8 (50, .iload_n 1, 1) rfl
theorem dX2_noteRing_51 : decode cX2_noteRing 51 = .ok (.iaload, 1) := dr9 dk9_dX2_noteRing_0_0.1 9 (51, .iaload, 1) rfl
theorem dX2_noteRing_52 : decode cX2_noteRing 52 = .ok (.iload_n 2, 1) := dr9 dk9_dX2_noteRing_0_0.1 10 (52, .iload_n 2, 1) rfl
theorem dX2_noteRing_53 : decode cX2_noteRing 53 = .ok (.iload_n 1, 1) := dr9 dk9_dX2_noteRing_0_0.1 11 (53, .iload_n 1, 1) rfl
theorem dX2_noteRing_54 : decode cX2_noteRing 54 = .ok (.isub, 1) := dr9 dk9_dX2_noteRing_0_0.1 12 (54, .isub, 1) rfl
theorem dX2_noteRing_55 : decode cX2_noteRing 55 = .ok (.iconst 1, 1) := dr9 dk9_dX2_noteRing_0_0.1 13 (55, .iconst 1, 1) rfl
theorem dX2_noteRing_56 : decode cX2_noteRing 56 = .ok (.iadd, 1) := dr9 dk9_dX2_noteRing_0_0.1 14 (56, .iadd, 1) rfl
theorem dX2_noteRing_57 : decode cX2_noteRing 57 = .ok (.invokevirtual 80, 3) := dr9 dk9_dX2_noteRing_0_0.1 15 (57, .invokevirtual 80, 3) rfl
theorem dX2_noteRing_60 : decode cX2_noteRing 60 = .ok (.return_, 1) := dr9 dk9_dX2_noteRing_0_0.1 16 (60, .return_, 1) rfl
theorem dX2_noteRing_9 : decode cX2_noteRing 9 = .ok (.iload_n 1, 1) := dr9 dk9_dX2_noteRing_0_0.1 17 (9, .iload_n 1, 1) rfl
theorem dX2_noteRing_10 : decode cX2_noteRing 10 = .ok (.istore_n 3, 1) := dr9 dk9_dX2_noteRing_0_0.1 18 (10, .istore_n 3, 1) rfl
theorem dX2_noteRing_11 : decode cX2_noteRing 11 = .ok (.iload_n 3, 1) := dr9 dk9_dX2_noteRing_0_0.1 19 (11, .iload_n 3, 1) rfl
theorem dX2_noteRing_12 : decode cX2_noteRing 12 = .ok (.iload_n 2, 1) := dr9 dk9_dX2_noteRing_0_0.1 20 (12, .iload_n 2, 1) rfl
theorem dX2_noteRing_13 : decode cX2_noteRing 13 = .ok (.if_icmp .gt 31, 3) := dr9 dk9_dX2_noteRing_0_0.1 21 (13, .if_icmp .gt 31, 3) rfl
theorem dX2_noteRing_16 : decode cX2_noteRing 16 = .ok (.aload_n 0, 1) := dr9 dk9_dX2_noteRing_0_0.1 22 (16, .aload_n 0, 1) rfl
theorem dX2_noteRing_17 : decode cX2_noteRing 17 = .ok (.getfield 21, 3) := dr9 dk9_dX2_noteRing_0_0.1 23 (17, .getfield 21, 3) rfl
theorem dX2_noteRing_20 : decode cX2_noteRing 20 = .ok (.aload_n 0, 1) := dr9 dk9_dX2_noteRing_0_0.2 0 (20, .aload_n 0, 1) rfl
theorem dX2_noteRing_21 : decode cX2_noteRing 21 = .ok (.getfield 30, 3) := dr9 dk9_dX2_noteRing_0_0.2 1 (21, .getfield 30, 3) rfl
theorem dX2_noteRing_24 : decode cX2_noteRing 24 = .ok (.bipush 24, 2) := dr9 dk9_dX2_noteRing_0_0.2 2 (24, .bipush 24, 2) rfl
theorem dX2_noteRing_26 : decode cX2_noteRing 26 = .ok (.imul, 1) := dr9 dk9_dX2_noteRing_0_0.2 3 (26, .imul, 1) rfl
theorem dX2_noteRing_27 : decode cX2_noteRing 27 = .ok (.iload_n 3, 1) := dr9 dk9_dX2_noteRing_0_0.2 4 (27, .iload_n 3, 1) rfl
theorem dX2_noteRing_28 : decode cX2_noteRing 28 = .ok (.iadd, 1) := dr9 dk9_dX2_noteRing_0_0.2 5 (28, .iadd, 1) rfl
theorem dX2_noteRing_29 : decode cX2_noteRing 29 = .ok (.iload_n 1, 1) := dr9 dk9_dX2_noteRing_0_0.2 6 (29, .iload_n 1, 1) rfl
theorem dX2_noteRing_30 : decode cX2_noteRing 30 = .ok (.isub, 1) := dr9 dk9_dX2_noteRing_0_0.2 7 (30, .isub, 1) rfl
theorem dX2_noteRing_31 : decode cX2_noteRing 31 = .ok (.aload_n 0, 1) := dr9 dk9_dX2_noteRing_0_0.2 8 (31, .aload_n 0, 1) rfl
theorem dX2_noteRing_32 : decode cX2_noteRing 32 = .ok (.getfield 24, 3) := dr9 dk9_dX2_noteRing_0_0.2 9 (32, .getfield 24, 3) rfl
theorem dX2_noteRing_35 : decode cX2_noteRing 35 = .ok (.iload_n 3, 1) := dr9 dk9_dX2_noteRing_0_0.2 10 (35, .iload_n 3, 1) rfl
theorem dX2_noteRing_36 : decode cX2_noteRing 36 = .ok (.iaload, 1) := dr9 dk9_dX2_noteRing_0_0.2 11 (36, .iaload, 1) rfl
theorem dX2_noteRing_37 : decode cX2_noteRing 37 = .ok (.iastore, 1) := dr9 dk9_dX2_noteRing_0_0.2 12 (37, .iastore, 1) rfl
theorem dX2_noteRing_38 : decode cX2_noteRing 38 = .ok (.iinc 3 1, 3) := dr9 dk9_dX2_noteRing_0_0.2 13 (38, .iinc 3 1, 3) rfl
theorem dX2_noteRing_41 : decode cX2_noteRing 41 = .ok (.goto (-30), 3) := dr9 dk9_dX2_noteRing_0_0.2 14 (41, .goto (-30), 3) rfl
theorem dk9_dX2_hasShorter_0_0 : dOk cX2_hasShorter [(0, .iload_n 2, 1), (1, .iconst 3, 1), (2, .if_icmp .ne 7, 3), (9, .iload_n 2, 1), (10, .istore_n 3, 1), (11, .iconst 0, 1), (12, .istore 4, 2), (14, .iload 4, 2), (16, .aload_n 0, 1), (17, .getfield 34, 3), (20, .getfield 38, 3), (23, .getfield 44, 3), (26, .if_icmp .ge 47, 3), (73, .iconst 0, 1), (74, .ireturn, 1), (29, .aload_n 0, 1), (30, .getfield 34, 3), (33, .getfield 67, 3), (36, .iload 4, 2), (38, .aaload, 1), (39, .getfield 96, 3), (42, .istore 5, 2), (44, .iload_n 1, 1), (45, .iload 4, 2)] = true ∧ dOk cX2_hasShorter [(47, .ishr, 1), (48, .iconst 1, 1), (49, .iand, 1), (50, .ifCond .eq 17, 3), (67, .iinc 4 1, 3), (70, .goto (-56), 3), (53, .iload 5, 2), (55, .iconst 3, 1), (56, .if_icmp .eq 11, 3), (59, .iload 5, 2), (61, .iload_n 3, 1), (62, .if_icmp .le 5, 3), (65, .iconst 1, 1), (66, .ireturn, 1), (5, .iconst 2, 1), (6, .goto 4, 3)] = true := by decide +kernel
theorem dX2_hasShorter_0 : decode cX2_hasShorter 0 = .ok (.iload_n 2, 1) := dr9 dk9_dX2_hasShorter_0_0.1 0 (0, .iload_n 2, 1) rfl
theorem dX2_hasShorter_1 : decode cX2_hasShorter 1 = .ok (.iconst 3, 1) := dr9 dk9_dX2_hasShorter_0_0.1 1 (1, .iconst 3, 1) rfl
theorem dX2_hasShorter_2 : decode cX2_hasShorter 2 = .ok (.if_icmp .ne 7, 3) := dr9 dk9_dX2_hasShorter_0_0.1 2 (2, .if_icmp .ne 7, 3) rfl
theorem dX2_hasShorter_9 : decode cX2_hasShorter 9 = .ok (.iload_n 2, 1) := dr9 dk9_dX2_hasShorter_0_0.1 3 (9, .iload_n 2, 1) rfl
theorem dX2_hasShorter_10 : decode cX2_hasShorter 10 = .ok (.istore_n 3, 1) := dr9 dk9_dX2_hasShorter_0_0.1 4 (10, .istore_n 3, 1) rfl
theorem dX2_hasShorter_11 : decode cX2_hasShorter 11 = .ok (.iconst 0, 1) := dr9 dk9_dX2_hasShorter_0_0.1 5 (11, .iconst 0, 1) rfl
theorem dX2_hasShorter_12 : decode cX2_hasShorter 12 = .ok (.istore 4, 2) := dr9 dk9_dX2_hasShorter_0_0.1 6 (12, .istore 4, 2) rfl
theorem dX2_hasShorter_14 : decode cX2_hasShorter 14 = .ok (.iload 4, 2) := dr9 dk9_dX2_hasShorter_0_0.1 7 (14, .iload 4, 2) rfl
theorem dX2_hasShorter_16 : decode cX2_hasShorter 16 = .ok (.aload_n 0, 1) := dr9 dk9_dX2_hasShorter_0_0.1 8 (16, .aload_n 0, 1) rfl
theorem dX2_hasShorter_17 : decode cX2_hasShorter 17 = .ok (.getfield 34, 3) := dr9 dk9_dX2_hasShorter_0_0.1 9 (17, .getfield 34, 3) rfl
theorem dX2_hasShorter_20 : decode cX2_hasShorter 20 = .ok (.getfield 38, 3) := dr9 dk9_dX2_hasShorter_0_0.1 10 (20, .getfield 38, 3) rfl
theorem dX2_hasShorter_23 : decode cX2_hasShorter 23 = .ok (.getfield 44, 3) := dr9 dk9_dX2_hasShorter_0_0.1 11 (23, .getfield 44, 3) rfl
theorem dX2_hasShorter_26 : decode cX2_hasShorter 26 = .ok (.if_icmp .ge 47, 3) := dr9 dk9_dX2_hasShorter_0_0.1 12 (26, .if_icmp .ge 47, 3) rfl
theorem dX2_hasShorter_73 : decode cX2_hasShorter 73 = .ok (.iconst 0, 1) := dr9 dk9_dX2_hasShorter_0_0.1 13 (73, .iconst 0, 1) rfl
theorem dX2_hasShorter_74 : decode cX2_hasShorter 74 = .ok (.ireturn, 1) := dr9 dk9_dX2_hasShorter_0_0.1 14 (74, .ireturn, 1) rfl
theorem dX2_hasShorter_29 : decode cX2_hasShorter 29 = .ok (.aload_n 0, 1) := dr9 dk9_dX2_hasShorter_0_0.1 15 (29, .aload_n 0, 1) rfl
theorem dX2_hasShorter_30 : decode cX2_hasShorter 30 = .ok (.getfield 34, 3) := dr9 dk9_dX2_hasShorter_0_0.1 16 (30, .getfield 34, 3) rfl
theorem dX2_hasShorter_33 : decode cX2_hasShorter 33 = .ok (.getfield 67, 3) := dr9 dk9_dX2_hasShorter_0_0.1 17 (33, .getfield 67, 3) rfl
theorem dX2_hasShorter_36 : decode cX2_hasShorter 36 = .ok (.iload 4, 2) := dr9 dk9_dX2_hasShorter_0_0.1 18 (36, .iload 4, 2) rfl
theorem dX2_hasShorter_38 : decode cX2_hasShorter 38 = .ok (.aaload, 1) := dr9 dk9_dX2_hasShorter_0_0.1 19 (38, .aaload, 1) rfl
theorem dX2_hasShorter_39 : decode cX2_hasShorter 39 = .ok (.getfield 96, 3) := dr9 dk9_dX2_hasShorter_0_0.1 20 (39, .getfield 96, 3) rfl
theorem dX2_hasShorter_42 : decode cX2_hasShorter 42 = .ok (.istore 5, 2) := dr9 dk9_dX2_hasShorter_0_0.1 21 (42, .istore 5, 2) rfl
theorem dX2_hasShorter_44 : decode cX2_hasShorter 44 = .ok (.iload_n 1, 1) := dr9 dk9_dX2_hasShorter_0_0.1 22 (44, .iload_n 1, 1) rfl
theorem dX2_hasShorter_45 : decode cX2_hasShorter 45 = .ok (.iload 4, 2) := dr9 dk9_dX2_hasShorter_0_0.1 23 (45, .iload 4, 2) rfl
theorem dX2_hasShorter_47 : decode cX2_hasShorter 47 = .ok (.ishr, 1) := dr9 dk9_dX2_hasShorter_0_0.2 0 (47, .ishr, 1) rfl
theorem dX2_hasShorter_48 : decode cX2_hasShorter 48 = .ok (.iconst 1, 1) := dr9 dk9_dX2_hasShorter_0_0.2 1 (48, .iconst 1, 1) rfl
theorem dX2_hasShorter_49 : decode cX2_hasShorter 49 = .ok (.iand, 1) := dr9 dk9_dX2_hasShorter_0_0.2 2 (49, .iand, 1) rfl
theorem dX2_hasShorter_50 : decode cX2_hasShorter 50 = .ok (.ifCond .eq 17, 3) := dr9 dk9_dX2_hasShorter_0_0.2 3 (50, .ifCond .eq 17, 3) rfl
theorem dX2_hasShorter_67 : decode cX2_hasShorter 67 = .ok (.iinc 4 1, 3) := dr9 dk9_dX2_hasShorter_0_0.2 4 (67, .iinc 4 1, 3) rfl
theorem dX2_hasShorter_70 : decode cX2_hasShorter 70 = .ok (.goto (-56), 3) := dr9 dk9_dX2_hasShorter_0_0.2 5 (70, .goto (-56), 3) rfl
theorem dX2_hasShorter_53 : decode cX2_hasShorter 53 = .ok (.iload 5, 2) := dr9 dk9_dX2_hasShorter_0_0.2 6 (53, .iload 5, 2) rfl
theorem dX2_hasShorter_55 : decode cX2_hasShorter 55 = .ok (.iconst 3, 1) := dr9 dk9_dX2_hasShorter_0_0.2 7 (55, .iconst 3, 1) rfl
theorem dX2_hasShorter_56 : decode cX2_hasShorter 56 = .ok (.if_icmp .eq 11, 3) := dr9 dk9_dX2_hasShorter_0_0.2 8 (56, .if_icmp .eq 11, 3) rfl
theorem dX2_hasShorter_59 : decode cX2_hasShorter 59 = .ok (.iload 5, 2) := dr9 dk9_dX2_hasShorter_0_0.2 9 (59, .iload 5, 2) rfl
theorem dX2_hasShorter_61 : decode cX2_hasShorter 61 = .ok (.iload_n 3, 1) := dr9 dk9_dX2_hasShorter_0_0.2 10 (61, .iload_n 3, 1) rfl
theorem dX2_hasShorter_62 : decode cX2_hasShorter 62 = .ok (.if_icmp .le 5, 3) := dr9 dk9_dX2_hasShorter_0_0.2 11 (62, .if_icmp .le 5, 3) rfl
theorem dX2_hasShorter_65 : decode cX2_hasShorter 65 = .ok (.iconst 1, 1) := dr9 dk9_dX2_hasShorter_0_0.2 12 (65, .iconst 1, 1) rfl
theorem dX2_hasShorter_66 : decode cX2_hasShorter 66 = .ok (.ireturn, 1) := dr9 dk9_dX2_hasShorter_0_0.2 13 (66, .ireturn, 1) rfl
theorem dX2_hasShorter_5 : decode cX2_hasShorter 5 = .ok (.iconst 2, 1) := dr9 dk9_dX2_hasShorter_0_0.2 14 (5, .iconst 2, 1) rfl
theorem dX2_hasShorter_6 : decode cX2_hasShorter 6 = .ok (.goto 4, 3) := dr9 dk9_dX2_hasShorter_0_0.2 15 (6, .goto 4, 3) rfl
theorem dk9_dX2_faultOf_0_0 : dOk cX2_faultOf [(0, .aload_n 0, 1), (1, .getfield 34, 3), (4, .getfield 67, 3), (7, .iload_n 1, 1), (8, .aaload, 1), (9, .astore_n 3, 1), (10, .aload_n 3, 1), (11, .getfield 84, 3), (14, .iload_n 2, 1), (15, .iaload, 1), (16, .istore 4, 2), (18, .aload_n 0, 1), (19, .getfield 34, 3), (22, .iload_n 1, 1), (23, .iload_n 2, 1), (24, .invokevirtual 87, 3), (27, .istore 5, 2), (29, .iload 4, 2), (31, .iconst 2, 1), (32, .if_icmp .eq 10, 3), (42, .iload 4, 2), (44, .iconst 2, 1), (45, .if_icmp .eq 14, 3), (59, .iload 4, 2)] = true ∧ dOk cX2_faultOf [(61, .iconst 1, 1), (62, .if_icmp .eq 20, 3), (65, .aload_n 0, 1), (66, .iload 5, 2), (68, .aload_n 3, 1), (69, .getfield 96, 3), (72, .invokevirtual 99, 3), (75, .ifCond .eq 7, 3), (82, .iconst 0, 1), (83, .ireturn, 1), (78, .iconst 4, 1), (79, .goto 4, 3), (35, .iload 5, 2), (37, .ifCond .ne 5, 3), (48, .iload 5, 2), (50, .invokestatic 90, 3), (53, .iconst 1, 1), (54, .if_icmp .le 5, 3), (57, .iconst 2, 1), (58, .ireturn, 1), (40, .iconst 1, 1), (41, .ireturn, 1)] = true := by decide +kernel
theorem dX2_faultOf_0 : decode cX2_faultOf 0 = .ok (.aload_n 0, 1) := dr9 dk9_dX2_faultOf_0_0.1 0 (0, .aload_n 0, 1) rfl
theorem dX2_faultOf_1 : decode cX2_faultOf 1 = .ok (.getfield 34, 3) := dr9 dk9_dX2_faultOf_0_0.1 1 (1, .getfield 34, 3) rfl
theorem dX2_faultOf_4 : decode cX2_faultOf 4 = .ok (.getfield 67, 3) := dr9 dk9_dX2_faultOf_0_0.1 2 (4, .getfield 67, 3) rfl
theorem dX2_faultOf_7 : decode cX2_faultOf 7 = .ok (.iload_n 1, 1) := dr9 dk9_dX2_faultOf_0_0.1 3 (7, .iload_n 1, 1) rfl
theorem dX2_faultOf_8 : decode cX2_faultOf 8 = .ok (.aaload, 1) := dr9 dk9_dX2_faultOf_0_0.1 4 (8, .aaload, 1) rfl
theorem dX2_faultOf_9 : decode cX2_faultOf 9 = .ok (.astore_n 3, 1) := dr9 dk9_dX2_faultOf_0_0.1 5 (9, .astore_n 3, 1) rfl
theorem dX2_faultOf_10 : decode cX2_faultOf 10 = .ok (.aload_n 3, 1) := dr9 dk9_dX2_faultOf_0_0.1 6 (10, .aload_n 3, 1) rfl
theorem dX2_faultOf_11 : decode cX2_faultOf 11 = .ok (.getfield 84, 3) := dr9 dk9_dX2_faultOf_0_0.1 7 (11, .getfield 84, 3) rfl
theorem dX2_faultOf_14 : decode cX2_faultOf 14 = .ok (.iload_n 2, 1) := dr9 dk9_dX2_faultOf_0_0.1 8 (14, .iload_n 2, 1) rfl
theorem dX2_faultOf_15 : decode cX2_faultOf 15 = .ok (.iaload, 1) := dr9 dk9_dX2_faultOf_0_0.1 9 (15, .iaload, 1) rfl
theorem dX2_faultOf_16 : decode cX2_faultOf 16 = .ok (.istore 4, 2) := dr9 dk9_dX2_faultOf_0_0.1 10 (16, .istore 4, 2) rfl
theorem dX2_faultOf_18 : decode cX2_faultOf 18 = .ok (.aload_n 0, 1) := dr9 dk9_dX2_faultOf_0_0.1 11 (18, .aload_n 0, 1) rfl
theorem dX2_faultOf_19 : decode cX2_faultOf 19 = .ok (.getfield 34, 3) := dr9 dk9_dX2_faultOf_0_0.1 12 (19, .getfield 34, 3) rfl
theorem dX2_faultOf_22 : decode cX2_faultOf 22 = .ok (.iload_n 1, 1) := dr9 dk9_dX2_faultOf_0_0.1 13 (22, .iload_n 1, 1) rfl
theorem dX2_faultOf_23 : decode cX2_faultOf 23 = .ok (.iload_n 2, 1) := dr9 dk9_dX2_faultOf_0_0.1 14 (23, .iload_n 2, 1) rfl
theorem dX2_faultOf_24 : decode cX2_faultOf 24 = .ok (.invokevirtual 87, 3) := dr9 dk9_dX2_faultOf_0_0.1 15 (24, .invokevirtual 87, 3) rfl
theorem dX2_faultOf_27 : decode cX2_faultOf 27 = .ok (.istore 5, 2) := dr9 dk9_dX2_faultOf_0_0.1 16 (27, .istore 5, 2) rfl
theorem dX2_faultOf_29 : decode cX2_faultOf 29 = .ok (.iload 4, 2) := dr9 dk9_dX2_faultOf_0_0.1 17 (29, .iload 4, 2) rfl
theorem dX2_faultOf_31 : decode cX2_faultOf 31 = .ok (.iconst 2, 1) := dr9 dk9_dX2_faultOf_0_0.1 18 (31, .iconst 2, 1) rfl
theorem dX2_faultOf_32 : decode cX2_faultOf 32 = .ok (.if_icmp .eq 10, 3) := dr9 dk9_dX2_faultOf_0_0.1 19 (32, .if_icmp .eq 10, 3) rfl
theorem dX2_faultOf_42 : decode cX2_faultOf 42 = .ok (.iload 4, 2) := dr9 dk9_dX2_faultOf_0_0.1 20 (42, .iload 4, 2) rfl
theorem dX2_faultOf_44 : decode cX2_faultOf 44 = .ok (.iconst 2, 1) := dr9 dk9_dX2_faultOf_0_0.1 21 (44, .iconst 2, 1) rfl
theorem dX2_faultOf_45 : decode cX2_faultOf 45 = .ok (.if_icmp .eq 14, 3) := dr9 dk9_dX2_faultOf_0_0.1 22 (45, .if_icmp .eq 14, 3) rfl
theorem dX2_faultOf_59 : decode cX2_faultOf 59 = .ok (.iload 4, 2) := dr9 dk9_dX2_faultOf_0_0.1 23 (59, .iload 4, 2) rfl
theorem dX2_faultOf_61 : decode cX2_faultOf 61 = .ok (.iconst 1, 1) := dr9 dk9_dX2_faultOf_0_0.2 0 (61, .iconst 1, 1) rfl
theorem dX2_faultOf_62 : decode cX2_faultOf 62 = .ok (.if_icmp .eq 20, 3) := dr9 dk9_dX2_faultOf_0_0.2 1 (62, .if_icmp .eq 20, 3) rfl
theorem dX2_faultOf_65 : decode cX2_faultOf 65 = .ok (.aload_n 0, 1) := dr9 dk9_dX2_faultOf_0_0.2 2 (65, .aload_n 0, 1) rfl
theorem dX2_faultOf_66 : decode cX2_faultOf 66 = .ok (.iload 5, 2) := dr9 dk9_dX2_faultOf_0_0.2 3 (66, .iload 5, 2) rfl
theorem dX2_faultOf_68 : decode cX2_faultOf 68 = .ok (.aload_n 3, 1) := dr9 dk9_dX2_faultOf_0_0.2 4 (68, .aload_n 3, 1) rfl
theorem dX2_faultOf_69 : decode cX2_faultOf 69 = .ok (.getfield 96, 3) := dr9 dk9_dX2_faultOf_0_0.2 5 (69, .getfield 96, 3) rfl
theorem dX2_faultOf_72 : decode cX2_faultOf 72 = .ok (.invokevirtual 99, 3) := dr9 dk9_dX2_faultOf_0_0.2 6 (72, .invokevirtual 99, 3) rfl
theorem dX2_faultOf_75 : decode cX2_faultOf 75 = .ok (.ifCond .eq 7, 3) := dr9 dk9_dX2_faultOf_0_0.2 7 (75, .ifCond .eq 7, 3) rfl
theorem dX2_faultOf_82 : decode cX2_faultOf 82 = .ok (.iconst 0, 1) := dr9 dk9_dX2_faultOf_0_0.2 8 (82, .iconst 0, 1) rfl
theorem dX2_faultOf_83 : decode cX2_faultOf 83 = .ok (.ireturn, 1) := dr9 dk9_dX2_faultOf_0_0.2 9 (83, .ireturn, 1) rfl
theorem dX2_faultOf_78 : decode cX2_faultOf 78 = .ok (.iconst 4, 1) := dr9 dk9_dX2_faultOf_0_0.2 10 (78, .iconst 4, 1) rfl
theorem dX2_faultOf_79 : decode cX2_faultOf 79 = .ok (.goto 4, 3) := dr9 dk9_dX2_faultOf_0_0.2 11 (79, .goto 4, 3) rfl
theorem dX2_faultOf_35 : decode cX2_faultOf 35 = .ok (.iload 5, 2) := dr9 dk9_dX2_faultOf_0_0.2 12 (35, .iload 5, 2) rfl
theorem dX2_faultOf_37 : decode cX2_faultOf 37 = .ok (.ifCond .ne 5, 3) := dr9 dk9_dX2_faultOf_0_0.2 13 (37, .ifCond .ne 5, 3) rfl
theorem dX2_faultOf_48 : decode cX2_faultOf 48 = .ok (.iload 5, 2) := dr9 dk9_dX2_faultOf_0_0.2 14 (48, .iload 5, 2) rfl
theorem dX2_faultOf_50 : decode cX2_faultOf 50 = .ok (.invokestatic 90, 3) := dr9 dk9_dX2_faultOf_0_0.2 15 (50, .invokestatic 90, 3) rfl
theorem dX2_faultOf_53 : decode cX2_faultOf 53 = .ok (.iconst 1, 1) := dr9 dk9_dX2_faultOf_0_0.2 16 (53, .iconst 1, 1) rfl
theorem dX2_faultOf_54 : decode cX2_faultOf 54 = .ok (.if_icmp .le 5, 3) := dr9 dk9_dX2_faultOf_0_0.2 17 (54, .if_icmp .le 5, 3) rfl
theorem dX2_faultOf_57 : decode cX2_faultOf 57 = .ok (.iconst 2, 1) := dr9 dk9_dX2_faultOf_0_0.2 18 (57, .iconst 2, 1) rfl
theorem dX2_faultOf_58 : decode cX2_faultOf 58 = .ok (.ireturn, 1) := dr9 dk9_dX2_faultOf_0_0.2 19 (58, .ireturn, 1) rfl
theorem dX2_faultOf_40 : decode cX2_faultOf 40 = .ok (.iconst 1, 1) := dr9 dk9_dX2_faultOf_0_0.2 20 (40, .iconst 1, 1) rfl
theorem dX2_faultOf_41 : decode cX2_faultOf 41 = .ok (.ireturn, 1) := dr9 dk9_dX2_faultOf_0_0.2 21 (41, .ireturn, 1) rfl
theorem dk9_dX2_examineNeeds_0_0 : dOk cX2_examineNeeds [(0, .iconst 0, 1), (1, .istore_n 2, 1), (2, .iload_n 2, 1), (3, .aload_n 0, 1), (4, .getfield 34, 3), (7, .getfield 67, 3), (10, .iload_n 1, 1), (11, .aaload, 1), (12, .getfield 71, 3), (15, .if_icmp .ge 27, 3), (42, .return_, 1), (18, .aload_n 0, 1), (19, .iload_n 1, 1), (20, .iload_n 2, 1), (21, .invokevirtual 76, 3), (24, .istore_n 3, 1), (25, .iload_n 3, 1), (26, .ifCond .eq 10, 3), (36, .iinc 2 1, 3), (39, .goto (-37), 3), (29, .aload_n 0, 1), (30, .iload_n 3, 1), (31, .iload_n 1, 1), (32, .iload_n 2, 1)] = true ∧ dOk cX2_examineNeeds [(33, .invokevirtual 80, 3)] = true := by decide +kernel
theorem dX2_examineNeeds_0 : decode cX2_examineNeeds 0 = .ok (.iconst 0, 1) := dr9 dk9_dX2_examineNeeds_0_0.1 0 (0, .iconst 0, 1) rfl
theorem dX2_examineNeeds_1 : decode cX2_examineNeeds 1 = .ok (.istore_n 2, 1) := dr9 dk9_dX2_examineNeeds_0_0.1 1 (1, .istore_n 2, 1) rfl
theorem dX2_examineNeeds_2 : decode cX2_examineNeeds 2 = .ok (.iload_n 2, 1) := dr9 dk9_dX2_examineNeeds_0_0.1 2 (2, .iload_n 2, 1) rfl
theorem dX2_examineNeeds_3 : decode cX2_examineNeeds 3 = .ok (.aload_n 0, 1) := dr9 dk9_dX2_examineNeeds_0_0.1 3 (3, .aload_n 0, 1) rfl
theorem dX2_examineNeeds_4 : decode cX2_examineNeeds 4 = .ok (.getfield 34, 3) := dr9 dk9_dX2_examineNeeds_0_0.1 4 (4, .getfield 34, 3) rfl
theorem dX2_examineNeeds_7 : decode cX2_examineNeeds 7 = .ok (.getfield 67, 3) := dr9 dk9_dX2_examineNeeds_0_0.1 5 (7, .getfield 67, 3) rfl
theorem dX2_examineNeeds_10 : decode cX2_examineNeeds 10 = .ok (.iload_n 1, 1) := dr9 dk9_dX2_examineNeeds_0_0.1 6 (10, .iload_n 1, 1) rfl
theorem dX2_examineNeeds_11 : decode cX2_examineNeeds 11 = .ok (.aaload, 1) := dr9 dk9_dX2_examineNeeds_0_0.1 7 (11, .aaload, 1) rfl
theorem dX2_examineNeeds_12 : decode cX2_examineNeeds 12 = .ok (.getfield 71, 3) := dr9 dk9_dX2_examineNeeds_0_0.1 8 (12, .getfield 71, 3) rfl
theorem dX2_examineNeeds_15 : decode cX2_examineNeeds 15 = .ok (.if_icmp .ge 27, 3) := dr9 dk9_dX2_examineNeeds_0_0.1 9 (15, .if_icmp .ge 27, 3) rfl
theorem dX2_examineNeeds_42 : decode cX2_examineNeeds 42 = .ok (.return_, 1) := dr9 dk9_dX2_examineNeeds_0_0.1 10 (42, .return_, 1) rfl
theorem dX2_examineNeeds_18 : decode cX2_examineNeeds 18 = .ok (.aload_n 0, 1) := dr9 dk9_dX2_examineNeeds_0_0.1 11 (18, .aload_n 0, 1) rfl
theorem dX2_examineNeeds_19 : decode cX2_examineNeeds 19 = .ok (.iload_n 1, 1) := dr9 dk9_dX2_examineNeeds_0_0.1 12 (19, .iload_n 1, 1) rfl
theorem dX2_examineNeeds_20 : decode cX2_examineNeeds 20 = .ok (.iload_n 2, 1) := dr9 dk9_dX2_examineNeeds_0_0.1 13 (20, .iload_n 2, 1) rfl
theorem dX2_examineNeeds_21 : decode cX2_examineNeeds 21 = .ok (.invokevirtual 76, 3) := dr9 dk9_dX2_examineNeeds_0_0.1 14 (21, .invokevirtual 76, 3) rfl
theorem dX2_examineNeeds_24 : decode cX2_examineNeeds 24 = .ok (.istore_n 3, 1) := dr9 dk9_dX2_examineNeeds_0_0.1 15 (24, .istore_n 3, 1) rfl
theorem dX2_examineNeeds_25 : decode cX2_examineNeeds 25 = .ok (.iload_n 3, 1) := dr9 dk9_dX2_examineNeeds_0_0.1 16 (25, .iload_n 3, 1) rfl
theorem dX2_examineNeeds_26 : decode cX2_examineNeeds 26 = .ok (.ifCond .eq 10, 3) := dr9 dk9_dX2_examineNeeds_0_0.1 17 (26, .ifCond .eq 10, 3) rfl
theorem dX2_examineNeeds_36 : decode cX2_examineNeeds 36 = .ok (.iinc 2 1, 3) := dr9 dk9_dX2_examineNeeds_0_0.1 18 (36, .iinc 2 1, 3) rfl
theorem dX2_examineNeeds_39 : decode cX2_examineNeeds 39 = .ok (.goto (-37), 3) := dr9 dk9_dX2_examineNeeds_0_0.1 19 (39, .goto (-37), 3) rfl
theorem dX2_examineNeeds_29 : decode cX2_examineNeeds 29 = .ok (.aload_n 0, 1) := dr9 dk9_dX2_examineNeeds_0_0.1 20 (29, .aload_n 0, 1) rfl
theorem dX2_examineNeeds_30 : decode cX2_examineNeeds 30 = .ok (.iload_n 3, 1) := dr9 dk9_dX2_examineNeeds_0_0.1 21 (30, .iload_n 3, 1) rfl
theorem dX2_examineNeeds_31 : decode cX2_examineNeeds 31 = .ok (.iload_n 1, 1) := dr9 dk9_dX2_examineNeeds_0_0.1 22 (31, .iload_n 1, 1) rfl
theorem dX2_examineNeeds_32 : decode cX2_examineNeeds 32 = .ok (.iload_n 2, 1) := dr9 dk9_dX2_examineNeeds_0_0.1 23 (32, .iload_n 2, 1) rfl
theorem dX2_examineNeeds_33 : decode cX2_examineNeeds 33 = .ok (.invokevirtual 80, 3) := dr9 dk9_dX2_examineNeeds_0_0.2 0 (33, .invokevirtual 80, 3) rfl
theorem dk9_dX2_followed_0_0 : dOk cX2_followed [(0, .aload_n 0, 1), (1, .iload_n 1, 1), (2, .iload_n 2, 1), (3, .invokevirtual 76, 3), (6, .istore_n 3, 1), (7, .iload_n 3, 1), (8, .iconst 1, 1), (9, .if_icmp .eq 8, 3), (17, .iconst 0, 1), (18, .goto 12, 3), (30, .ireturn, 1), (12, .iload_n 3, 1), (13, .iconst 2, 1), (14, .if_icmp .ne 7, 3), (21, .aload_n 0, 1), (22, .getfield 34, 3), (25, .iload_n 1, 1), (26, .iload_n 2, 1), (27, .invokevirtual 87, 3)] = true := by decide +kernel
theorem dX2_followed_0 : decode cX2_followed 0 = .ok (.aload_n 0, 1) := dr9 dk9_dX2_followed_0_0 0 (0, .aload_n 0, 1) rfl
theorem dX2_followed_1 : decode cX2_followed 1 = .ok (.iload_n 1, 1) := dr9 dk9_dX2_followed_0_0 1 (1, .iload_n 1, 1) rfl
theorem dX2_followed_2 : decode cX2_followed 2 = .ok (.iload_n 2, 1) := dr9 dk9_dX2_followed_0_0 2 (2, .iload_n 2, 1) rfl
theorem dX2_followed_3 : decode cX2_followed 3 = .ok (.invokevirtual 76, 3) := dr9 dk9_dX2_followed_0_0 3 (3, .invokevirtual 76, 3) rfl
theorem dX2_followed_6 : decode cX2_followed 6 = .ok (.istore_n 3, 1) := dr9 dk9_dX2_followed_0_0 4 (6, .istore_n 3, 1) rfl
theorem dX2_followed_7 : decode cX2_followed 7 = .ok (.iload_n 3, 1) := dr9 dk9_dX2_followed_0_0 5 (7, .iload_n 3, 1) rfl
theorem dX2_followed_8 : decode cX2_followed 8 = .ok (.iconst 1, 1) := dr9 dk9_dX2_followed_0_0 6 (8, .iconst 1, 1) rfl
theorem dX2_followed_9 : decode cX2_followed 9 = .ok (.if_icmp .eq 8, 3) := dr9 dk9_dX2_followed_0_0 7 (9, .if_icmp .eq 8, 3) rfl
theorem dX2_followed_17 : decode cX2_followed 17 = .ok (.iconst 0, 1) := dr9 dk9_dX2_followed_0_0 8 (17, .iconst 0, 1) rfl
theorem dX2_followed_18 : decode cX2_followed 18 = .ok (.goto 12, 3) := dr9 dk9_dX2_followed_0_0 9 (18, .goto 12, 3) rfl
theorem dX2_followed_30 : decode cX2_followed 30 = .ok (.ireturn, 1) := dr9 dk9_dX2_followed_0_0 10 (30, .ireturn, 1) rfl
theorem dX2_followed_12 : decode cX2_followed 12 = .ok (.iload_n 3, 1) := dr9 dk9_dX2_followed_0_0 11 (12, .iload_n 3, 1) rfl
theorem dX2_followed_13 : decode cX2_followed 13 = .ok (.iconst 2, 1) := dr9 dk9_dX2_followed_0_0 12 (13, .iconst 2, 1) rfl
theorem dX2_followed_14 : decode cX2_followed 14 = .ok (.if_icmp .ne 7, 3) := dr9 dk9_dX2_followed_0_0 13 (14, .if_icmp .ne 7, 3) rfl
theorem dX2_followed_21 : decode cX2_followed 21 = .ok (.aload_n 0, 1) := dr9 dk9_dX2_followed_0_0 14 (21, .aload_n 0, 1) rfl
theorem dX2_followed_22 : decode cX2_followed 22 = .ok (.getfield 34, 3) := dr9 dk9_dX2_followed_0_0 15 (22, .getfield 34, 3) rfl
theorem dX2_followed_25 : decode cX2_followed 25 = .ok (.iload_n 1, 1) := dr9 dk9_dX2_followed_0_0 16 (25, .iload_n 1, 1) rfl
theorem dX2_followed_26 : decode cX2_followed 26 = .ok (.iload_n 2, 1) := dr9 dk9_dX2_followed_0_0 17 (26, .iload_n 2, 1) rfl
theorem dX2_followed_27 : decode cX2_followed 27 = .ok (.invokevirtual 87, 3) := dr9 dk9_dX2_followed_0_0 18 (27, .invokevirtual 87, 3) rfl
theorem dk9_dX2_follow_0_0 : dOk cX2_follow [(0, .iload_n 2, 1), (1, .bipush 24, 2), (3, .if_icmp .lt 4, 3), (7, .aload_n 0, 1), (8, .getfield 24, 3), (11, .iload_n 2, 1), (12, .iload_n 1, 1), (13, .iastore, 1), (14, .aload_n 0, 1), (15, .getfield 27, 3), (18, .iload_n 1, 1), (19, .iload_n 2, 1), (20, .iastore, 1), (21, .iconst 0, 1), (22, .istore_n 3, 1), (23, .iload_n 3, 1), (24, .aload_n 0, 1), (25, .getfield 34, 3), (28, .getfield 67, 3), (31, .iload_n 1, 1), (32, .aaload, 1), (33, .getfield 71, 3), (36, .if_icmp .ge 123, 3), (159, .aload_n 0, 1)] = true ∧ dOk cX2_follow [(160, .getfield 27, 3), (163, .iload_n 1, 1), (164, .bipush (-2), 2), (166, .iastore, 1), (167, .return_, 1), (39, .aload_n 0, 1), (40, .getfield 34, 3), (43, .getfield 67, 3), (46, .iload_n 1, 1), (47, .aaload, 1), (48, .getfield 84, 3), (51, .iload_n 3, 1), (52, .iaload, 1), (53, .iconst 1, 1), (54, .if_icmp .ne 7, 3), (61, .aload_n 0, 1), (62, .iload_n 1, 1), (63, .iload_n 3, 1), (64, .invokevirtual 103, 3), (67, .istore 4, 2), (69, .iconst 0, 1), (70, .istore 5, 2), (72, .iload 5, 2), (74, .aload_n 0, 1)] = true ∧ dOk cX2_follow [(75, .getfield 34, 3), (78, .getfield 38, 3), (81, .getfield 44, 3), (84, .if_icmp .ge 69, 3), (153, .iinc 3 1, 3), (156, .goto (-133), 3), (87, .iload 4, 2), (89, .iload 5, 2), (91, .ishr, 1), (92, .iconst 1, 1), (93, .iand, 1), (94, .ifCond .ne 6, 3), (100, .aload_n 0, 1), (101, .getfield 27, 3), (104, .iload 5, 2), (106, .iaload, 1), (107, .iconst (-1), 1), (108, .if_icmp .ne 15, 3), (123, .aload_n 0, 1), (124, .getfield 27, 3), (127, .iload 5, 2), (129, .iaload, 1), (130, .bipush (-2), 2), (132, .if_icmp .eq 15, 3)] = true ∧ dOk cX2_follow [(147, .iinc 5 1, 3), (150, .goto (-78), 3), (135, .aload_n 0, 1), (136, .aload_n 0, 1), (137, .getfield 27, 3), (140, .iload 5, 2), (142, .iaload, 1), (143, .iload_n 2, 1), (144, .invokevirtual 106, 3), (111, .aload_n 0, 1), (112, .iload 5, 2), (114, .iload_n 2, 1), (115, .iconst 1, 1), (116, .iadd, 1), (117, .invokevirtual 63, 3), (120, .goto 27, 3), (97, .goto 50, 3), (57, .iconst 0, 1), (58, .goto 9, 3), (6, .return_, 1)] = true := by decide +kernel
theorem dX2_follow_0 : decode cX2_follow 0 = .ok (.iload_n 2, 1) := dr9 dk9_dX2_follow_0_0.1 0 (0, .iload_n 2, 1) rfl
theorem dX2_follow_1 : decode cX2_follow 1 = .ok (.bipush 24, 2) := dr9 dk9_dX2_follow_0_0.1 1 (1, .bipush 24, 2) rfl
theorem dX2_follow_3 : decode cX2_follow 3 = .ok (.if_icmp .lt 4, 3) := dr9 dk9_dX2_follow_0_0.1 2 (3, .if_icmp .lt 4, 3) rfl
theorem dX2_follow_7 : decode cX2_follow 7 = .ok (.aload_n 0, 1) := dr9 dk9_dX2_follow_0_0.1 3 (7, .aload_n 0, 1) rfl
theorem dX2_follow_8 : decode cX2_follow 8 = .ok (.getfield 24, 3) := dr9 dk9_dX2_follow_0_0.1 4 (8, .getfield 24, 3) rfl
theorem dX2_follow_11 : decode cX2_follow 11 = .ok (.iload_n 2, 1) := dr9 dk9_dX2_follow_0_0.1 5 (11, .iload_n 2, 1) rfl
theorem dX2_follow_12 : decode cX2_follow 12 = .ok (.iload_n 1, 1) := dr9 dk9_dX2_follow_0_0.1 6 (12, .iload_n 1, 1) rfl
theorem dX2_follow_13 : decode cX2_follow 13 = .ok (.iastore, 1) := dr9 dk9_dX2_follow_0_0.1 7 (13, .iastore, 1) rfl
theorem dX2_follow_14 : decode cX2_follow 14 = .ok (.aload_n 0, 1) := dr9 dk9_dX2_follow_0_0.1 8 (14, .aload_n 0, 1) rfl
theorem dX2_follow_15 : decode cX2_follow 15 = .ok (.getfield 27, 3) := dr9 dk9_dX2_follow_0_0.1 9 (15, .getfield 27, 3) rfl
theorem dX2_follow_18 : decode cX2_follow 18 = .ok (.iload_n 1, 1) := dr9 dk9_dX2_follow_0_0.1 10 (18, .iload_n 1, 1) rfl
theorem dX2_follow_19 : decode cX2_follow 19 = .ok (.iload_n 2, 1) := dr9 dk9_dX2_follow_0_0.1 11 (19, .iload_n 2, 1) rfl
theorem dX2_follow_20 : decode cX2_follow 20 = .ok (.iastore, 1) := dr9 dk9_dX2_follow_0_0.1 12 (20, .iastore, 1) rfl
theorem dX2_follow_21 : decode cX2_follow 21 = .ok (.iconst 0, 1) := dr9 dk9_dX2_follow_0_0.1 13 (21, .iconst 0, 1) rfl
theorem dX2_follow_22 : decode cX2_follow 22 = .ok (.istore_n 3, 1) := dr9 dk9_dX2_follow_0_0.1 14 (22, .istore_n 3, 1) rfl
theorem dX2_follow_23 : decode cX2_follow 23 = .ok (.iload_n 3, 1) := dr9 dk9_dX2_follow_0_0.1 15 (23, .iload_n 3, 1) rfl
theorem dX2_follow_24 : decode cX2_follow 24 = .ok (.aload_n 0, 1) := dr9 dk9_dX2_follow_0_0.1 16 (24, .aload_n 0, 1) rfl
theorem dX2_follow_25 : decode cX2_follow 25 = .ok (.getfield 34, 3) := dr9 dk9_dX2_follow_0_0.1 17 (25, .getfield 34, 3) rfl
theorem dX2_follow_28 : decode cX2_follow 28 = .ok (.getfield 67, 3) := dr9 dk9_dX2_follow_0_0.1 18 (28, .getfield 67, 3) rfl
theorem dX2_follow_31 : decode cX2_follow 31 = .ok (.iload_n 1, 1) := dr9 dk9_dX2_follow_0_0.1 19 (31, .iload_n 1, 1) rfl
theorem dX2_follow_32 : decode cX2_follow 32 = .ok (.aaload, 1) := dr9 dk9_dX2_follow_0_0.1 20 (32, .aaload, 1) rfl
theorem dX2_follow_33 : decode cX2_follow 33 = .ok (.getfield 71, 3) := dr9 dk9_dX2_follow_0_0.1 21 (33, .getfield 71, 3) rfl
theorem dX2_follow_36 : decode cX2_follow 36 = .ok (.if_icmp .ge 123, 3) := dr9 dk9_dX2_follow_0_0.1 22 (36, .if_icmp .ge 123, 3) rfl
theorem dX2_follow_159 : decode cX2_follow 159 = .ok (.aload_n 0, 1) := dr9 dk9_dX2_follow_0_0.1 23 (159, .aload_n 0, 1) rfl
theorem dX2_follow_160 : decode cX2_follow 160 = .ok (.getfield 27, 3) := dr9 dk9_dX2_follow_0_0.2.1 0 (160, .getfield 27, 3) rfl
theorem dX2_follow_163 : decode cX2_follow 163 = .ok (.iload_n 1, 1) := dr9 dk9_dX2_follow_0_0.2.1 1 (163, .iload_n 1, 1) rfl
theorem dX2_follow_164 : decode cX2_follow 164 = .ok (.bipush (-2), 2) := dr9 dk9_dX2_follow_0_0.2.1 2 (164, .bipush (-2), 2) rfl
theorem dX2_follow_166 : decode cX2_follow 166 = .ok (.iastore, 1) := dr9 dk9_dX2_follow_0_0.2.1 3 (166, .iastore, 1) rfl
theorem dX2_follow_167 : decode cX2_follow 167 = .ok (.return_, 1) := dr9 dk9_dX2_follow_0_0.2.1 4 (167, .return_, 1) rfl
theorem dX2_follow_39 : decode cX2_follow 39 = .ok (.aload_n 0, 1) := dr9 dk9_dX2_follow_0_0.2.1 5 (39, .aload_n 0, 1) rfl
theorem dX2_follow_40 : decode cX2_follow 40 = .ok (.getfield 34, 3) := dr9 dk9_dX2_follow_0_0.2.1 6 (40, .getfield 34, 3) rfl
theorem dX2_follow_43 : decode cX2_follow 43 = .ok (.getfield 67, 3) := dr9 dk9_dX2_follow_0_0.2.1 7 (43, .getfield 67, 3) rfl
theorem dX2_follow_46 : decode cX2_follow 46 = .ok (.iload_n 1, 1) := dr9 dk9_dX2_follow_0_0.2.1 8 (46, .iload_n 1, 1) rfl
theorem dX2_follow_47 : decode cX2_follow 47 = .ok (.aaload, 1) := dr9 dk9_dX2_follow_0_0.2.1 9 (47, .aaload, 1) rfl
theorem dX2_follow_48 : decode cX2_follow 48 = .ok (.getfield 84, 3) := dr9 dk9_dX2_follow_0_0.2.1 10 (48, .getfield 84, 3) rfl
theorem dX2_follow_51 : decode cX2_follow 51 = .ok (.iload_n 3, 1) := dr9 dk9_dX2_follow_0_0.2.1 11 (51, .iload_n 3, 1) rfl
theorem dX2_follow_52 : decode cX2_follow 52 = .ok (.iaload, 1) := dr9 dk9_dX2_follow_0_0.2.1 12 (52, .iaload, 1) rfl
theorem dX2_follow_53 : decode cX2_follow 53 = .ok (.iconst 1, 1) := dr9 dk9_dX2_follow_0_0.2.1 13 (53, .iconst 1, 1) rfl
theorem dX2_follow_54 : decode cX2_follow 54 = .ok (.if_icmp .ne 7, 3) := dr9 dk9_dX2_follow_0_0.2.1 14 (54, .if_icmp .ne 7, 3) rfl
theorem dX2_follow_61 : decode cX2_follow 61 = .ok (.aload_n 0, 1) := dr9 dk9_dX2_follow_0_0.2.1 15 (61, .aload_n 0, 1) rfl
theorem dX2_follow_62 : decode cX2_follow 62 = .ok (.iload_n 1, 1) := dr9 dk9_dX2_follow_0_0.2.1 16 (62, .iload_n 1, 1) rfl
theorem dX2_follow_63 : decode cX2_follow 63 = .ok (.iload_n 3, 1) := dr9 dk9_dX2_follow_0_0.2.1 17 (63, .iload_n 3, 1) rfl
theorem dX2_follow_64 : decode cX2_follow 64 = .ok (.invokevirtual 103, 3) := dr9 dk9_dX2_follow_0_0.2.1 18 (64, .invokevirtual 103, 3) rfl
theorem dX2_follow_67 : decode cX2_follow 67 = .ok (.istore 4, 2) := dr9 dk9_dX2_follow_0_0.2.1 19 (67, .istore 4, 2) rfl
theorem dX2_follow_69 : decode cX2_follow 69 = .ok (.iconst 0, 1) := dr9 dk9_dX2_follow_0_0.2.1 20 (69, .iconst 0, 1) rfl
theorem dX2_follow_70 : decode cX2_follow 70 = .ok (.istore 5, 2) := dr9 dk9_dX2_follow_0_0.2.1 21 (70, .istore 5, 2) rfl
theorem dX2_follow_72 : decode cX2_follow 72 = .ok (.iload 5, 2) := dr9 dk9_dX2_follow_0_0.2.1 22 (72, .iload 5, 2) rfl
theorem dX2_follow_74 : decode cX2_follow 74 = .ok (.aload_n 0, 1) := dr9 dk9_dX2_follow_0_0.2.1 23 (74, .aload_n 0, 1) rfl
theorem dX2_follow_75 : decode cX2_follow 75 = .ok (.getfield 34, 3) := dr9 dk9_dX2_follow_0_0.2.2.1 0 (75, .getfield 34, 3) rfl
theorem dX2_follow_78 : decode cX2_follow 78 = .ok (.getfield 38, 3) := dr9 dk9_dX2_follow_0_0.2.2.1 1 (78, .getfield 38, 3) rfl
theorem dX2_follow_81 : decode cX2_follow 81 = .ok (.getfield 44, 3) := dr9 dk9_dX2_follow_0_0.2.2.1 2 (81, .getfield 44, 3) rfl
theorem dX2_follow_84 : decode cX2_follow 84 = .ok (.if_icmp .ge 69, 3) := dr9 dk9_dX2_follow_0_0.2.2.1 3 (84, .if_icmp .ge 69, 3) rfl
theorem dX2_follow_153 : decode cX2_follow 153 = .ok (.iinc 3 1, 3) := dr9 dk9_dX2_follow_0_0.2.2.1 4 (153, .iinc 3 1, 3) rfl
theorem dX2_follow_156 : decode cX2_follow 156 = .ok (.goto (-133), 3) := dr9 dk9_dX2_follow_0_0.2.2.1 5 (156, .goto (-133), 3) rfl
theorem dX2_follow_87 : decode cX2_follow 87 = .ok (.iload 4, 2) := dr9 dk9_dX2_follow_0_0.2.2.1 6 (87, .iload 4, 2) rfl
theorem dX2_follow_89 : decode cX2_follow 89 = .ok (.iload 5, 2) := dr9 dk9_dX2_follow_0_0.2.2.1 7 (89, .iload 5, 2) rfl
theorem dX2_follow_91 : decode cX2_follow 91 = .ok (.ishr, 1) := dr9 dk9_dX2_follow_0_0.2.2.1 8 (91, .ishr, 1) rfl
theorem dX2_follow_92 : decode cX2_follow 92 = .ok (.iconst 1, 1) := dr9 dk9_dX2_follow_0_0.2.2.1 9 (92, .iconst 1, 1) rfl
theorem dX2_follow_93 : decode cX2_follow 93 = .ok (.iand, 1) := dr9 dk9_dX2_follow_0_0.2.2.1 10 (93, .iand, 1) rfl
theorem dX2_follow_94 : decode cX2_follow 94 = .ok (.ifCond .ne 6, 3) := dr9 dk9_dX2_follow_0_0.2.2.1 11 (94, .ifCond .ne 6, 3) rfl
theorem dX2_follow_100 : decode cX2_follow 100 = .ok (.aload_n 0, 1) := dr9 dk9_dX2_follow_0_0.2.2.1 12 (100, .aload_n 0, 1) rfl
theorem dX2_follow_101 : decode cX2_follow 101 = .ok (.getfield 27, 3) := dr9 dk9_dX2_follow_0_0.2.2.1 13 (101, .getfield 27, 3) rfl
theorem dX2_follow_104 : decode cX2_follow 104 = .ok (.iload 5, 2) := dr9 dk9_dX2_follow_0_0.2.2.1 14 (104, .iload 5, 2) rfl
theorem dX2_follow_106 : decode cX2_follow 106 = .ok (.iaload, 1) := dr9 dk9_dX2_follow_0_0.2.2.1 15 (106, .iaload, 1) rfl
theorem dX2_follow_107 : decode cX2_follow 107 = .ok (.iconst (-1), 1) := dr9 dk9_dX2_follow_0_0.2.2.1 16 (107, .iconst (-1), 1) rfl
theorem dX2_follow_108 : decode cX2_follow 108 = .ok (.if_icmp .ne 15, 3) := dr9 dk9_dX2_follow_0_0.2.2.1 17 (108, .if_icmp .ne 15, 3) rfl
theorem dX2_follow_123 : decode cX2_follow 123 = .ok (.aload_n 0, 1) := dr9 dk9_dX2_follow_0_0.2.2.1 18 (123, .aload_n 0, 1) rfl
theorem dX2_follow_124 : decode cX2_follow 124 = .ok (.getfield 27, 3) := dr9 dk9_dX2_follow_0_0.2.2.1 19 (124, .getfield 27, 3) rfl
theorem dX2_follow_127 : decode cX2_follow 127 = .ok (.iload 5, 2) := dr9 dk9_dX2_follow_0_0.2.2.1 20 (127, .iload 5, 2) rfl
theorem dX2_follow_129 : decode cX2_follow 129 = .ok (.iaload, 1) := dr9 dk9_dX2_follow_0_0.2.2.1 21 (129, .iaload, 1) rfl
theorem dX2_follow_130 : decode cX2_follow 130 = .ok (.bipush (-2), 2) := dr9 dk9_dX2_follow_0_0.2.2.1 22 (130, .bipush (-2), 2) rfl
theorem dX2_follow_132 : decode cX2_follow 132 = .ok (.if_icmp .eq 15, 3) := dr9 dk9_dX2_follow_0_0.2.2.1 23 (132, .if_icmp .eq 15, 3) rfl
theorem dX2_follow_147 : decode cX2_follow 147 = .ok (.iinc 5 1, 3) := dr9 dk9_dX2_follow_0_0.2.2.2 0 (147, .iinc 5 1, 3) rfl
theorem dX2_follow_150 : decode cX2_follow 150 = .ok (.goto (-78), 3) := dr9 dk9_dX2_follow_0_0.2.2.2 1 (150, .goto (-78), 3) rfl
theorem dX2_follow_135 : decode cX2_follow 135 = .ok (.aload_n 0, 1) := dr9 dk9_dX2_follow_0_0.2.2.2 2 (135, .aload_n 0, 1) rfl
theorem dX2_follow_136 : decode cX2_follow 136 = .ok (.aload_n 0, 1) := dr9 dk9_dX2_follow_0_0.2.2.2 3 (136, .aload_n 0, 1) rfl
theorem dX2_follow_137 : decode cX2_follow 137 = .ok (.getfield 27, 3) := dr9 dk9_dX2_follow_0_0.2.2.2 4 (137, .getfield 27, 3) rfl
theorem dX2_follow_140 : decode cX2_follow 140 = .ok (.iload 5, 2) := dr9 dk9_dX2_follow_0_0.2.2.2 5 (140, .iload 5, 2) rfl
theorem dX2_follow_142 : decode cX2_follow 142 = .ok (.iaload, 1) := dr9 dk9_dX2_follow_0_0.2.2.2 6 (142, .iaload, 1) rfl
theorem dX2_follow_143 : decode cX2_follow 143 = .ok (.iload_n 2, 1) := dr9 dk9_dX2_follow_0_0.2.2.2 7 (143, .iload_n 2, 1) rfl
theorem dX2_follow_144 : decode cX2_follow 144 = .ok (.invokevirtual 106, 3) := dr9 dk9_dX2_follow_0_0.2.2.2 8 (144, .invokevirtual 106, 3) rfl
theorem dX2_follow_111 : decode cX2_follow 111 = .ok (.aload_n 0, 1) := dr9 dk9_dX2_follow_0_0.2.2.2 9 (111, .aload_n 0, 1) rfl
theorem dX2_follow_112 : decode cX2_follow 112 = .ok (.iload 5, 2) := dr9 dk9_dX2_follow_0_0.2.2.2 10 (112, .iload 5, 2) rfl
theorem dX2_follow_114 : decode cX2_follow 114 = .ok (.iload_n 2, 1) := dr9 dk9_dX2_follow_0_0.2.2.2 11 (114, .iload_n 2, 1) rfl
theorem dX2_follow_115 : decode cX2_follow 115 = .ok (.iconst 1, 1) := dr9 dk9_dX2_follow_0_0.2.2.2 12 (115, .iconst 1, 1) rfl
theorem dX2_follow_116 : decode cX2_follow 116 = .ok (.iadd, 1) := dr9 dk9_dX2_follow_0_0.2.2.2 13 (116, .iadd, 1) rfl
theorem dX2_follow_117 : decode cX2_follow 117 = .ok (.invokevirtual 63, 3) := dr9 dk9_dX2_follow_0_0.2.2.2 14 (117, .invokevirtual 63, 3) rfl
theorem dX2_follow_120 : decode cX2_follow 120 = .ok (.goto 27, 3) := dr9 dk9_dX2_follow_0_0.2.2.2 15 (120, .goto 27, 3) rfl
theorem dX2_follow_97 : decode cX2_follow 97 = .ok (.goto 50, 3) := dr9 dk9_dX2_follow_0_0.2.2.2 16 (97, .goto 50, 3) rfl
theorem dX2_follow_57 : decode cX2_follow 57 = .ok (.iconst 0, 1) := dr9 dk9_dX2_follow_0_0.2.2.2 17 (57, .iconst 0, 1) rfl
theorem dX2_follow_58 : decode cX2_follow 58 = .ok (.goto 9, 3) := dr9 dk9_dX2_follow_0_0.2.2.2 18 (58, .goto 9, 3) rfl
theorem dX2_follow_6 : decode cX2_follow 6 = .ok (.return_, 1) := dr9 dk9_dX2_follow_0_0.2.2.2 19 (6, .return_, 1) rfl
abbrev r_x_sclear : Room := { frames := 1, cells := 0, slots := 0, locals := 23 }
abbrev q_x_sclear (D : va_G) (ks : KS) (ad : Nat → Nat) (kk : Nat → ClassId) (V : Vf) (L : Lf) (Z : XZ) (A : Nat → Prop) : Array Value → State → Outcome → State → Prop := va_Qv (fun (u : Vf × Lf) => rgd bX u.1 ∧ agr [(3, 12), (3, 13), (3, 14), (3, 15)] [23, 24, 25] V u.1 ∧ u.2 = L ∧ ((u.1 3 13).toInt = 0) ∧ ((u.1 3 15).toInt = 0)) (fun u t => gq D A (xw ad kk u.1 u.2 Z) (xty kk Z) t) A
abbrev r_x_cclear : Room := { frames := 1, cells := 0, slots := 0, locals := 23 }
abbrev q_x_cclear (D : va_G) (ks : KS) (ad : Nat → Nat) (kk : Nat → ClassId) (V : Vf) (L : Lf) (Z : XZ) (gi : Nat) (A : Nat → Prop) : Array Value → State → Outcome → State → Prop := va_Qv (fun (u : Vf × Lf) => rgd bX u.1 ∧ agr [] [49, 50, 51, 52, 53, 54, 55, 56, 57, 61] V u.1 ∧ u.2 = L ∧ frX (xI gi) V u.1 ∧ ((u.1 56 gi).toInt = -1) ∧ ((u.1 57 gi).toInt = -1) ∧ ((u.1 49 gi).toInt = 0) ∧ ((∀ q : Nat, (q : Int) < 20 → (u.1 61 (20 * gi + q)).toInt = -1)) ∧ ((∀ q : Nat, ¬ (20 * gi ≤ q ∧ q < 20 * gi + 20) → u.1 61 q = V 61 q)) ∧ ((∀ q : Nat, ¬ q = gi → u.1 56 q = V 56 q)) ∧ ((∀ q : Nat, ¬ q = gi → u.1 57 q = V 57 q)) ∧ ((∀ q : Nat, ¬ q = gi → u.1 49 q = V 49 q))) (fun u t => gq D A (xw ad kk u.1 u.2 Z) (xty kk Z) t) A
set_option maxHeartbeats 4000000 in
set_option maxRecDepth 100000 in
theorem x_cclear (l : Launch) (D : va_G) (ks : KS) (sz : Nat) (ad : Nat → Nat) (kk : Nat → ClassId) (V : Vf) (L : Lf) (Z : XZ) (gi : Nat) (hMV : rgd bX V) (hgi : gi < 48)  : Met l yX3_clear (Cond.code yX3_clear cX3_clear 1 none :: GW) r_x_cclear (va_Pc [.ref (ad (72 + gi))] (gp D ks (xw ad kk V L Z) (xty kk Z) sz)) (q_x_cclear D ks ad kk V L Z  gi (va_A (xw ad kk V L Z) sz)) 0 0 (va_A (xw ad kk V L Z) sz) := by
  refine g_met (q_x_cclear D ks ad kk V L Z  gi) (by decide) (Nat.le_of_ble_eq_true rfl) ?_
  intro p e s m below meth c A ls H locs hx hb hr hml hown hg hlocks hin hnw hgk hP hK hD hS hA hl
  have hown : s.vm.findClass RX3 = some m.cls := hown
  have hl : lv_has ls 1 [(0, .ref (ad (72 + gi)))] := hl
  have hP : va_P D vwCl (xw ad kk V L Z) H := hP
  have hD : va_D A (xw ad kk V L Z) := hD
  have hK : va_K D vwCl (xty kk Z) s := hK
  have agV : agr [] [49, 50, 51, 52, 53, 54, 55, 56, 57, 61] V V := agr.rf
  have fwV : frX (xI gi) V V := frX.rf
  refine lv_aload_n hx hb dX3_clear_0 rfl (lv_at hl 0 rfl) ?_
  refine va_get (D := D) (ci := 3) (v := .ref (ad (264 + gi))) (fs := (xfComp ad V gi)) (C := RX3) (T := TX3) (N := 13) hx hb hg inX3 hown hK hP (72 + gi) (xgComp hgi) rfl 3 (by decide) (hg _ w507) (fun _ h9 => h9) rfl dX3_clear_1 ?_
  refine lv_iconst (v := (-1)) hx hb dX3_clear_4 (by decide) ?_
  have r1 : Int32.toInt (-1) = (-1) := by decide
  refine gA_void (gA_runS (As := [.ref (ad (264 + gi)), .int (-1)]) (rest := []) hx hb hml hown hg hP hD hK hS hA hnw hgk (x_fillStarts l D ks H.size ad kk V L Z (-1) (gi) hMV (by decide) (show gi < 48 from by omega)) w918 w371 w165 w372 hdS_yJ7_fill_53178 ⟨Nat.le_of_ble_eq_true rfl, Nat.le_of_ble_eq_true rfl⟩ rfl hl.1 rfl (Nat.le_of_ble_eq_true rfl) dX3_clear_5 ⟨Nat.le_of_ble_eq_true rfl, Nat.le_of_ble_eq_true rfl⟩) hP hD hK hS hA (fun u3 H locs w4 hP hD hK hS => ?_)
  obtain ⟨V7, L8⟩ := u3
  obtain ⟨hMV7, ajV7, axL8, fyV7, t5, t6⟩ := w4
  have axL8 : L = L8 := Eq.symm axL8
  subst axL8
  have hP : va_P D vwCl (xw ad kk V7 L Z) H := hP
  have hD : va_D A (xw ad kk V7 L Z) := hD
  have hMV7 : rgd bX V7 := hMV7
  have ajV7 : agr [] [61] V V7 := ajV7
  have agV7 : agr [] [49, 50, 51, 52, 53, 54, 55, 56, 57, 61] V V7 := agV.tr ajV7 (by decide) (by decide)
  have fwV7 : frX (xI gi) V V7 := frX.tr fwV (fyV7)
  have t5 : (∀ q : Nat, (q : Int) < 20 → V7 61 (20 * gi + q) = (-1)) := t5
  have t6 : (∀ q : Nat, ¬ (20 * gi ≤ q ∧ q < 20 * gi + 20) → V7 61 q = V 61 q) := t6
  refine lv_aload_n hx hb dX3_clear_8 rfl (lv_at hl 0 rfl) ?_
  refine lv_iconst (v := 0) hx hb dX3_clear_9 (by decide) ?_
  refine va_put (D := D) (ci := 3) (v := .int 0) (ty := tyX3 4) (fs := (xfComp ad V7 gi)) (C := RX3) (T := TX3) (N := 13) hx hb hg inX3 tyX3 tyX3_ok nmX3 hown hK hP hD hS (72 + gi) (xgComp hgi) rfl 4 (by decide) (hg _ w510) (fun _ h9 => h9) rfl (tyX3_ok 4 (by decide)) rfl rfl (Nat.le_of_ble_eq_true rfl) dX3_clear_10 (fun H locs hP hD hS => ?_)
  obtain ⟨V9, hV9⟩ : ∃ z, z = up2 V7 49 gi 0 := ⟨_, rfl⟩
  have ew10 : (xw ad kk V7 L Z).set (72 + gi) ((ad (72 + gi)), .inr (3, (xfComp ad V7 gi).set 4 (.int 0))) = xw ad kk V9 L Z := by rw [hV9]; exact xpComp_needs hgi
  have hP : va_P D vwCl (xw ad kk V9 L Z) H := by rw [← ew10]; exact hP
  have hD : va_D A (xw ad kk V9 L Z) := by rw [← ew10]; exact hD
  have hMV9 : rgd bX V9 := hMV7.put hV9 (show 0 ≤ Int32.toInt 0 ∧ Int32.toInt 0 ≤ 8 from by decide)
  have agV9 : agr [] [49, 50, 51, 52, 53, 54, 55, 56, 57, 61] V V9 := agV7.up hV9 rfl
  have fwV9 : frX (xI gi) V V9 := frX.up fwV7 hV9 (Or.inr ⟨(by show gi ≤ gi; omega), (by show gi < gi + 1; omega)⟩)
  refine lv_aload_n hx hb dX3_clear_13 rfl (lv_at hl 0 rfl) ?_
  refine lv_iconst (v := 0) hx hb dX3_clear_14 (by decide) ?_
  refine va_put (D := D) (ci := 3) (v := .int 0) (ty := tyX3 5) (fs := (xfComp ad V9 gi)) (C := RX3) (T := TX3) (N := 13) hx hb hg inX3 tyX3 tyX3_ok nmX3 hown hK hP hD hS (72 + gi) (xgComp hgi) rfl 5 (by decide) (hg _ w515) (fun _ h9 => h9) rfl (tyX3_ok 5 (by decide)) rfl rfl (Nat.le_of_ble_eq_true rfl) dX3_clear_15 (fun H locs hP hD hS => ?_)
  obtain ⟨V11, hV11⟩ : ∃ z, z = up2 V9 50 gi 0 := ⟨_, rfl⟩
  have ew12 : (xw ad kk V9 L Z).set (72 + gi) ((ad (72 + gi)), .inr (3, (xfComp ad V9 gi).set 5 (.int 0))) = xw ad kk V11 L Z := by rw [hV11]; exact xpComp_under hgi
  have hP : va_P D vwCl (xw ad kk V11 L Z) H := by rw [← ew12]; exact hP
  have hD : va_D A (xw ad kk V11 L Z) := by rw [← ew12]; exact hD
  have hMV11 : rgd bX V11 := hMV9.put hV11 (i_full _)
  have agV11 : agr [] [49, 50, 51, 52, 53, 54, 55, 56, 57, 61] V V11 := agV9.up hV11 rfl
  have fwV11 : frX (xI gi) V V11 := frX.up fwV9 hV11 (Or.inr ⟨(by show gi ≤ gi; omega), (by show gi < gi + 1; omega)⟩)
  refine lv_aload_n hx hb dX3_clear_18 rfl (lv_at hl 0 rfl) ?_
  refine lv_iconst (v := 0) hx hb dX3_clear_19 (by decide) ?_
  refine va_put (D := D) (ci := 3) (v := .int 0) (ty := tyX3 6) (fs := (xfComp ad V11 gi)) (C := RX3) (T := TX3) (N := 13) hx hb hg inX3 tyX3 tyX3_ok nmX3 hown hK hP hD hS (72 + gi) (xgComp hgi) rfl 6 (by decide) (hg _ w518) (fun _ h9 => h9) rfl (tyX3_ok 6 (by decide)) rfl rfl (Nat.le_of_ble_eq_true rfl) dX3_clear_20 (fun H locs hP hD hS => ?_)
  obtain ⟨V13, hV13⟩ : ∃ z, z = up2 V11 51 gi 0 := ⟨_, rfl⟩
  have ew14 : (xw ad kk V11 L Z).set (72 + gi) ((ad (72 + gi)), .inr (3, (xfComp ad V11 gi).set 6 (.int 0))) = xw ad kk V13 L Z := by rw [hV13]; exact xpComp_scope hgi
  have hP : va_P D vwCl (xw ad kk V13 L Z) H := by rw [← ew14]; exact hP
  have hD : va_D A (xw ad kk V13 L Z) := by rw [← ew14]; exact hD
  have hMV13 : rgd bX V13 := hMV11.put hV13 (show 0 ≤ Int32.toInt 0 ∧ Int32.toInt 0 ≤ 3 from by decide)
  have agV13 : agr [] [49, 50, 51, 52, 53, 54, 55, 56, 57, 61] V V13 := agV11.up hV13 rfl
  have fwV13 : frX (xI gi) V V13 := frX.up fwV11 hV13 (Or.inr ⟨(by show gi ≤ gi; omega), (by show gi < gi + 1; omega)⟩)
  refine lv_aload_n hx hb dX3_clear_23 rfl (lv_at hl 0 rfl) ?_
  refine lv_iconst (v := (-1)) hx hb dX3_clear_24 (by decide) ?_
  refine va_put (D := D) (ci := 3) (v := .int (-1)) (ty := tyX3 7) (fs := (xfComp ad V13 gi)) (C := RX3) (T := TX3) (N := 13) hx hb hg inX3 tyX3 tyX3_ok nmX3 hown hK hP hD hS (72 + gi) (xgComp hgi) rfl 7 (by decide) (hg _ w523) (fun _ h9 => h9) rfl (tyX3_ok 7 (by decide)) rfl rfl (Nat.le_of_ble_eq_true rfl) dX3_clear_25 (fun H locs hP hD hS => ?_)
  obtain ⟨V15, hV15⟩ : ∃ z, z = up2 V13 52 gi (-1) := ⟨_, rfl⟩
  have ew16 : (xw ad kk V13 L Z).set (72 + gi) ((ad (72 + gi)), .inr (3, (xfComp ad V13 gi).set 7 (.int (-1)))) = xw ad kk V15 L Z := by rw [hV15]; exact xpComp_calledWord hgi
  have hP : va_P D vwCl (xw ad kk V15 L Z) H := by rw [← ew16]; exact hP
  have hD : va_D A (xw ad kk V15 L Z) := by rw [← ew16]; exact hD
  have hMV15 : rgd bX V15 := hMV13.put hV15 (i_full _)
  have agV15 : agr [] [49, 50, 51, 52, 53, 54, 55, 56, 57, 61] V V15 := agV13.up hV15 rfl
  have fwV15 : frX (xI gi) V V15 := frX.up fwV13 hV15 (Or.inr ⟨(by show gi ≤ gi; omega), (by show gi < gi + 1; omega)⟩)
  refine lv_aload_n hx hb dX3_clear_28 rfl (lv_at hl 0 rfl) ?_
  refine lv_iconst (v := 0) hx hb dX3_clear_29 (by decide) ?_
  refine va_put (D := D) (ci := 3) (v := .int 0) (ty := tyX3 8) (fs := (xfComp ad V15 gi)) (C := RX3) (T := TX3) (N := 13) hx hb hg inX3 tyX3 tyX3_ok nmX3 hown hK hP hD hS (72 + gi) (xgComp hgi) rfl 8 (by decide) (hg _ w527) (fun _ h9 => h9) rfl (tyX3_ok 8 (by decide)) rfl rfl (Nat.le_of_ble_eq_true rfl) dX3_clear_30 (fun H locs hP hD hS => ?_)
  obtain ⟨V17, hV17⟩ : ∃ z, z = up2 V15 53 gi 0 := ⟨_, rfl⟩
  have ew18 : (xw ad kk V15 L Z).set (72 + gi) ((ad (72 + gi)), .inr (3, (xfComp ad V15 gi).set 8 (.int 0))) = xw ad kk V17 L Z := by rw [hV17]; exact xpComp_rank hgi
  have hP : va_P D vwCl (xw ad kk V17 L Z) H := by rw [← ew18]; exact hP
  have hD : va_D A (xw ad kk V17 L Z) := by rw [← ew18]; exact hD
  have hMV17 : rgd bX V17 := hMV15.put hV17 (i_full _)
  have agV17 : agr [] [49, 50, 51, 52, 53, 54, 55, 56, 57, 61] V V17 := agV15.up hV17 rfl
  have fwV17 : frX (xI gi) V V17 := frX.up fwV15 hV17 (Or.inr ⟨(by show gi ≤ gi; omega), (by show gi < gi + 1; omega)⟩)
  refine lv_aload_n hx hb dX3_clear_33 rfl (lv_at hl 0 rfl) ?_
  refine lv_iconst (v := (-1)) hx hb dX3_clear_34 (by decide) ?_
  refine va_put (D := D) (ci := 3) (v := .int (-1)) (ty := tyX3 9) (fs := (xfComp ad V17 gi)) (C := RX3) (T := TX3) (N := 13) hx hb hg inX3 tyX3 tyX3_ok nmX3 hown hK hP hD hS (72 + gi) (xgComp hgi) rfl 9 (by decide) (hg _ w531) (fun _ h9 => h9) rfl (tyX3_ok 9 (by decide)) rfl rfl (Nat.le_of_ble_eq_true rfl) dX3_clear_35 (fun H locs hP hD hS => ?_)
  obtain ⟨V19, hV19⟩ : ∃ z, z = up2 V17 54 gi (-1) := ⟨_, rfl⟩
  have ew20 : (xw ad kk V17 L Z).set (72 + gi) ((ad (72 + gi)), .inr (3, (xfComp ad V17 gi).set 9 (.int (-1)))) = xw ad kk V19 L Z := by rw [hV19]; exact xpComp_whenSetting hgi
  have hP : va_P D vwCl (xw ad kk V19 L Z) H := by rw [← ew20]; exact hP
  have hD : va_D A (xw ad kk V19 L Z) := by rw [← ew20]; exact hD
  have hMV19 : rgd bX V19 := hMV17.put hV19 (show (-1) ≤ Int32.toInt (-1) ∧ Int32.toInt (-1) ≤ 11 from by decide)
  have agV19 : agr [] [49, 50, 51, 52, 53, 54, 55, 56, 57, 61] V V19 := agV17.up hV19 rfl
  have fwV19 : frX (xI gi) V V19 := frX.up fwV17 hV19 (Or.inr ⟨(by show gi ≤ gi; omega), (by show gi < gi + 1; omega)⟩)
  refine lv_aload_n hx hb dX3_clear_38 rfl (lv_at hl 0 rfl) ?_
  refine lv_iconst (v := 0) hx hb dX3_clear_39 (by decide) ?_
  refine va_put (D := D) (ci := 3) (v := .int 0) (ty := tyX3 10) (fs := (xfComp ad V19 gi)) (C := RX3) (T := TX3) (N := 13) hx hb hg inX3 tyX3 tyX3_ok nmX3 hown hK hP hD hS (72 + gi) (xgComp hgi) rfl 10 (by decide) (hg _ w534) (fun _ h9 => h9) rfl (tyX3_ok 10 (by decide)) rfl rfl (Nat.le_of_ble_eq_true rfl) dX3_clear_40 (fun H locs hP hD hS => ?_)
  obtain ⟨V21, hV21⟩ : ∃ z, z = up2 V19 55 gi 0 := ⟨_, rfl⟩
  have ew22 : (xw ad kk V19 L Z).set (72 + gi) ((ad (72 + gi)), .inr (3, (xfComp ad V19 gi).set 10 (.int 0))) = xw ad kk V21 L Z := by rw [hV21]; exact xpComp_whenValue hgi
  have hP : va_P D vwCl (xw ad kk V21 L Z) H := by rw [← ew22]; exact hP
  have hD : va_D A (xw ad kk V21 L Z) := by rw [← ew22]; exact hD
  have hMV21 : rgd bX V21 := hMV19.put hV21 (i_full _)
  have agV21 : agr [] [49, 50, 51, 52, 53, 54, 55, 56, 57, 61] V V21 := agV19.up hV21 rfl
  have fwV21 : frX (xI gi) V V21 := frX.up fwV19 hV21 (Or.inr ⟨(by show gi ≤ gi; omega), (by show gi < gi + 1; omega)⟩)
  refine lv_aload_n hx hb dX3_clear_43 rfl (lv_at hl 0 rfl) ?_
  refine lv_iconst (v := (-1)) hx hb dX3_clear_44 (by decide) ?_
  refine va_put (D := D) (ci := 3) (v := .int (-1)) (ty := tyX3 11) (fs := (xfComp ad V21 gi)) (C := RX3) (T := TX3) (N := 13) hx hb hg inX3 tyX3 tyX3_ok nmX3 hown hK hP hD hS (72 + gi) (xgComp hgi) rfl 11 (by decide) (hg _ w537) (fun _ h9 => h9) rfl (tyX3_ok 11 (by decide)) rfl rfl (Nat.le_of_ble_eq_true rfl) dX3_clear_45 (fun H locs hP hD hS => ?_)
  obtain ⟨V23, hV23⟩ : ∃ z, z = up2 V21 56 gi (-1) := ⟨_, rfl⟩
  have ew24 : (xw ad kk V21 L Z).set (72 + gi) ((ad (72 + gi)), .inr (3, (xfComp ad V21 gi).set 11 (.int (-1)))) = xw ad kk V23 L Z := by rw [hV23]; exact xpComp_openedStart hgi
  have hP : va_P D vwCl (xw ad kk V23 L Z) H := by rw [← ew24]; exact hP
  have hD : va_D A (xw ad kk V23 L Z) := by rw [← ew24]; exact hD
  have hMV23 : rgd bX V23 := hMV21.put hV23 (show (-1) ≤ Int32.toInt (-1) ∧ Int32.toInt (-1) ≤ 8200 from by decide)
  have agV23 : agr [] [49, 50, 51, 52, 53, 54, 55, 56, 57, 61] V V23 := agV21.up hV23 rfl
  have fwV23 : frX (xI gi) V V23 := frX.up fwV21 hV23 (Or.inr ⟨(by show gi ≤ gi; omega), (by show gi < gi + 1; omega)⟩)
  refine lv_aload_n hx hb dX3_clear_48 rfl (lv_at hl 0 rfl) ?_
  refine lv_iconst (v := (-1)) hx hb dX3_clear_49 (by decide) ?_
  refine va_put (D := D) (ci := 3) (v := .int (-1)) (ty := tyX3 12) (fs := (xfComp ad V23 gi)) (C := RX3) (T := TX3) (N := 13) hx hb hg inX3 tyX3 tyX3_ok nmX3 hown hK hP hD hS (72 + gi) (xgComp hgi) rfl 12 (by decide) (hg _ w540) (fun _ h9 => h9) rfl (tyX3_ok 12 (by decide)) rfl rfl (Nat.le_of_ble_eq_true rfl) dX3_clear_50 (fun H locs hP hD hS => ?_)
  obtain ⟨V25, hV25⟩ : ∃ z, z = up2 V23 57 gi (-1) := ⟨_, rfl⟩
  have ew26 : (xw ad kk V23 L Z).set (72 + gi) ((ad (72 + gi)), .inr (3, (xfComp ad V23 gi).set 12 (.int (-1)))) = xw ad kk V25 L Z := by rw [hV25]; exact xpComp_closedStart hgi
  have hP : va_P D vwCl (xw ad kk V25 L Z) H := by rw [← ew26]; exact hP
  have hD : va_D A (xw ad kk V25 L Z) := by rw [← ew26]; exact hD
  have hMV25 : rgd bX V25 := hMV23.put hV25 (show (-1) ≤ Int32.toInt (-1) ∧ Int32.toInt (-1) ≤ 8200 from by decide)
  have agV25 : agr [] [49, 50, 51, 52, 53, 54, 55, 56, 57, 61] V V25 := agV23.up hV25 rfl
  have fwV25 : frX (xI gi) V V25 := frX.up fwV23 hV25 (Or.inr ⟨(by show gi ≤ gi; omega), (by show gi < gi + 1; omega)⟩)
  have pq27 : (V25 56 gi).toInt = (-1) := (congrArg Int32.toInt ((up2_o hV25 (by decide)).trans (up2_s hV23))).trans (by decide)
  have pq28 : (V25 57 gi).toInt = (-1) := (congrArg Int32.toInt (up2_s hV25)).trans (by decide)
  have pq29 : (V25 49 gi).toInt = 0 := (congrArg Int32.toInt ((up2_o hV25 (by decide)).trans ((up2_o hV23 (by decide)).trans ((up2_o hV21 (by decide)).trans ((up2_o hV19 (by decide)).trans ((up2_o hV17 (by decide)).trans ((up2_o hV15 (by decide)).trans ((up2_o hV13 (by decide)).trans ((up2_o hV11 (by decide)).trans (up2_s hV9)))))))))).trans (by decide)
  have rp30 : ∀ q : Nat, (q : Int) < 20 → (V25 61 (20 * gi + q)).toInt = -1 := fun q hq => by rw [(show agr [] [49, 50, 51, 52, 53, 54, 55, 56, 57] V7 V25 from (agr.up (agr.up (agr.up (agr.up (agr.up (agr.up (agr.up (agr.up (agr.up agr.rf hV9 rfl) hV11 rfl) hV13 rfl) hV15 rfl) hV17 rfl) hV19 rfl) hV21 rfl) hV23 rfl) hV25 rfl)) 61 _ rfl, t5 q hq]; decide
  have rp31 : ∀ q : Nat, ¬ (20 * gi ≤ q ∧ q < 20 * gi + 20) → V25 61 q = V 61 q := fun q hq => ((show agr [] [49, 50, 51, 52, 53, 54, 55, 56, 57] V7 V25 from (agr.up (agr.up (agr.up (agr.up (agr.up (agr.up (agr.up (agr.up (agr.up agr.rf hV9 rfl) hV11 rfl) hV13 rfl) hV15 rfl) hV17 rfl) hV19 rfl) hV21 rfl) hV23 rfl) hV25 rfl)) 61 _ rfl).trans (t6 q hq)
  have rp32 : ∀ q : Nat, ¬ q = gi → V25 56 q = V 56 q := fun q hq => ((((((((((up2_o hV25 (by decide)).trans (up2_k hV23 hq)).trans (up2_o hV21 (by decide))).trans (up2_o hV19 (by decide))).trans (up2_o hV17 (by decide))).trans (up2_o hV15 (by decide))).trans (up2_o hV13 (by decide))).trans (up2_o hV11 (by decide))).trans (up2_o hV9 (by decide))).trans (ajV7 56 _ rfl))
  have rp33 : ∀ q : Nat, ¬ q = gi → V25 57 q = V 57 q := fun q hq => ((((((((((up2_k hV25 hq).trans (up2_o hV23 (by decide))).trans (up2_o hV21 (by decide))).trans (up2_o hV19 (by decide))).trans (up2_o hV17 (by decide))).trans (up2_o hV15 (by decide))).trans (up2_o hV13 (by decide))).trans (up2_o hV11 (by decide))).trans (up2_o hV9 (by decide))).trans (ajV7 57 _ rfl))
  have rp34 : ∀ q : Nat, ¬ q = gi → V25 49 q = V 49 q := fun q hq => ((((((((((up2_o hV25 (by decide)).trans (up2_o hV23 (by decide))).trans (up2_o hV21 (by decide))).trans (up2_o hV19 (by decide))).trans (up2_o hV17 (by decide))).trans (up2_o hV15 (by decide))).trans (up2_o hV13 (by decide))).trans (up2_o hV11 (by decide))).trans (up2_k hV9 hq)).trans (ajV7 49 _ rfl))
  exact W.vret hx hb hr (fun t ht hW => ⟨⟨(V25, L), rfl, ⟨hMV25, agV25, rfl, fwV25, (show (V25 56 gi).toInt = -1 from by omega), (show (V25 57 gi).toInt = -1 from by omega), (show (V25 49 gi).toInt = 0 from by omega), rp30, rp31, rp32, rp33, rp34⟩, by rw [ht]; exact hP, va_K.moved hW.alike hK, hD⟩, hS.F ht⟩) hS.2.2 dX3_clear_53
abbrev r_x_kclear : Room := { frames := 0, cells := 0, slots := 0, locals := 0 }
abbrev q_x_kclear (D : va_G) (ks : KS) (ad : Nat → Nat) (kk : Nat → ClassId) (V : Vf) (L : Lf) (Z : XZ) (A : Nat → Prop) : Array Value → State → Outcome → State → Prop := va_Qv (fun (u : Vf × Lf) => rgd bX u.1 ∧ agr [(2, 7)] [] V u.1 ∧ u.2 = L) (fun u t => gq D A (xw ad kk u.1 u.2 Z) (xty kk Z) t) A
set_option maxHeartbeats 4000000 in
set_option maxRecDepth 100000 in
theorem x_kclear (l : Launch) (D : va_G) (ks : KS) (sz : Nat) (ad : Nat → Nat) (kk : Nat → ClassId) (V : Vf) (L : Lf) (Z : XZ)  (hMV : rgd bX V)  : Met l yX2_clear (Cond.code yX2_clear cX2_clear 1 none :: GW) r_x_kclear (va_Pc [.ref (ad 2)] (gp D ks (xw ad kk V L Z) (xty kk Z) sz)) (q_x_kclear D ks ad kk V L Z  (va_A (xw ad kk V L Z) sz)) 0 0 (va_A (xw ad kk V L Z) sz) := by
  refine g_met (q_x_kclear D ks ad kk V L Z) (by decide) (Nat.le_of_ble_eq_true rfl) ?_
  intro p e s m below meth c A ls H locs hx hb hr hml hown hg hlocks hin hnw hgk hP hK hD hS hA hl
  have hown : s.vm.findClass RX2 = some m.cls := hown
  have hl : lv_has ls 1 [(0, .ref (ad 2))] := hl
  have hP : va_P D vwCl (xw ad kk V L Z) H := hP
  have hD : va_D A (xw ad kk V L Z) := hD
  have hK : va_K D vwCl (xty kk Z) s := hK
  have agV : agr [(2, 7)] [] V V := agr.rf
  refine lv_aload_n hx hb dX2_clear_0 rfl (lv_at hl 0 rfl) ?_
  refine lv_iconst (v := 0) hx hb dX2_clear_1 (by decide) ?_
  refine va_put (D := D) (ci := 2) (v := .int 0) (ty := tyX2 7) (fs := (xfChecker ad V L Z)) (C := RX2) (T := TX2) (N := 8) hx hb hg inX2 tyX2 tyX2_ok nmX2 hown hK hP hD hS 2 xgChecker rfl 7 (by decide) (hg _ w345) (fun _ h9 => h9) rfl (tyX2_ok 7 (by decide)) rfl rfl (Nat.le_of_ble_eq_true rfl) dX2_clear_2 (fun H locs hP hD hS => ?_)
  obtain ⟨V1, hV1⟩ : ∃ z, z = up2 V 2 7 0 := ⟨_, rfl⟩
  have ew2 : (xw ad kk V L Z).set 2 ((ad 2), .inr (2, (xfChecker ad V L Z).set 7 (.int 0))) = xw ad kk V1 L Z := by rw [hV1]; exact xw_ss (by decide) rfl (xb_si (by decide))
  have hP : va_P D vwCl (xw ad kk V1 L Z) H := by rw [← ew2]; exact hP
  have hD : va_D A (xw ad kk V1 L Z) := by rw [← ew2]; exact hD
  have hMV1 : rgd bX V1 := hMV.put hV1 (by decide)
  have agV1 : agr [(2, 7)] [] V V1 := agV.up hV1 rfl
  exact W.vret hx hb hr (fun t ht hW => ⟨⟨(V1, L), rfl, ⟨hMV1, agV1, rfl⟩, by rw [ht]; exact hP, va_K.moved hW.alike hK, hD⟩, hS.F ht⟩) hS.2.2 dX2_clear_5
abbrev r_x_tells : Room := { frames := 0, cells := 0, slots := 0, locals := 0 }
abbrev q_x_tells (D : va_G) (ks : KS) (ad : Nat → Nat) (kk : Nat → ClassId) (V : Vf) (L : Lf) (Z : XZ) (p0 : Int32) (A : Nat → Prop) : Array Value → State → Outcome → State → Prop := va_Qi (fun (r : Int32) (_ : Unit) => (0 ≤ r.toInt ∧ r.toInt ≤ 1) ∧ (Imp (r.toInt = 1) (0 ≤ p0.toInt ∧ p0.toInt ≤ 99))) (fun _ t => gq D A (xw ad kk V L Z) (xty kk Z) t) A
abbrev r_x_note : Room := { frames := 0, cells := 0, slots := 0, locals := 0 }
abbrev q_x_note (D : va_G) (ks : KS) (ad : Nat → Nat) (kk : Nat → ClassId) (V : Vf) (L : Lf) (Z : XZ) (p0 : Int32) (p1 : Int32) (p2 : Int32) (A : Nat → Prop) : Array Value → State → Outcome → State → Prop := va_Qv (fun (u : Vf × Lf) => rgd bX u.1 ∧ agr [(2, 7)] [15, 16, 17] V u.1 ∧ u.2 = L ∧ ((u.1 2 7).toInt = (V 2 7).toInt + 1)) (fun u t => gq D A (xw ad kk u.1 u.2 Z) (xty kk Z) t) A
abbrev r_x_tell : Room := { frames := 1, cells := 0, slots := 0, locals := 21 }
abbrev q_x_tell (D : va_G) (ks : KS) (ad : Nat → Nat) (kk : Nat → ClassId) (V : Vf) (L : Lf) (Z : XZ) (p0 : Int32) (p1 : Int32) (A : Nat → Prop) : Array Value → State → Outcome → State → Prop := va_Qi (fun (r : Int32) (_ : Unit) => True) (fun _ t => gq D A (xw ad kk V L Z) (xty kk Z) t) A
abbrev r_x_onRing : Room := { frames := 1, cells := 0, slots := 0, locals := 21 }
abbrev q_x_onRing (D : va_G) (ks : KS) (ad : Nat → Nat) (kk : Nat → ClassId) (V : Vf) (L : Lf) (Z : XZ) (p0 : Int32) (p1 : Int32) (A : Nat → Prop) : Array Value → State → Outcome → State → Prop := va_Qi (fun (r : Int32) (_ : Unit) => True) (fun _ t => gq D A (xw ad kk V L Z) (xty kk Z) t) A
abbrev r_x_noteRing : Room := { frames := 1, cells := 0, slots := 0, locals := 23 }
abbrev q_x_noteRing (D : va_G) (ks : KS) (ad : Nat → Nat) (kk : Nat → ClassId) (V : Vf) (L : Lf) (Z : XZ) (p0 : Int32) (p1 : Int32) (A : Nat → Prop) : Array Value → State → Outcome → State → Prop := va_Qv (fun (u : Vf × Lf) => rgd bX u.1 ∧ agr [(2, 7)] [15, 16, 17, 18] V u.1 ∧ u.2 = L ∧ ((u.1 2 7).toInt = (V 2 7).toInt + 1)) (fun u t => gq D A (xw ad kk u.1 u.2 Z) (xty kk Z) t) A
abbrev r_x_hasShorter : Room := { frames := 0, cells := 0, slots := 0, locals := 0 }
abbrev q_x_hasShorter (D : va_G) (ks : KS) (ad : Nat → Nat) (kk : Nat → ClassId) (V : Vf) (L : Lf) (Z : XZ) (p0 : Int32) (p1 : Int32) (b : Nat) (A : Nat → Prop) : Array Value → State → Outcome → State → Prop := va_Qi (fun (r : Int32) (_ : Unit) => (0 ≤ r.toInt ∧ r.toInt ≤ 1)) (fun _ t => gq D A (xw ad kk V L Z) (xty kk Z) t) A
abbrev r_x_faultOf : Room := { frames := 2, cells := 0, slots := 0, locals := 53 }
abbrev q_x_faultOf (D : va_G) (ks : KS) (ad : Nat → Nat) (kk : Nat → ClassId) (V : Vf) (L : Lf) (Z : XZ) (p0 : Int32) (p1 : Int32) (b : Nat) (A : Nat → Prop) : Array Value → State → Outcome → State → Prop := va_Qi (fun (r : Int32) (_ : Unit) => True) (fun _ t => gq D A (xw ad kk V L Z) (xty kk Z) t) A
abbrev r_x_examineNeeds : Room := { frames := 3, cells := 0, slots := 0, locals := 78 }
abbrev q_x_examineNeeds (D : va_G) (ks : KS) (ad : Nat → Nat) (kk : Nat → ClassId) (V : Vf) (L : Lf) (Z : XZ) (p0 : Int32) (b : Nat) (A : Nat → Prop) : Array Value → State → Outcome → State → Prop := va_Qv (fun (u : Vf × Lf) => rgd bX u.1 ∧ agr [(2, 7)] [15, 16, 17] V u.1 ∧ u.2 = L ∧ ((u.1 2 7).toInt ≤ (V 2 7).toInt + 8)) (fun u t => gq D A (xw ad kk u.1 u.2 Z) (xty kk Z) t) A
abbrev r_x_followed : Room := { frames := 3, cells := 0, slots := 0, locals := 78 }
abbrev q_x_followed (D : va_G) (ks : KS) (ad : Nat → Nat) (kk : Nat → ClassId) (V : Vf) (L : Lf) (Z : XZ) (p0 : Int32) (p1 : Int32) (b : Nat) (A : Nat → Prop) : Array Value → State → Outcome → State → Prop := va_Qi (fun (r : Int32) (_ : Unit) => True) (fun _ t => gq D A (xw ad kk V L Z) (xty kk Z) t) A
abbrev q_x_follow (D : va_G) (ks : KS) (ad : Nat → Nat) (kk : Nat → ClassId) (V : Vf) (L : Lf) (Z : XZ) (p0 : Int32) (p1 : Int32) (b : Nat) (A : Nat → Prop) : Array Value → State → Outcome → State → Prop := va_Qv (fun (u : Vf × Lf) => rgd bX u.1 ∧ agr [(2, 7)] [15, 16, 17, 18, 19, 20] V u.1 ∧ u.2 = L ∧ ((u.1 2 7).toInt + 192 * (cx u.1 24 : Int) ≤ (V 2 7).toInt + 192 * (cx V 24 : Int)) ∧ ((V 2 7).toInt ≤ (u.1 2 7).toInt) ∧ ((∀ q : Nat, (V 20 q).toInt ≠ -1 → (u.1 20 q).toInt ≠ -1))) (fun u t => gq D A (xw ad kk u.1 u.2 Z) (xty kk Z) t) A
def K_x_follow (l : Launch) (D : va_G) (ks : KS) (dd : Nat) : Prop := ∀ (sz : Nat) (ad : Nat → Nat) (kk : Nat → ClassId) (V : Vf) (L : Lf) (Z : XZ) (p0 : Int32) (p1 : Int32) (b : Nat) (hMV : rgd bX V) (rg_p0 : 0 ≤ p0.toInt ∧ p0.toInt ≤ 23) (rg_p1 : 0 ≤ p1.toInt ∧ p1.toInt ≤ 24) (hb2 : b < 2) (cbk : (V 2 6).toInt = (b : Int)) (y1 : (V 20 (Int32.toNatClampNeg p0)).toInt = -1) (y2 : 24 - p1.toInt ≤ (dd : Int)) (y3 : (V 2 7).toInt + 192 * (cx V 24 : Int) ≤ 999000) , Met l yX2_follow (Cond.code yX2_follow cX2_follow 6 none :: GW) (rK 8 260 dd) (va_Pc [.ref (ad 2), .int p0, .int p1] (gp D ks (xw ad kk V L Z) (xty kk Z) sz)) (q_x_follow D ks ad kk V L Z p0 p1 b (va_A (xw ad kk V L Z) sz)) 0 0 (va_A (xw ad kk V L Z) sz)