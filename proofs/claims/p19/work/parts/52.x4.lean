section
/-! how many components are not on the path yet -/
def cx (V : Vf) : Nat → Nat
  | 0 => 0
  | n + 1 => cx V n + (if (V 20 n).toInt = -1 then 1 else 0)
theorem cx_le (V : Vf) : ∀ n, cx V n ≤ n
  | 0 => Nat.le_refl _
  | n + 1 => by
    have := cx_le V n
    show cx V n + (if (V 20 n).toInt = -1 then 1 else 0) ≤ n + 1
    split <;> omega
theorem cx_same {V W : Vf} : ∀ n, (∀ k, k < n → ((W 20 k).toInt = -1 ↔ (V 20 k).toInt = -1)) → cx W n = cx V n
  | 0, _ => rfl
  | n + 1, h => by
    have ih := cx_same (V := V) (W := W) n (fun k hk => h k (by omega))
    have e := h n (by omega)
    show cx W n + (if (W 20 n).toInt = -1 then 1 else 0) = cx V n + (if (V 20 n).toInt = -1 then 1 else 0)
    rw [ih]
    by_cases q : (V 20 n).toInt = -1
    · rw [if_pos q, if_pos (e.mpr q)]
    · rw [if_neg q, if_neg (fun z => q (e.mp z))]
theorem cx_up {V W : Vf} {x : Nat} {v : Int32} (e : W = up2 V 20 x v) (h1 : (V 20 x).toInt = -1) (h2 : v.toInt ≠ -1) : ∀ n, (x < n → cx W n + 1 = cx V n) ∧ (n ≤ x → cx W n = cx V n)
  | 0 => ⟨fun h => absurd h (by omega), fun _ => rfl⟩
  | n + 1 => by
    have ih := cx_up e h1 h2 n
    show (_ → cx W n + (if (W 20 n).toInt = -1 then 1 else 0) + 1 = cx V n + (if (V 20 n).toInt = -1 then 1 else 0)) ∧ (_ → cx W n + (if (W 20 n).toInt = -1 then 1 else 0) = cx V n + (if (V 20 n).toInt = -1 then 1 else 0))
    by_cases q : n = x
    · subst q
      rw [up2_s e, if_pos h1, if_neg h2]
      have := ih.2 (Nat.le_refl _)
      exact ⟨fun _ => by omega, fun h => absurd h (by omega)⟩
    · rw [up2_k e q]
      refine ⟨fun h => ?_, fun h => ?_⟩
      · have := ih.1 (by omega)
        omega
      · have := ih.2 (by omega)
        omega
theorem cx_lo {V W : Vf} {x : Nat} {v : Int32} (e : W = up2 V 20 x v) (h1 : (V 20 x).toInt ≠ -1) (h2 : v.toInt ≠ -1) (n : Nat) : cx W n = cx V n := by
  refine cx_same n (fun k _ => ?_)
  by_cases q : k = x
  · subst q
    rw [up2_s e]
    exact ⟨fun h => absurd h h2, fun h => absurd h h1⟩
  · rw [up2_k e q]
theorem cx_ag {fs : List (Nat × Nat)} {cs : List Nat} {V W : Vf} (a : agr fs cs V W) (h : ∀ k, wrL fs cs 20 k = false) (n : Nat) : cx W n = cx V n := cx_same n (fun k _ => by rw [a 20 k (h k)])

theorem w372 : Cond.code yJ7_fill_53178 cJ7_fill_53178 4 none ∈ GW := gw_k tk9_1 217 (rfl) rfl
theorem w370 : Cond.methodLink RX8 49 yJ7_fill_53178 ∈ GW := gw_k tk9_1 215 (by decide +kernel) rfl
theorem w371 : Cond.static yJ7_fill_53178 ∈ GW := gw_k tk9_1 216 (by decide +kernel) rfl
theorem hdS_yJ7_fill_53178 : yJ7_fill_53178.cls ≠ "java/lang/invoke/MethodHandle" ∧ yJ7_fill_53178.cls ≠ "java/lang/invoke/VarHandle" ∧ (parseMethodDescriptor yJ7_fill_53178.desc).map (fun d => d.parameters.length) = some 2 := by decide +kernel
theorem w394 : Cond.fieldLink RX8 69 "WiringHouse$Stock" "linkCount" "I" ∈ GW := gw_k tk9_1 239 (by decide +kernel) rfl
theorem w1030 : Cond.code yX8_shut cX8_shut 2 none ∈ GW := gw_k tk9_4 155 (rfl) rfl
theorem w1027 : Cond.methodLink RX8 59 yX8_shut ∈ GW := gw_k tk9_4 152 (by decide +kernel) rfl
theorem w1028 : Cond.instanceMethod yX8_shut ∈ GW := gw_k tk9_4 153 (by decide +kernel) rfl
theorem w1029 : Cond.selects RX8 yX8_shut yX8_shut ∈ GW := gw_k tk9_4 154 (by decide +kernel) rfl
theorem hdV_yX8_shut : yX8_shut.cls = RX8 ∧ yX8_shut.cls ≠ "java/lang/invoke/MethodHandle" ∧ yX8_shut.cls ≠ "java/lang/invoke/VarHandle" ∧ (parseMethodDescriptor yX8_shut.desc).map (fun d => d.parameters.length) = some 1 := by decide +kernel
theorem w507 : Cond.fieldLink RX3 21 "WiringHouse$Component" "methodStarts" "[I" ∈ GW := gw_k tk9_2 112 (by decide +kernel) rfl
theorem w918 : Cond.methodLink RX3 24 yJ7_fill_53178 ∈ GW := gw_k tk9_4 43 (by decide +kernel) rfl
theorem w515 : Cond.fieldLink RX3 34 "WiringHouse$Component" "under" "I" ∈ GW := gw_k tk9_2 120 (by decide +kernel) rfl
theorem w518 : Cond.fieldLink RX3 37 "WiringHouse$Component" "scope" "I" ∈ GW := gw_k tk9_2 123 (by decide +kernel) rfl
theorem w523 : Cond.fieldLink RX3 40 "WiringHouse$Component" "calledWord" "I" ∈ GW := gw_k tk9_2 128 (by decide +kernel) rfl
theorem w527 : Cond.fieldLink RX3 43 "WiringHouse$Component" "rank" "I" ∈ GW := gw_k tk9_2 132 (by decide +kernel) rfl
theorem w531 : Cond.fieldLink RX3 46 "WiringHouse$Component" "whenSetting" "I" ∈ GW := gw_k tk9_2 136 (by decide +kernel) rfl
theorem w534 : Cond.fieldLink RX3 49 "WiringHouse$Component" "whenValue" "I" ∈ GW := gw_k tk9_2 139 (by decide +kernel) rfl
theorem w537 : Cond.fieldLink RX3 52 "WiringHouse$Component" "openedStart" "I" ∈ GW := gw_k tk9_2 142 (by decide +kernel) rfl
theorem w540 : Cond.fieldLink RX3 55 "WiringHouse$Component" "closedStart" "I" ∈ GW := gw_k tk9_2 145 (by decide +kernel) rfl
theorem w345 : Cond.fieldLink RX2 30 "WiringHouse$Checker" "faults" "I" ∈ GW := gw_k tk9_1 190 (by decide +kernel) rfl
theorem w338 : Cond.fieldLink RX2 9 "WiringHouse$Checker" "kinds" "[I" ∈ GW := gw_k tk9_1 183 (by decide +kernel) rfl
theorem w339 : Cond.fieldLink RX2 15 "WiringHouse$Checker" "whose" "[I" ∈ GW := gw_k tk9_1 184 (by decide +kernel) rfl
theorem w340 : Cond.fieldLink RX2 18 "WiringHouse$Checker" "details" "[I" ∈ GW := gw_k tk9_1 185 (by decide +kernel) rfl
theorem w1124 : Cond.code yX2_tells cX2_tells 2 (some .boolean) ∈ GW := gw_k tk9_5 9 (rfl) rfl
theorem w1121 : Cond.methodLink RX2 109 yX2_tells ∈ GW := gw_k tk9_5 6 (by decide +kernel) rfl
theorem w163 : Cond.initialized RX2 ∈ GW := gw_k tk9_1 8 (by decide +kernel) rfl
theorem w1123 : Cond.instanceMethod yX2_tells ∈ GW := gw_k tk9_5 8 (by decide +kernel) rfl
theorem w41 : Cond.selects RX2 yX2_tells yX2_tells ∈ GW := gw_mem 41 (by decide +kernel) rfl
theorem hdV_yX2_tells : yX2_tells.cls = RX2 ∧ yX2_tells.cls ≠ "java/lang/invoke/MethodHandle" ∧ yX2_tells.cls ≠ "java/lang/invoke/VarHandle" ∧ (parseMethodDescriptor yX2_tells.desc).map (fun d => d.parameters.length) = some 1 := by decide +kernel
theorem w341 : Cond.fieldLink RX2 21 "WiringHouse$Checker" "rings" "[I" ∈ GW := gw_k tk9_1 186 (by decide +kernel) rfl
theorem w342 : Cond.fieldLink RX2 24 "WiringHouse$Checker" "path" "[I" ∈ GW := gw_k tk9_1 187 (by decide +kernel) rfl
theorem w1099 : Cond.code yX2_note cX2_note 4 none ∈ GW := gw_k tk9_4 224 (rfl) rfl
theorem w1096 : Cond.methodLink RX2 80 yX2_note ∈ GW := gw_k tk9_4 221 (by decide +kernel) rfl
theorem w1098 : Cond.instanceMethod yX2_note ∈ GW := gw_k tk9_4 223 (by decide +kernel) rfl
theorem w37 : Cond.selects RX2 yX2_note yX2_note ∈ GW := gw_mem 37 (by decide +kernel) rfl
theorem hdV_yX2_note : yX2_note.cls = RX2 ∧ yX2_note.cls ≠ "java/lang/invoke/MethodHandle" ∧ yX2_note.cls ≠ "java/lang/invoke/VarHandle" ∧ (parseMethodDescriptor yX2_note.desc).map (fun d => d.parameters.length) = some 3 := by decide +kernel
theorem w344 : Cond.fieldLink RX2 34 "WiringHouse$Checker" "book" "LWiringHouse$Book;" ∈ GW := gw_k tk9_1 189 (by decide +kernel) rfl
theorem n600 : lw_tbl[600]? = some (Cond.fieldLinkNest RX2 38 "WiringHouse$Book" "names" "LWiringHouse$Names;" "WiringHouse") := la9 (n := 155) (i := 445) lz9 (la9 (n := 240) (i := 205) ln9_1 (lb9 (i := 205) (by decide +kernel)))
theorem n482 : lw_tbl[482]? = some (Cond.fieldLinkNest RX2 44 "WiringHouse$Names" "size" "I" "WiringHouse") := la9 (n := 155) (i := 327) lz9 (la9 (n := 240) (i := 87) ln9_1 (lb9 (i := 87) (by decide +kernel)))
theorem n615 : lw_tbl[615]? = some (Cond.fieldLinkNest RX2 67 "WiringHouse$Book" "components" "[LWiringHouse$Component;" "WiringHouse") := la9 (n := 155) (i := 460) lz9 (la9 (n := 240) (i := 220) ln9_1 (lb9 (i := 220) (by decide +kernel)))
theorem n519 : lw_tbl[519]? = some (Cond.fieldLinkNest RX2 96 "WiringHouse$Component" "scope" "I" "WiringHouse") := la9 (n := 155) (i := 364) lz9 (la9 (n := 240) (i := 124) ln9_1 (lb9 (i := 124) (by decide +kernel)))
theorem n504 : lw_tbl[504]? = some (Cond.fieldLinkNest RX2 84 "WiringHouse$Component" "needKinds" "[I" "WiringHouse") := la9 (n := 155) (i := 349) lz9 (la9 (n := 240) (i := 109) ln9_1 (lb9 (i := 109) (by decide +kernel)))
theorem w1084 : Cond.code yX0_candidates cX0_candidates 12 (some .int) ∈ GW := gw_k tk9_4 209 (rfl) rfl
theorem w1081 : Cond.methodLink RX2 87 yX0_candidates ∈ GW := gw_k tk9_4 206 (by decide +kernel) rfl
theorem w1082 : Cond.instanceMethod yX0_candidates ∈ GW := gw_k tk9_4 207 (by decide +kernel) rfl
theorem w1083 : Cond.selects RX0 yX0_candidates yX0_candidates ∈ GW := gw_k tk9_4 208 (by decide +kernel) rfl
theorem hdV_yX0_candidates : yX0_candidates.cls = RX0 ∧ yX0_candidates.cls ≠ "java/lang/invoke/MethodHandle" ∧ yX0_candidates.cls ≠ "java/lang/invoke/VarHandle" ∧ (parseMethodDescriptor yX0_candidates.desc).map (fun d => d.parameters.length) = some 2 := by decide +kernel
theorem w1095 : Cond.code yX2_hasShorter cX2_hasShorter 6 (some .boolean) ∈ GW := gw_k tk9_4 220 (rfl) rfl
theorem w1092 : Cond.methodLink RX2 99 yX2_hasShorter ∈ GW := gw_k tk9_4 217 (by decide +kernel) rfl
theorem w1094 : Cond.instanceMethod yX2_hasShorter ∈ GW := gw_k tk9_4 219 (by decide +kernel) rfl
theorem w36 : Cond.selects RX2 yX2_hasShorter yX2_hasShorter ∈ GW := gw_mem 36 (by decide +kernel) rfl
theorem hdV_yX2_hasShorter : yX2_hasShorter.cls = RX2 ∧ yX2_hasShorter.cls ≠ "java/lang/invoke/MethodHandle" ∧ yX2_hasShorter.cls ≠ "java/lang/invoke/VarHandle" ∧ (parseMethodDescriptor yX2_hasShorter.desc).map (fun d => d.parameters.length) = some 2 := by decide +kernel
theorem w1088 : Cond.code yJ6_bitCount_0f7a4 cJ6_bitCount_0f7a4 1 (some .int) ∈ GW := gw_k tk9_4 213 (rfl) rfl
theorem w1086 : Cond.methodLink RX2 90 yJ6_bitCount_0f7a4 ∈ GW := gw_k tk9_4 211 (by decide +kernel) rfl
theorem w175 : Cond.initialized RJ6 ∈ GW := gw_k tk9_1 20 (by decide +kernel) rfl
theorem w1087 : Cond.static yJ6_bitCount_0f7a4 ∈ GW := gw_k tk9_4 212 (by decide +kernel) rfl
theorem hdS_yJ6_bitCount_0f7a4 : yJ6_bitCount_0f7a4.cls ≠ "java/lang/invoke/MethodHandle" ∧ yJ6_bitCount_0f7a4.cls ≠ "java/lang/invoke/VarHandle" ∧ (parseMethodDescriptor yJ6_bitCount_0f7a4.desc).map (fun d => d.parameters.length) = some 1 := by decide +kernel
theorem n511 : lw_tbl[511]? = some (Cond.fieldLinkNest RX2 71 "WiringHouse$Component" "needs" "I" "WiringHouse") := la9 (n := 155) (i := 356) lz9 (la9 (n := 240) (i := 116) ln9_1 (lb9 (i := 116) (by decide +kernel)))
theorem w1080 : Cond.code yX2_faultOf cX2_faultOf 6 (some .int) ∈ GW := gw_k tk9_4 205 (rfl) rfl
theorem w1077 : Cond.methodLink RX2 76 yX2_faultOf ∈ GW := gw_k tk9_4 202 (by decide +kernel) rfl
theorem w1079 : Cond.instanceMethod yX2_faultOf ∈ GW := gw_k tk9_4 204 (by decide +kernel) rfl
theorem w35 : Cond.selects RX2 yX2_faultOf yX2_faultOf ∈ GW := gw_mem 35 (by decide +kernel) rfl
theorem hdV_yX2_faultOf : yX2_faultOf.cls = RX2 ∧ yX2_faultOf.cls ≠ "java/lang/invoke/MethodHandle" ∧ yX2_faultOf.cls ≠ "java/lang/invoke/VarHandle" ∧ (parseMethodDescriptor yX2_faultOf.desc).map (fun d => d.parameters.length) = some 2 := by decide +kernel
theorem w343 : Cond.fieldLink RX2 27 "WiringHouse$Checker" "onPath" "[I" ∈ GW := gw_k tk9_1 188 (by decide +kernel) rfl
theorem w1108 : Cond.code yX2_followed cX2_followed 4 (some .int) ∈ GW := gw_k tk9_4 233 (rfl) rfl
theorem w1105 : Cond.methodLink RX2 103 yX2_followed ∈ GW := gw_k tk9_4 230 (by decide +kernel) rfl
theorem w1107 : Cond.instanceMethod yX2_followed ∈ GW := gw_k tk9_4 232 (by decide +kernel) rfl
theorem w39 : Cond.selects RX2 yX2_followed yX2_followed ∈ GW := gw_mem 39 (by decide +kernel) rfl
theorem hdV_yX2_followed : yX2_followed.cls = RX2 ∧ yX2_followed.cls ≠ "java/lang/invoke/MethodHandle" ∧ yX2_followed.cls ≠ "java/lang/invoke/VarHandle" ∧ (parseMethodDescriptor yX2_followed.desc).map (fun d => d.parameters.length) = some 2 := by decide +kernel
theorem w1112 : Cond.code yX2_noteRing cX2_noteRing 4 none ∈ GW := gw_k tk9_4 237 (rfl) rfl
theorem w1109 : Cond.methodLink RX2 106 yX2_noteRing ∈ GW := gw_k tk9_4 234 (by decide +kernel) rfl
theorem w1111 : Cond.instanceMethod yX2_noteRing ∈ GW := gw_k tk9_4 236 (by decide +kernel) rfl
theorem w40 : Cond.selects RX2 yX2_noteRing yX2_noteRing ∈ GW := gw_mem 40 (by decide +kernel) rfl
theorem hdV_yX2_noteRing : yX2_noteRing.cls = RX2 ∧ yX2_noteRing.cls ≠ "java/lang/invoke/MethodHandle" ∧ yX2_noteRing.cls ≠ "java/lang/invoke/VarHandle" ∧ (parseMethodDescriptor yX2_noteRing.desc).map (fun d => d.parameters.length) = some 2 := by decide +kernel
theorem w1104 : Cond.code yX2_follow cX2_follow 6 none ∈ GW := gw_k tk9_4 229 (rfl) rfl
theorem w1101 : Cond.methodLink RX2 63 yX2_follow ∈ GW := gw_k tk9_4 226 (by decide +kernel) rfl
theorem w1103 : Cond.instanceMethod yX2_follow ∈ GW := gw_k tk9_4 228 (by decide +kernel) rfl
theorem w38 : Cond.selects RX2 yX2_follow yX2_follow ∈ GW := gw_mem 38 (by decide +kernel) rfl
theorem hdV_yX2_follow : yX2_follow.cls = RX2 ∧ yX2_follow.cls ≠ "java/lang/invoke/MethodHandle" ∧ yX2_follow.cls ≠ "java/lang/invoke/VarHandle" ∧ (parseMethodDescriptor yX2_follow.desc).map (fun d => d.parameters.length) = some 2 := by decide +kernel
theorem dk9_dX8_clear_0_0 : dOk cX8_clear [(0, .aload_n 0, 1), (1, .getfield 25, 3), (4, .iconst (-1), 1), (5, .invokestatic 49, 3), (8, .iconst 0, 1), (9, .istore_n 1, 1), (10, .iload_n 1, 1), (11, .bipush 40, 2), (13, .if_icmp .ge 14, 3), (27, .aload_n 0, 1), (28, .getfield 18, 3), (31, .iconst 0, 1), (32, .iconst 1, 1), (33, .bastore, 1), (34, .aload_n 0, 1), (35, .iconst 1, 1), (36, .putfield 55, 3), (39, .aload_n 0, 1), (40, .iconst 0, 1), (41, .putfield 63, 3), (44, .aload_n 0, 1), (45, .iconst 0, 1), (46, .putfield 66, 3), (49, .aload_n 0, 1)] = true ∧ dOk cX8_clear [(50, .iconst 0, 1), (51, .putfield 69, 3), (54, .return_, 1), (16, .aload_n 0, 1), (17, .iload_n 1, 1), (18, .invokevirtual 59, 3), (21, .iinc 1 1, 3), (24, .goto (-14), 3)] = true := by decide +kernel
theorem dX8_clear_0 : decode cX8_clear 0 = .ok (.aload_n 0, 1) := dr9 dk9_dX8_clear_0_0.1 0 (0, .aload_n 0, 1) rfl
theorem dX8_clear_1 : decode cX8_clear 1 = .ok (.getfield 25, 3) := dr9 dk9_dX8_clear_0_0.1 1 (1, .getfield 25, 3) rfl
theorem dX8_clear_4 : decode cX8_clear 4 = .ok (.iconst (-1), 1) := dr9 dk9_dX8_clear_0_0.1 2 (4, .iconst (-1), 1) rfl
theorem dX8_clear_5 : decode cX8_clear 5 = .ok (.invokestatic 49, 3) := dr9 dk9_dX8_clear_0_0.1 3 (5, .invokestatic 49, 3) rfl
theorem dX8_clear_8 : decode cX8_clear 8 = .ok (.iconst 0, 1) := dr9 dk9_dX8_clear_0_0.1 4 (8, .iconst 0, 1) rfl
theorem dX8_clear_9 : decode cX8_clear 9 = .ok (.istore_n 1, 1) := dr9 dk9_dX8_clear_0_0.1 5 (9, .istore_n 1, 1) rfl
theorem dX8_clear_10 : decode cX8_clear 10 = .ok (.iload_n 1, 1) := dr9 dk9_dX8_clear_0_0.1 6 (10, .iload_n 1, 1) rfl
theorem dX8_clear_11 : decode cX8_clear 11 = .ok (.bipush 40, 2) := dr9 dk9_dX8_clear_0_0.1 7 (11, .bipush 40, 2) rfl
theorem dX8_clear_13 : decode cX8_clear 13 = .ok (.if_icmp .ge 14, 3) := dr9 dk9_dX8_clear_0_0.1 8 (13, .if_icmp .ge 14, 3) rfl
theorem dX8_clear_27 : decode cX8_clear 27 = .ok (.aload_n 0, 1) := dr9 dk9_dX8_clear_0_0.1 9 (27, .aload_n 0, 1) rfl
theorem dX8_clear_28 : decode cX8_clear 28 = .ok (.getfield 18, 3) := dr9 dk9_dX8_clear_0_0.1 10 (28, .getfield 18, 3) rfl
theorem dX8_clear_31 : decode cX8_clear 31 = .ok (.iconst 0, 1) := dr9 dk9_dX8_clear_0_0.1 11 (31, .iconst 0, 1) rfl
theorem dX8_clear_32 : decode cX8_clear 32 = .ok (.iconst 1, 1) := dr9 dk9_dX8_clear_0_0.1 12 (32, .iconst 1, 1) rfl
theorem dX8_clear_33 : decode cX8_clear 33 = .ok (.bastore, 1) := dr9 dk9_dX8_clear_0_0.1 13 (33, .bastore, 1) rfl
theorem dX8_clear_34 : decode cX8_clear 34 = .ok (.aload_n 0, 1) := dr9 dk9_dX8_clear_0_0.1 14 (34, .aload_n 0, 1) rfl
theorem dX8_clear_35 : decode cX8_clear 35 = .ok (.iconst 1, 1) := dr9 dk9_dX8_clear_0_0.1 15 (35, .iconst 1, 1) rfl
theorem dX8_clear_36 : decode cX8_clear 36 = .ok (.putfield 55, 3) := dr9 dk9_dX8_clear_0_0.1 16 (36, .putfield 55, 3) rfl
theorem dX8_clear_39 : decode cX8_clear 39 = .ok (.aload_n 0, 1) := dr9 dk9_dX8_clear_0_0.1 17 (39, .aload_n 0, 1) rfl
theorem dX8_clear_40 : decode cX8_clear 40 = .ok (.iconst 0, 1) := dr9 dk9_dX8_clear_0_0.1 18 (40, .iconst 0, 1) rfl
theorem dX8_clear_41 : decode cX8_clear 41 = .ok (.putfield 63, 3) := dr9 dk9_dX8_clear_0_0.1 19 (41, .putfield 63, 3) rfl
theorem dX8_clear_44 : decode cX8_clear 44 = .ok (.aload_n 0, 1) := dr9 dk9_dX8_clear_0_0.1 20 (44, .aload_n 0, 1) rfl
theorem dX8_clear_45 : decode cX8_clear 45 = .ok (.iconst 0, 1) := dr9 dk9_dX8_clear_0_0.1 21 (45, .iconst 0, 1) rfl
theorem dX8_clear_46 : decode cX8_clear 46 = .ok (.putfield 66, 3) := dr9 dk9_dX8_clear_0_0.1 22 (46, .putfield 66, 3) rfl
theorem dX8_clear_49 : decode cX8_clear 49 = .ok (.aload_n 0, 1) := dr9 dk9_dX8_clear_0_0.1 23 (49, .aload_n 0, 1) rfl
theorem dX8_clear_50 : decode cX8_clear 50 = .ok (.iconst 0, 1) := dr9 dk9_dX8_clear_0_0.2 0 (50, .iconst 0, 1) rfl
theorem dX8_clear_51 : decode cX8_clear 51 = .ok (.putfield 69, 3) := dr9 dk9_dX8_clear_0_0.2 1 (51, .putfield 69, 3) rfl
theorem dX8_clear_54 : decode cX8_clear 54 = .ok (.return_, 1) := dr9 dk9_dX8_clear_0_0.2 2 (54, .return_, 1) rfl
theorem dX8_clear_16 : decode cX8_clear 16 = .ok (.aload_n 0, 1) := dr9 dk9_dX8_clear_0_0.2 3 (16, .aload_n 0, 1) rfl
theorem dX8_clear_17 : decode cX8_clear 17 = .ok (.iload_n 1, 1) := dr9 dk9_dX8_clear_0_0.2 4 (17, .iload_n 1, 1) rfl
theorem dX8_clear_18 : decode cX8_clear 18 = .ok (.invokevirtual 59, 3) := dr9 dk9_dX8_clear_0_0.2 5 (18, .invokevirtual 59, 3) rfl
theorem dX8_clear_21 : decode cX8_clear 21 = .ok (.iinc 1 1, 3) := dr9 dk9_dX8_clear_0_0.2 6 (21, .iinc 1 1, 3) rfl
theorem dX8_clear_24 : decode cX8_clear 24 = .ok (.goto (-14), 3) := dr9 dk9_dX8_clear_0_0.2 7 (24, .goto (-14), 3) rfl
theorem dk9_dX3_clear_0_0 : dOk cX3_clear [(0, .aload_n 0, 1), (1, .getfield 21, 3), (4, .iconst (-1), 1), (5, .invokestatic 24, 3), (8, .aload_n 0, 1), (9, .iconst 0, 1), (10, .putfield 30, 3), (13, .aload_n 0, 1), (14, .iconst 0, 1), (15, .putfield 34, 3), (18, .aload_n 0, 1), (19, .iconst 0, 1), (20, .putfield 37, 3), (23, .aload_n 0, 1), (24, .iconst (-1), 1), (25, .putfield 40, 3), (28, .aload_n 0, 1), (29, .iconst 0, 1), (30, .putfield 43, 3), (33, .aload_n 0, 1), (34, .iconst (-1), 1), (35, .putfield 46, 3), (38, .aload_n 0, 1), (39, .iconst 0, 1)] = true ∧ dOk cX3_clear [(40, .putfield 49, 3), (43, .aload_n 0, 1), (44, .iconst (-1), 1), (45, .putfield 52, 3), (48, .aload_n 0, 1), (49, .iconst (-1), 1), (50, .putfield 55, 3), (53, .return_, 1)] = true := by decide +kernel
theorem dX3_clear_0 : decode cX3_clear 0 = .ok (.aload_n 0, 1) := dr9 dk9_dX3_clear_0_0.1 0 (0, .aload_n 0, 1) rfl
theorem dX3_clear_1 : decode cX3_clear 1 = .ok (.getfield 21, 3) := dr9 dk9_dX3_clear_0_0.1 1 (1, .getfield 21, 3) rfl
theorem dX3_clear_4 : decode cX3_clear 4 = .ok (.iconst (-1), 1) := dr9 dk9_dX3_clear_0_0.1 2 (4, .iconst (-1), 1) rfl
theorem dX3_clear_5 : decode cX3_clear 5 = .ok (.invokestatic 24, 3) := dr9 dk9_dX3_clear_0_0.1 3 (5, .invokestatic 24, 3) rfl
theorem dX3_clear_8 : decode cX3_clear 8 = .ok (.aload_n 0, 1) := dr9 dk9_dX3_clear_0_0.1 4 (8, .aload_n 0, 1) rfl
theorem dX3_clear_9 : decode cX3_clear 9 = .ok (.iconst 0, 1) := dr9 dk9_dX3_clear_0_0.1 5 (9, .iconst 0, 1) rfl
theorem dX3_clear_10 : decode cX3_clear 10 = .ok (.putfield 30, 3) := dr9 dk9_dX3_clear_0_0.1 6 (10, .putfield 30, 3) rfl
theorem dX3_clear_13 : decode cX3_clear 13 = .ok (.aload_n 0, 1) := dr9 dk9_dX3_clear_0_0.1 7 (13, .aload_n 0, 1) rfl
theorem dX3_clear_14 : decode cX3_clear 14 = .ok (.iconst 0, 1) := dr9 dk9_dX3_clear_0_0.1 8 (14, .iconst 0, 1) rfl
theorem dX3_clear_15 : decode cX3_clear 15 = .ok (.putfield 34, 3) := dr9 dk9_dX3_clear_0_0.1 9 (15, .putfield 34, 3) rfl
theorem dX3_clear_18 : decode cX3_clear 18 = .ok (.aload_n 0, 1) := dr9 dk9_dX3_clear_0_0.1 10 (18, .aload_n 0, 1) rfl
theorem dX3_clear_19 : decode cX3_clear 19 = .ok (.iconst 0, 1) := dr9 dk9_dX3_clear_0_0.1 11 (19, .iconst 0, 1) rfl
theorem dX3_clear_20 : decode cX3_clear 20 = .ok (.putfield 37, 3) := dr9 dk9_dX3_clear_0_0.1 12 (20, .putfield 37, 3) rfl
theorem dX3_clear_23 : decode cX3_clear 23 = .ok (.aload_n 0, 1) := dr9 dk9_dX3_clear_0_0.1 13 (23, .aload_n 0, 1) rfl
theorem dX3_clear_24 : decode cX3_clear 24 = .ok (.iconst (-1), 1) := dr9 dk9_dX3_clear_0_0.1 14 (24, .iconst (-1), 1) rfl
theorem dX3_clear_25 : decode cX3_clear 25 = .ok (.putfield 40, 3) := dr9 dk9_dX3_clear_0_0.1 15 (25, .putfield 40, 3) rfl
theorem dX3_clear_28 : decode cX3_clear 28 = .ok (.aload_n 0, 1) := dr9 dk9_dX3_clear_0_0.1 16 (28, .aload_n 0, 1) rfl
theorem dX3_clear_29 : decode cX3_clear 29 = .ok (.iconst 0, 1) := dr9 dk9_dX3_clear_0_0.1 17 (29, .iconst 0, 1) rfl
theorem dX3_clear_30 : decode cX3_clear 30 = .ok (.putfield 43, 3) := dr9 dk9_dX3_clear_0_0.1 18 (30, .putfield 43, 3) rfl
theorem dX3_clear_33 : decode cX3_clear 33 = .ok (.aload_n 0, 1) := dr9 dk9_dX3_clear_0_0.1 19 (33, .aload_n 0, 1) rfl
theorem dX3_clear_34 : decode cX3_clear 34 = .ok (.iconst (-1), 1) := dr9 dk9_dX3_clear_0_0.1 20 (34, .iconst (-1), 1) rfl
theorem dX3_clear_35 : decode cX3_clear 35 = .ok (.putfield 46, 3) := dr9 dk9_dX3_clear_0_0.1 21 (35, .putfield 46, 3) rfl
theorem dX3_clear_38 : decode cX3_clear 38 = .ok (.aload_n 0, 1) := dr9 dk9_dX3_clear_0_0.1 22 (38, .aload_n 0, 1) rfl
theorem dX3_clear_39 : decode cX3_clear 39 = .ok (.iconst 0, 1) := dr9 dk9_dX3_clear_0_0.1 23 (39, .iconst 0, 1) rfl
theorem dX3_clear_40 : decode cX3_clear 40 = .ok (.putfield 49, 3) := dr9 dk9_dX3_clear_0_0.2 0 (40, .putfield 49, 3) rfl
theorem dX3_clear_43 : decode cX3_clear 43 = .ok (.aload_n 0, 1) := dr9 dk9_dX3_clear_0_0.2 1 (43, .aload_n 0, 1) rfl
theorem dX3_clear_44 : decode cX3_clear 44 = .ok (.iconst (-1), 1) := dr9 dk9_dX3_clear_0_0.2 2 (44, .iconst (-1), 1) rfl
theorem dX3_clear_45 : decode cX3_clear 45 = .ok (.putfield 52, 3) := dr9 dk9_dX3_clear_0_0.2 3 (45, .putfield 52, 3) rfl
theorem dX3_clear_48 : decode cX3_clear 48 = .ok (.aload_n 0, 1) := dr9 dk9_dX3_clear_0_0.2 4 (48, .aload_n 0, 1) rfl
theorem dX3_clear_49 : decode cX3_clear 49 = .ok (.iconst (-1), 1) := dr9 dk9_dX3_clear_0_0.2 5 (49, .iconst (-1), 1) rfl
theorem dX3_clear_50 : decode cX3_clear 50 = .ok (.putfield 55, 3) := dr9 dk9_dX3_clear_0_0.2 6 (50, .putfield 55, 3) rfl
theorem dX3_clear_53 : decode cX3_clear 53 = .ok (.return_, 1) := dr9 dk9_dX3_clear_0_0.2 7 (53, .return_, 1) rfl
theorem dk9_dX2_clear_0_0 : dOk cX2_clear [(0, .aload_n 0, 1), (1, .iconst 0, 1), (2, .putfield 30, 3), (5, .return_, 1)] = true := by decide +kernel
theorem dX2_clear_0 : decode cX2_clear 0 = .ok (.aload_n 0, 1) := dr9 dk9_dX2_clear_0_0 0 (0, .aload_n 0, 1) rfl
theorem dX2_clear_1 : decode cX2_clear 1 = .ok (.iconst 0, 1) := dr9 dk9_dX2_clear_0_0 1 (1, .iconst 0, 1) rfl
theorem dX2_clear_2 : decode cX2_clear 2 = .ok (.putfield 30, 3) := dr9 dk9_dX2_clear_0_0 2 (2, .putfield 30, 3) rfl
theorem dX2_clear_5 : decode cX2_clear 5 = .ok (.return_, 1) := dr9 dk9_dX2_clear_0_0 3 (5, .return_, 1) rfl
theorem dk9_dX2_tells_0_0 : dOk cX2_tells [(0, .iload_n 1, 1), (1, .ifCond .lt 21, 3), (22, .iconst 0, 1), (23, .ireturn, 1), (4, .iload_n 1, 1), (5, .aload_n 0, 1), (6, .getfield 30, 3), (9, .if_icmp .ge 13, 3), (12, .iload_n 1, 1), (13, .bipush 100, 2), (15, .if_icmp .ge 7, 3), (18, .iconst 1, 1), (19, .goto 4, 3)] = true := by decide +kernel
theorem dX2_tells_0 : decode cX2_tells 0 = .ok (.iload_n 1, 1) := dr9 dk9_dX2_tells_0_0 0 (0, .iload_n 1, 1) rfl
theorem dX2_tells_1 : decode cX2_tells 1 = .ok (.ifCond .lt 21, 3) := dr9 dk9_dX2_tells_0_0 1 (1, .ifCond .lt 21, 3) rfl
theorem dX2_tells_22 : decode cX2_tells 22 = .ok (.iconst 0, 1) := dr9 dk9_dX2_tells_0_0 2 (22, .iconst 0, 1) rfl
theorem dX2_tells_23 : decode cX2_tells 23 = .ok (.ireturn, 1) := dr9 dk9_dX2_tells_0_0 3 (23, .ireturn, 1) rfl
theorem dX2_tells_4 : decode cX2_tells 4 = .ok (.iload_n 1, 1) := dr9 dk9_dX2_tells_0_0 4 (4, .iload_n 1, 1) rfl
theorem dX2_tells_5 : decode cX2_tells 5 = .ok (.aload_n 0, 1) := dr9 dk9_dX2_tells_0_0 5 (5, .aload_n 0, 1) rfl
theorem dX2_tells_6 : decode cX2_tells 6 = .ok (.getfield 30, 3) := dr9 dk9_dX2_tells_0_0 6 (6, .getfield 30, 3) rfl
theorem dX2_tells_9 : decode cX2_tells 9 = .ok (.if_icmp .ge 13, 3) := dr9 dk9_dX2_tells_0_0 7 (9, .if_icmp .ge 13, 3) rfl
theorem dX2_tells_12 : decode cX2_tells 12 = .ok (.iload_n 1, 1) := dr9 dk9_dX2_tells_0_0 8 (12, .iload_n 1, 1) rfl
theorem dX2_tells_13 : decode cX2_tells 13 = .ok (.bipush 100, 2) := dr9 dk9_dX2_tells_0_0 9 (13, .bipush 100, 2) rfl
theorem dX2_tells_15 : decode cX2_tells 15 = .ok (.if_icmp .ge 7, 3) := dr9 dk9_dX2_tells_0_0 10 (15, .if_icmp .ge 7, 3) rfl
theorem dX2_tells_18 : decode cX2_tells 18 = .ok (.iconst 1, 1) := dr9 dk9_dX2_tells_0_0 11 (18, .iconst 1, 1) rfl
theorem dX2_tells_19 : decode cX2_tells 19 = .ok (.goto 4, 3) := dr9 dk9_dX2_tells_0_0 12 (19, .goto 4, 3) rfl
theorem dk9_dX2_note_0_0 : dOk cX2_note [(0, .aload_n 0, 1), (1, .getfield 30, 3), (4, .bipush 100, 2), (6, .if_icmp .ge 33, 3), (39, .aload_n 0, 1), (40, .dup, 1), (41, .getfield 30, 3), (44, .iconst 1, 1), (45, .iadd, 1), (46, .putfield 30, 3), (49, .return_, 1), (9, .aload_n 0, 1), (10, .getfield 9, 3), (13, .aload_n 0, 1), (14, .getfield 30, 3), (17, .iload_n 1, 1), (18, .iastore, 1), (19, .aload_n 0, 1), (20, .getfield 15, 3), (23, .aload_n 0, 1), (24, .getfield 30, 3), (27, .iload_n 2, 1), (28, .iastore, 1), (29, .aload_n 0, 1)] = true ∧ dOk cX2_note [(30, .getfield 18, 3), (33, .aload_n 0, 1), (34, .getfield 30, 3), (37, .iload_n 3, 1), (38, .iastore, 1)] = true := by decide +kernel
theorem dX2_note_0 : decode cX2_note 0 = .ok (.aload_n 0, 1) := dr9 dk9_dX2_note_0_0.1 0 (0, .aload_n 0, 1) rfl
theorem dX2_note_1 : decode cX2_note 1 = .ok (.getfield 30, 3) := dr9 dk9_dX2_note_0_0.1 1 (1, .getfield 30, 3) rfl
theorem dX2_note_4 : decode cX2_note 4 = .ok (.bipush 100, 2) := dr9 dk9_dX2_note_0_0.1 2 (4, .bipush 100, 2) rfl
theorem dX2_note_6 : decode cX2_note 6 = .ok (.if_icmp .ge 33, 3) := dr9 dk9_dX2_note_0_0.1 3 (6, .if_icmp .ge 33, 3) rfl
theorem dX2_note_39 : decode cX2_note 39 = .ok (.aload_n 0, 1) := dr9 dk9_dX2_note_0_0.1 4 (39, .aload_n 0, 1) rfl
theorem dX2_note_40 : decode cX2_note 40 = .ok (.dup, 1) := dr9 dk9_dX2_note_0_0.1 5 (40, .dup, 1) rfl
theorem dX2_note_41 : decode cX2_note 41 = .ok (.getfield 30, 3) := dr9 dk9_dX2_note_0_0.1 6 (41, .getfield 30, 3) rfl
theorem dX2_note_44 : decode cX2_note 44 = .ok (.iconst 1, 1) := dr9 dk9_dX2_note_0_0.1 7 (44, .iconst 1, 1) rfl
theorem dX2_note_45 : decode cX2_note 45 = .ok (.iadd, 1) := dr9 dk9_dX2_note_0_0.1 8 (45, .iadd, 1) rfl
theorem dX2_note_46 : decode cX2_note 46 = .ok (.putfield 30, 3) := dr9 dk9_dX2_note_0_0.1 9 (46, .putfield 30, 3) rfl
theorem dX2_note_49 : decode cX2_note 49 = .ok (.return_, 1) := dr9 dk9_dX2_note_0_0.1 10 (49, .return_, 1) rfl
theorem dX2_note_9 : decode cX2_note 9 = .ok (.aload_n 0, 1) := dr9 dk9_dX2_note_0_0.1 11 (9, .aload_n 0, 1) rfl
theorem dX2_note_10 : decode cX2_note 10 = .ok (.getfield 9, 3) := dr9 dk9_dX2_note_0_0.1 12 (10, .getfield 9, 3) rfl
theorem dX2_note_13 : decode cX2_note 13 = .ok (.aload_n 0, 1) := dr9 dk9_dX2_note_0_0.1 13 (13, .aload_n 0, 1) rfl
theorem dX2_note_14 : decode cX2_note 14 = .ok (.getfield 30, 3) := dr9 dk9_dX2_note_0_0.1 14 (14, .getfield 30, 3) rfl
theorem dX2_note_17 : decode cX2_note 17 = .ok (.iload_n 1, 1) := dr9 dk9_dX2_note_0_0.1 15 (17, .iload_n 1, 1) rfl
theorem dX2_note_18 : decode cX2_note 18 = .ok (.iastore, 1) := dr9 dk9_dX2_note_0_0.1 16 (18, .iastore, 1) rfl
theorem dX2_note_19 : decode cX2_note 19 = .ok (.aload_n 0, 1) := dr9 dk9_dX2_note_0_0.1 17 (19, .aload_n 0, 1) rfl
theorem dX2_note_20 : decode cX2_note 20 = .ok (.getfield 15, 3) := dr9 dk9_dX2_note_0_0.1 18 (20, .getfield 15, 3) rfl
theorem dX2_note_23 : decode cX2_note 23 = .ok (.aload_n 0, 1) := dr9 dk9_dX2_note_0_0.1 19 (23, .aload_n 0, 1) rfl
theorem dX2_note_24 : decode cX2_note 24 = .ok (.getfield 30, 3) := dr9 dk9_dX2_note_0_0.1 20 (24, .getfield 30, 3) rfl
theorem dX2_note_27 : decode cX2_note 27 = .ok (.iload_n 2, 1) := dr9 dk9_dX2_note_0_0.1 21 (27, .iload_n 2, 1) rfl
theorem dX2_note_28 : decode cX2_note 28 = .ok (.iastore, 1) := dr9 dk9_dX2_note_0_0.1 22 (28, .iastore, 1) rfl
theorem dX2_note_29 : decode cX2_note 29 = .ok (.aload_n 0, 1) := dr9 dk9_dX2_note_0_0.1 23 (29, .aload_n 0, 1) rfl
theorem dX2_note_30 : decode cX2_note 30 = .ok (.getfield 18, 3) := dr9 dk9_dX2_note_0_0.2 0 (30, .getfield 18, 3) rfl
theorem dX2_note_33 : decode cX2_note 33 = .ok (.aload_n 0, 1) := dr9 dk9_dX2_note_0_0.2 1 (33, .aload_n 0, 1) rfl
theorem dX2_note_34 : decode cX2_note 34 = .ok (.getfield 30, 3) := dr9 dk9_dX2_note_0_0.2 2 (34, .getfield 30, 3) rfl
theorem dX2_note_37 : decode cX2_note 37 = .ok (.iload_n 3, 1) := dr9 dk9_dX2_note_0_0.2 3 (37, .iload_n 3, 1) rfl
theorem dX2_note_38 : decode cX2_note 38 = .ok (.iastore, 1) := dr9 dk9_dX2_note_0_0.2 4 (38, .iastore, 1) rfl
theorem dk9_dX2_tell_0_0 : dOk cX2_tell [(0, .aload_n 0, 1), (1, .iload_n 1, 1), (2, .invokevirtual 109, 3), (5, .ifCond .ne 5, 3), (10, .iload_n 2, 1), (11, .tableswitch 46 0 2 #[25, 32, 39], 25), (36, .aload_n 0, 1), (37, .getfield 9, 3), (40, .iload_n 1, 1), (41, .iaload, 1), (42, .ireturn, 1), (43, .aload_n 0, 1), (44, .getfield 15, 3), (47, .iload_n 1, 1), (48, .iaload, 1), (49, .ireturn, 1), (50, .aload_n 0, 1), (51, .getfield 18, 3), (54, .iload_n 1, 1), (55, .iaload, 1), (56, .ireturn, 1), (57, .iconst (-1), 1), (58, .ireturn, 1), (8, .iconst (-1), 1)] = true ∧ dOk cX2_tell [(9, .ireturn, 1)] = true := by decide +kernel
theorem dX2_tell_0 : decode cX2_tell 0 = .ok (.aload_n 0, 1) := dr9 dk9_dX2_tell_0_0.1 0 (0, .aload_n 0, 1) rfl
theorem dX2_tell_1 : decode cX2_tell 1 = .ok (.iload_n 1, 1) := dr9 dk9_dX2_tell_0_0.1 1 (1, .iload_n 1, 1) rfl
theorem dX2_tell_2 : decode cX2_tell 2 = .ok (.invokevirtual 109, 3) := dr9 dk9_dX2_tell_0_0.1 2 (2, .invokevirtual 109, 3) rfl
theorem dX2_tell_5 : decode cX2_tell 5 = .ok (.ifCond .ne 5, 3) := dr9 dk9_dX2_tell_0_0.1 3 (5, .ifCond .ne 5, 3) rfl
theorem dX2_tell_10 : decode cX2_tell 10 = .ok (.iload_n 2, 1) := dr9 dk9_dX2_tell_0_0.1 4 (10, .iload_n 2, 1) rfl
theorem dX2_tell_11 : decode cX2_tell 11 = .ok (.tableswitch 46 0 2 #[25, 32, 39], 25) := dr9 dk9_dX2_tell_0_0.1 5 (11, .tableswitch 46 0 2 #[25, 32, 39], 25) rfl
theorem dX2_tell_36 : decode cX2_tell 36 = .ok (.aload_n 0, 1) := dr9 dk9_dX2_tell_0_0.1 6 (36, .aload_n 0, 1) rfl
theorem dX2_tell_37 : decode cX2_tell 37 = .ok (.getfield 9, 3) := dr9 dk9_dX2_tell_0_0.1 7 (37, .getfield 9, 3) rfl
theorem dX2_tell_40 : decode cX2_tell 40 = .ok (.iload_n 1, 1) := dr9 dk9_dX2_tell_0_0.1 8 (40, .iload_n 1, 1) rfl
theorem dX2_tell_41 : decode cX2_tell 41 = .ok (.iaload, 1) := dr9 dk9_dX2_tell_0_0.1 9 (41, .iaload, 1) rfl
theorem dX2_tell_42 : decode cX2_tell 42 = .ok (.ireturn, 1) := dr9 dk9_dX2_tell_0_0.1 10 (42, .ireturn, 1) rfl
theorem dX2_tell_43 : decode cX2_tell 43 = .ok (.aload_n 0, 1) := dr9 dk9_dX2_tell_0_0.1 11 (43, .aload_n 0, 1) rfl
theorem dX2_tell_44 : decode cX2_tell 44 = .ok (.getfield 15, 3) := dr9 dk9_dX2_tell_0_0.1 12 (44, .getfield 15, 3) rfl
theorem dX2_tell_47 : decode cX2_tell 47 = .ok (.iload_n 1, 1) := dr9 dk9_dX2_tell_0_0.1 13 (47, .iload_n 1, 1) rfl
theorem dX2_tell_48 : decode cX2_tell 48 = .ok (.iaload, 1) := dr9 dk9_dX2_tell_0_0.1 14 (48, .iaload, 1) rfl
theorem dX2_tell_49 : decode cX2_tell 49 = .ok (.ireturn, 1) := dr9 dk9_dX2_tell_0_0.1 15 (49, .ireturn, 1) rfl
theorem dX2_tell_50 : decode cX2_tell 50 = .ok (.aload_n 0, 1) := dr9 dk9_dX2_tell_0_0.1 16 (50, .aload_n 0, 1) rfl
theorem dX2_tell_51 : decode cX2_tell 51 = .ok (.getfield 18, 3) := dr9 dk9_dX2_tell_0_0.1 17 (51, .getfield 18, 3) rfl
theorem dX2_tell_54 : decode cX2_tell 54 = .ok (.iload_n 1, 1) := dr9 dk9_dX2_tell_0_0.1 18 (54, .iload_n 1, 1) rfl
theorem dX2_tell_55 : decode cX2_tell 55 = .ok (.iaload, 1) := dr9 dk9_dX2_tell_0_0.1 19 (55, .iaload, 1) rfl
theorem dX2_tell_56 : decode cX2_tell 56 = .ok (.ireturn, 1) := dr9 dk9_dX2_tell_0_0.1 20 (56, .ireturn, 1) rfl
theorem dX2_tell_57 : decode cX2_tell 57 = .ok (.iconst (-1), 1) := dr9 dk9_dX2_tell_0_0.1 21 (57, .iconst (-1), 1) rfl
theorem dX2_tell_58 : decode cX2_tell 58 = .ok (.ireturn, 1) := dr9 dk9_dX2_tell_0_0.1 22 (58, .ireturn, 1) rfl
theorem dX2_tell_8 : decode cX2_tell 8 = .ok (.iconst (-1), 1) := dr9 dk9_dX2_tell_0_0.1 23 (8, .iconst (-1), 1) rfl
theorem dX2_tell_9 : decode cX2_tell 9 = .ok (.ireturn, 1) := dr9 dk9_dX2_tell_0_0.2 0 (9, .ireturn, 1) rfl
theorem dk9_dX2_onRing_0_0 : dOk cX2_onRing [(0, .aload_n 0, 1), (1, .iload_n 1, 1), (2, .invokevirtual 109, 3), (5, .ifCond .eq 17, 3), (22, .iconst 0, 1), (23, .istore_n 3, 1), (24, .iload_n 3, 1), (25, .ifCond .eq 31, 3), (56, .iconst (-1), 1), (57, .ireturn, 1), (8, .aload_n 0, 1), (9, .getfield 9, 3), (12, .iload_n 1, 1), (13, .iaload, 1), (14, .iconst 3, 1), (15, .if_icmp .ne 7, 3), (18, .iconst 1, 1), (19, .goto 4, 3), (28, .iload_n 2, 1), (29, .ifCond .lt 27, 3), (32, .iload_n 2, 1), (33, .aload_n 0, 1), (34, .getfield 18, 3), (37, .iload_n 1, 1)] = true ∧ dOk cX2_onRing [(38, .iaload, 1), (39, .if_icmp .ge 17, 3), (42, .aload_n 0, 1), (43, .getfield 21, 3), (46, .iload_n 1, 1), (47, .bipush 24, 2), (49, .imul, 1), (50, .iload_n 2, 1), (51, .iadd, 1), (52, .iaload, 1), (53, .goto 4, 3)] = true := by decide +kernel
theorem dX2_onRing_0 : decode cX2_onRing 0 = .ok (.aload_n 0, 1) := dr9 dk9_dX2_onRing_0_0.1 0 (0, .aload_n 0, 1) rfl
theorem dX2_onRing_1 : decode cX2_onRing 1 = .ok (.iload_n 1, 1) := dr9 dk9_dX2_onRing_0_0.1 1 (1, .iload_n 1, 1) rfl
theorem dX2_onRing_2 : decode cX2_onRing 2 = .ok (.invokevirtual 109, 3) := dr9 dk9_dX2_onRing_0_0.1 2 (2, .invokevirtual 109, 3) rfl
theorem dX2_onRing_5 : decode cX2_onRing 5 = .ok (.ifCond .eq 17, 3) := dr9 dk9_dX2_onRing_0_0.1 3 (5, .ifCond .eq 17, 3) rfl
theorem dX2_onRing_22 : decode cX2_onRing 22 = .ok (.iconst 0, 1) := dr9 dk9_dX2_onRing_0_0.1 4 (22, .iconst 0, 1) rfl
theorem dX2_onRing_23 : decode cX2_onRing 23 = .ok (.istore_n 3, 1) := dr9 dk9_dX2_onRing_0_0.1 5 (23, .istore_n 3, 1) rfl
theorem dX2_onRing_24 : decode cX2_onRing 24 = .ok (.iload_n 3, 1) := dr9 dk9_dX2_onRing_0_0.1 6 (24, .iload_n 3, 1) rfl
theorem dX2_onRing_25 : decode cX2_onRing 25 = .ok (.ifCond .eq 31, 3) := dr9 dk9_dX2_onRing_0_0.1 7 (25, .ifCond .eq 31, 3) rfl
theorem dX2_onRing_56 : decode cX2_onRing 56 = .ok (.iconst (-1), 1) := dr9 dk9_dX2_onRing_0_0.1 8 (56, .iconst (-1), 1) rfl
theorem dX2_onRing_57 : decode cX2_onRing 57 = .ok (.ireturn, 1) := dr9 dk9_dX2_onRing_0_0.1 9 (57, .ireturn, 1) rfl
theorem dX2_onRing_8 : decode cX2_onRing 8 = .ok (.aload_n 0, 1) := dr9 dk9_dX2_onRing_0_0.1 10 (8, .aload_n 0, 1) rfl
theorem dX2_onRing_9 : decode cX2_onRing 9 = .ok (.getfield 9, 3) := dr9 dk9_dX2_onRing_0_0.1 11 (9, .getfield 9, 3) rfl
theorem dX2_onRing_12 : decode cX2_onRing 12 = .ok (.iload_n 1, 1) := dr9 dk9_dX2_onRing_0_0.1 12 (12, .iload_n 1, 1) rfl
theorem dX2_onRing_13 : decode cX2_onRing 13 = .ok (.iaload, 1) := dr9 dk9_dX2_onRing_0_0.1 13 (13, .iaload, 1) rfl
theorem dX2_onRing_14 : decode cX2_onRing 14 = .ok (.iconst 3, 1) := dr9 dk9_dX2_onRing_0_0.1 14 (14, .iconst 3, 1) rfl
theorem dX2_onRing_15 : decode cX2_onRing 15 = .ok (.if_icmp .ne 7, 3) := dr9 dk9_dX2_onRing_0_0.1 15 (15, .if_icmp .ne 7, 3) rfl
theorem dX2_onRing_18 : decode cX2_onRing 18 = .ok (.iconst 1, 1) := dr9 dk9_dX2_onRing_0_0.1 16 (18, .iconst 1, 1) rfl
theorem dX2_onRing_19 : decode cX2_onRing 19 = .ok (.goto 4, 3) := dr9 dk9_dX2_onRing_0_0.1 17 (19, .goto 4, 3) rfl
theorem dX2_onRing_28 : decode cX2_onRing 28 = .ok (.iload_n 2, 1) := dr9 dk9_dX2_onRing_0_0.1 18 (28, .iload_n 2, 1) rfl
theorem dX2_onRing_29 : decode cX2_onRing 29 = .ok (.ifCond .lt 27, 3) := dr9 dk9_dX2_onRing_0_0.1 19 (29, .ifCond .lt 27, 3) rfl
theorem dX2_onRing_32 : decode cX2_onRing 32 = .ok (.iload_n 2, 1) := dr9 dk9_dX2_onRing_0_0.1 20 (32, .iload_n 2, 1) rfl
theorem dX2_onRing_33 : decode cX2_onRing 33 = .ok (.aload_n 0, 1) := dr9 dk9_dX2_onRing_0_0.1 21 (33, .aload_n 0, 1) rfl
theorem dX2_onRing_34 : decode cX2_onRing 34 = .ok (.getfield 18, 3) := dr9 dk9_dX2_onRing_0_0.1 22 (34, .getfield 18, 3) rfl
theorem dX2_onRing_37 : decode cX2_onRing 37 = .ok (.iload_n 1, 1) := dr9 dk9_dX2_onRing_0_0.1 23 (37, .iload_n 1, 1) rfl
theorem dX2_onRing_38 : decode cX2_onRing 38 = .ok (.iaload, 1) := dr9 dk9_dX2_onRing_0_0.2 0 (38, .iaload, 1) rfl
theorem dX2_onRing_39 : decode cX2_onRing 39 = .ok (.if_icmp .ge 17, 3) := dr9 dk9_dX2_onRing_0_0.2 1 (39, .if_icmp .ge 17, 3) rfl
theorem dX2_onRing_42 : decode cX2_onRing 42 = .ok (.aload_n 0, 1) := dr9 dk9_dX2_onRing_0_0.2 2 (42, .aload_n 0, 1) rfl
theorem dX2_onRing_43 : decode cX2_onRing 43 = .ok (.getfield 21, 3) := dr9 dk9_dX2_onRing_0_0.2 3 (43, .getfield 21, 3) rfl
theorem dX2_onRing_46 : decode cX2_onRing 46 = .ok (.iload_n 1, 1) := dr9 dk9_dX2_onRing_0_0.2 4 (46, .iload_n 1, 1) rfl
theorem dX2_onRing_47 : decode cX2_onRing 47 = .ok (.bipush 24, 2) := dr9 dk9_dX2_onRing_0_0.2 5 (47, .bipush 24, 2) rfl
theorem dX2_onRing_49 : decode cX2_onRing 49 = .ok (.imul, 1) := dr9 dk9_dX2_onRing_0_0.2 6 (49, .imul, 1) rfl
theorem dX2_onRing_50 : decode cX2_onRing 50 = .ok (.iload_n 2, 1) := dr9 dk9_dX2_onRing_0_0.2 7 (50, .iload_n 2, 1) rfl
theorem dX2_onRing_51 : decode cX2_onRing 51 = .ok (.iadd, 1) := dr9 dk9_dX2_onRing_0_0.2 8 (51, .iadd, 1) rfl
theorem dX2_onRing_52 : decode cX2_onRing 52 = .ok (.iaload, 1) := dr9 dk9_dX2_onRing_0_0.2 9 (52, .iaload, 1) rfl
theorem dX2_onRing_53 : decode cX2_onRing 53 = .ok (.goto 4, 3) := dr9 dk9_dX2_onRing_0_0.2 10 (53, .goto 4, 3) rfl
theorem dk9_dX2_noteRing_0_0 : dOk cX2_noteRing [(0, .aload_n 0, 1), (1, .getfield 30, 3), (4, .bipush 100, 2), (6, .if_icmp .ge 38, 3), (44, .aload_n 0, 1), (45, .iconst 3, 1), (46, .aload_n 0, 1), (47, .getfield 24, 3), (50, .iload_n 1, 1), (51, .iaload, 1), (52, .iload_n 2, 1), (53, .iload_n 1, 1), (54, .isub, 1), (55, .iconst 1, 1), (56, .iadd, 1), (57, .invokevirtual 80, 3), (60, .return_, 1), (9, .iload_n 1, 1), (10, .istore_n 3, 1), (11, .iload_n 3, 1), (12, .iload_n 2, 1), (13, .if_icmp .gt 31, 3), (16, .aload_n 0, 1), (17, .getfield 21, 3)] = true ∧ dOk cX2_noteRing [(20, .aload_n 0, 1), (21, .getfield 30, 3), (24, .bipush 24, 2), (26, .imul, 1), (27, .iload_n 3, 1), (28, .iadd, 1), (29, .iload_n 1, 1), (30, .isub, 1), (31, .aload_n 0, 1), (32, .getfield 24, 3), (35, .iload_n 3, 1), (36, .iaload, 1), (37, .iastore, 1), (38, .iinc 3 1, 3), (41, .goto (-30), 3)] = true := by decide +kernel
theorem dX2_noteRing_0 : decode cX2_noteRing 0 = .ok (.aload_n 0, 1) := dr9 dk9_dX2_noteRing_0_0.1 0 (0, .aload_n 0, 1) rfl
theorem dX2_noteRing_1 : decode cX2_noteRing 1 = .ok (.getfield 30, 3) := dr9 dk9_dX2_noteRing_0_0.1 1 (1, .getfield 30, 3) rfl
theorem dX2_noteRing_4 : decode cX2_noteRing 4 = .ok (.bipush 100, 2) := dr9 dk9_dX2_noteRing_0_0.1 2 (4, .bipush 100, 2) rfl
theorem dX2_noteRing_6 : decode cX2_noteRing 6 = .ok (.if_icmp .ge 38, 3) := dr9 dk9_dX2_noteRing_0_0.1 3 (6, .if_icmp .ge 38, 3) rfl
theorem dX2_noteRing_44 : decode cX2_noteRing 44 = .ok (.aload_n 0, 1) := dr9 dk9_dX2_noteRing_0_0.1 4 (44, .aload_n 0, 1) rfl
theorem dX2_noteRing_45 : decode cX2_noteRing 45 = .ok (.iconst 3, 1) := dr9 dk9_dX2_noteRing_0_0.1 5 (45, .iconst 3, 1) rfl
theorem dX2_noteRing_46 : decode cX2_noteRing 46 = .ok (.aload_n 0, 1) := dr9 dk9_dX2_noteRing_0_0.1 6 (46, .aload_n 0, 1) rfl
theorem dX2_noteRing_47 : decode cX2_noteRing 47 = .ok (.getfield 24, 3) := dr9 dk9_dX2_noteRing_0_0.1 7 (47, .getfield 24, 3) rfl
theorem dX2_noteRing_50 : decode cX2_noteRing 50 = .ok (.iload_n 1, 1) := dr9 dk9_dX2_noteRing_0_0.1 8 (50, .iload_n 1, 1) rfl
theorem dX2_noteRing_51 : decode cX2_noteRing 51 = .ok (.iaload, 1) := dr9 dk9_dX2_noteRing_0_0.1 9 (51, .iaload, 1) rfl
theorem dX2_noteRing_52 : decode cX2_noteRing 52 = .ok (.iload_n 2, 1) := dr9 dk9_dX2_noteRing_0_0.1 10 (52, .iload_n 2, 1) rfl
theorem dX2_noteRing_53 : decode cX2_noteRing 53 = .ok (.iload_n 1, 1) := dr9 dk9_dX2_noteRing_0_0.1 11 (53, .iload_n 1, 1) rfl
theorem dX2_noteRing_54 : decode cX2_noteRing 54 = .ok (.isub, 1) := dr9 dk9_dX2_noteRing_0_0.1 12 (54, .isub, 1) rfl
theorem dX2_noteRing_55 : decode cX2_noteRing 55 = .ok (.iconst 1, 1) := dr9 dk9_dX2_noteRing_0_0.1 13 (55, .iconst 1, 1) rfl
theorem dX2_noteRing_56 : decode cX2_noteRing 56 = .ok (.iadd, 1) := dr9 dk9_dX2_noteRing_0_0.1 14 (56, .iadd, 1) rfl
theorem dX2_noteRing_57 : decode cX2_noteRing 57 = .ok (.invokevirtual 80, 3) := dr9 dk9_dX2_noteRing_0_0.1 15 (57, .invokevirtual 80, 3) rfl
theorem dX2_noteRing_60 : decode cX2_noteRing 60 = .ok (.return_, 1) := dr9 dk9_dX2_noteRing_0_0.1 16 (60, .return_, 1) rfl
theorem dX2_noteRing_9 : decode cX2_noteRing 9 = .ok (.iload_n 1, 1) := dr9 dk9_dX2_noteRing_0_0.1 17 (9, .iload_n 1, 1) rfl
theorem dX2_noteRing_10 : decode cX2_noteRing 10 = .ok (.istore_n 3, 1) := dr9 dk9_dX2_noteRing_0_0.1 18 (10, .istore_n 3, 1) rfl
theorem dX2_noteRing_11 : decode cX2_noteRing 11 = .ok (.iload_n 3, 1) := dr9 dk9_dX2_noteRing_0_0.1 19 (11, .iload_n 3, 1) rfl
theorem dX2_noteRing_12 : decode cX2_noteRing 12 = .ok (.iload_n 2, 1) := dr9 dk9_dX2_noteRing_0_0.1 20 (12, .iload_n 2, 1) rfl
theorem dX2_noteRing_13 : decode cX2_noteRing 13 = .ok (.if_icmp .gt 31, 3) := dr9 dk9_dX2_noteRing_0_0.1 21 (13, .if_icmp .gt 31, 3) rfl
theorem dX2_noteRing_16 : decode cX2_noteRing 16 = .ok (.aload_n 0, 1) := dr9 dk9_dX2_noteRing_0_0.1 22 (16, .aload_n 0, 1) rfl
theorem dX2_noteRing_17 : decode cX2_noteRing 17 = .ok (.getfield 21, 3) := dr9 dk9_dX2_noteRing_0_0.1 23 (17, .getfield 21, 3) rfl
theorem dX2_noteRing_20 : decode cX2_noteRing 20 = .ok (.aload_n 0, 1) := dr9 dk9_dX2_noteRing_0_0.2 0 (20, .aload_n 0, 1) rfl
theorem dX2_noteRing_21 : decode cX2_noteRing 21 = .ok (.getfield 30, 3) := dr9 dk9_dX2_noteRing_0_0.2 1 (21, .getfield 30, 3) rfl
theorem dX2_noteRing_24 : decode cX2_noteRing 24 = .ok (.bipush 24, 2) := dr9 dk9_dX2_noteRing_0_0.2 2 (24, .bipush 24, 2) rfl
theorem dX2_noteRing_26 : decode cX2_noteRing 26 = .ok (.imul, 1) := dr9 dk9_dX2_noteRing_0_0.2 3 (26, .imul, 1) rfl
theorem dX2_noteRing_27 : decode cX2_noteRing 27 = .ok (.iload_n 3, 1) := dr9 dk9_dX2_noteRing_0_0.2 4 (27, .iload_n 3, 1) rfl
theorem dX2_noteRing_28 : decode cX2_noteRing 28 = .ok (.iadd, 1) := dr9 dk9_dX2_noteRing_0_0.2 5 (28, .iadd, 1) rfl
theorem dX2_noteRing_29 : decode cX2_noteRing 29 = .ok (.iload_n 1, 1) := dr9 dk9_dX2_noteRing_0_0.2 6 (29, .iload_n 1, 1) rfl
theorem dX2_noteRing_30 : decode cX2_noteRing 30 = .ok (.isub, 1) := dr9 dk9_dX2_noteRing_0_0.2 7 (30, .isub, 1) rfl
theorem dX2_noteRing_31 : decode cX2_noteRing 31 = .ok (.aload_n 0, 1) := dr9 dk9_dX2_noteRing_0_0.2 8 (31, .aload_n 0, 1) rfl
theorem dX2_noteRing_32 : decode cX2_noteRing 32 = .ok (.getfield 24, 3) := dr9 dk9_dX2_noteRing_0_0.2 9 (32, .getfield 24, 3) rfl
theorem dX2_noteRing_35 : decode cX2_noteRing 35 = .ok (.iload_n 3, 1) := dr9 dk9_dX2_noteRing_0_0.2 10 (35, .iload_n 3, 1) rfl
theorem dX2_noteRing_36 : decode cX2_noteRing 36 = .ok (.iaload, 1) := dr9 dk9_dX2_noteRing_0_0.2 11 (36, .iaload, 1) rfl
theorem dX2_noteRing_37 : decode cX2_noteRing 37 = .ok (.iastore, 1) := dr9 dk9_dX2_noteRing_0_0.2 12 (37, .iastore, 1) rfl
theorem dX2_noteRing_38 : decode cX2_noteRing 38 = .ok (.iinc 3 1, 3) := dr9 dk9_dX2_noteRing_0_0.2 13 (38, .iinc 3 1, 3) rfl
theorem dX2_noteRing_41 : decode cX2_noteRing 41 = .ok (.goto (-30), 3) := dr9 dk9_dX2_noteRing_0_0.2 14 (41, .goto (-30), 3) rfl
theorem dk9_dX2_hasShorter_0_0 : dOk cX2_hasShorter [(0, .iload_n 2, 1), (1, .iconst 3, 1), (2, .if_icmp .ne 7, 3), (9, .iload_n 2, 1), (10, .istore_n 3, 1), (11, .iconst 0, 1), (12, .istore 4, 2), (14, .iload 4, 2), (16, .aload_n 0, 1), (17, .getfield 34, 3), (20, .getfield 38, 3), (23, .getfield 44, 3), (26, .if_icmp .ge 47, 3), (73, .iconst 0, 1), (74, .ireturn, 1), (29, .aload_n 0, 1), (30, .getfield 34, 3), (33, .getfield 67, 3), (36, .iload 4, 2), (38, .aaload, 1), (39, .getfield 96, 3), (42, .istore 5, 2), (44, .iload_n 1, 1), (45, .iload 4, 2)] = true ∧ dOk cX2_hasShorter [(47, .ishr, 1), (48, .iconst 1, 1), (49, .iand, 1), (50, .ifCond .eq 17, 3), (67, .iinc 4 1, 3), (70, .goto (-56), 3), (53, .iload 5, 2), (55, .iconst 3, 1), (56, .if_icmp .eq 11, 3), (59, .iload 5, 2), (61, .iload_n 3, 1), (62, .if_icmp .le 5, 3), (65, .iconst 1, 1), (66, .ireturn, 1), (5, .iconst 2, 1), (6, .goto 4, 3)] = true := by decide +kernel
theorem dX2_hasShorter_0 : decode cX2_hasShorter 0 = .ok (.iload_n 2, 1) := dr9 dk9_dX2_hasShorter_0_0.1 0 (0, .iload_n 2, 1) rfl
theorem dX2_hasShorter_1 : decode cX2_hasShorter 1 = .ok (.iconst 3, 1) := dr9 dk9_dX2_hasShorter_0_0.1 1 (1, .iconst 3, 1) rfl
theorem dX2_hasShorter_2 : decode cX2_hasShorter 2 = .ok (.if_icmp .ne 7, 3) := dr9 dk9_dX2_hasShorter_0_0.1 2 (2, .if_icmp .ne 7, 3) rfl
theorem dX2_hasShorter_9 : decode cX2_hasShorter 9 = .ok (.iload_n 2, 1) := dr9 dk9_dX2_hasShorter_0_0.1 3 (9, .iload_n 2, 1) rfl
theorem dX2_hasShorter_10 : decode cX2_hasShorter 10 = .ok (.istore_n 3, 1) := dr9 dk9_dX2_hasShorter_0_0.1 4 (10, .istore_n 3, 1) rfl
theorem dX2_hasShorter_11 : decode cX2_hasShorter 11 = .ok (.iconst 0, 1) := dr9 dk9_dX2_hasShorter_0_0.1 5 (11, .iconst 0, 1) rfl
theorem dX2_hasShorter_12 : decode cX2_hasShorter 12 = .ok (.istore 4, 2) := dr9 dk9_dX2_hasShorter_0_0.1 6 (12, .istore 4, 2) rfl
theorem dX2_hasShorter_14 : decode cX2_hasShorter 14 = .ok (.iload 4, 2) := dr9 dk9_dX2_hasShorter_0_0.1 7 (14, .iload 4, 2) rfl
theorem dX2_hasShorter_16 : decode cX2_hasShorter 16 = .ok (.aload_n 0, 1) := dr9 dk9_dX2_hasShorter_0_0.1 8 (16, .aload_n 0, 1) rfl
theorem dX2_hasShorter_17 : decode cX2_hasShorter 17 = .ok (.getfield 34, 3) := dr9 dk9_dX2_hasShorter_0_0.1 9 (17, .getfield 34, 3) rfl
theorem dX2_hasShorter_20 : decode cX2_hasShorter 20 = .ok (.getfield 38, 3) := dr9 dk9_dX2_hasShorter_0_0.1 10 (20, .getfield 38, 3) rfl
theorem dX2_hasShorter_23 : decode cX2_hasShorter 23 = .ok (.getfield 44, 3) := dr9 dk9_dX2_hasShorter_0_0.1 11 (23, .getfield 44, 3) rfl
theorem dX2_hasShorter_26 : decode cX2_hasShorter 26 = .ok (.if_icmp .ge 47, 3) := dr9 dk9_dX2_hasShorter_0_0.1 12 (26, .if_icmp .ge 47, 3) rfl
theorem dX2_hasShorter_73 : decode cX2_hasShorter 73 = .ok (.iconst 0, 1) := dr9 dk9_dX2_hasShorter_0_0.1 13 (73, .iconst 0, 1) rfl
theorem dX2_hasShorter_74 : decode cX2_hasShorter 74 = .ok (.ireturn, 1) := dr9 dk9_dX2_hasShorter_0_0.1 14 (74, .ireturn, 1) rfl
theorem dX2_hasShorter_29 : decode cX2_hasShorter 29 = .ok (.aload_n 0, 1) := dr9 dk9_dX2_hasShorter_0_0.1 15 (29, .aload_n 0, 1) rfl
theorem dX2_hasShorter_30 : decode cX2_hasShorter 30 = .ok (.getfield 34, 3) := dr9 dk9_dX2_hasShorter_0_0.1 16 (30, .getfield 34, 3) rfl
theorem dX2_hasShorter_33 : decode cX2_hasShorter 33 = .ok (.getfield 67, 3) := dr9 dk9_dX2_hasShorter_0_0.1 17 (33, .getfield 67, 3) rfl
theorem dX2_hasShorter_36 : decode cX2_hasShorter 36 = .ok (.iload 4, 2) := dr9 dk9_dX2_hasShorter_0_0.1 18 (36, .iload 4, 2) rfl
theorem dX2_hasShorter_38 : decode cX2_hasShorter 38 = .ok (.aaload, 1) := dr9 dk9_dX2_hasShorter_0_0.1 19 (38, .aaload, 1) rfl
theorem dX2_hasShorter_39 : decode cX2_hasShorter 39 = .ok (.getfield 96, 3) := dr9 dk9_dX2_hasShorter_0_0.1 20 (39, .getfield 96, 3) rfl
theorem dX2_hasShorter_42 : decode cX2_hasShorter 42 = .ok (.istore 5, 2) := dr9 dk9_dX2_hasShorter_0_0.1 21 (42, .istore 5, 2) rfl
theorem dX2_hasShorter_44 : decode cX2_hasShorter 44 = .ok (.iload_n 1, 1) := dr9 dk9_dX2_hasShorter_0_0.1 22 (44, .iload_n 1, 1) rfl
theorem dX2_hasShorter_45 : decode cX2_hasShorter 45 = .ok (.iload 4, 2) := dr9 dk9_dX2_hasShorter_0_0.1 23 (45, .iload 4, 2) rfl
theorem dX2_hasShorter_47 : decode cX2_hasShorter 47 = .ok (.ishr, 1) := dr9 dk9_dX2_hasShorter_0_0.2 0 (47, .ishr, 1) rfl
theorem dX2_hasShorter_48 : decode cX2_hasShorter 48 = .ok (.iconst 1, 1) := dr9 dk9_dX2_hasShorter_0_0.2 1 (48, .iconst 1, 1) rfl
theorem dX2_hasShorter_49 : decode cX2_hasShorter 49 = .ok (.iand, 1) := dr9 dk9_dX2_hasShorter_0_0.2 2 (49, .iand, 1) rfl
theorem dX2_hasShorter_50 : decode cX2_hasShorter 50 = .ok (.ifCond .eq 17, 3) := dr9 dk9_dX2_hasShorter_0_0.2 3 (50, .ifCond .eq 17, 3) rfl
theorem dX2_hasShorter_67 : decode cX2_hasShorter 67 = .ok (.iinc 4 1, 3) := dr9 dk9_dX2_hasShorter_0_0.2 4 (67, .iinc 4 1, 3) rfl
theorem dX2_hasShorter_70 : decode cX2_hasShorter 70 = .ok (.goto (-56), 3) := dr9 dk9_dX2_hasShorter_0_0.2 5 (70, .goto (-56), 3) rfl
theorem dX2_hasShorter_53 : decode cX2_hasShorter 53 = .ok (.iload 5, 2) := dr9 dk9_dX2_hasShorter_0_0.2 6 (53, .iload 5, 2) rfl
theorem dX2_hasShorter_55 : decode cX2_hasShorter 55 = .ok (.iconst 3, 1) := dr9 dk9_dX2_hasShorter_0_0.2 7 (55, .iconst 3, 1) rfl
theorem dX2_hasShorter_56 : decode cX2_hasShorter 56 = .ok (.if_icmp .eq 11, 3) := dr9 dk9_dX2_hasShorter_0_0.2 8 (56, .if_icmp .eq 11, 3) rfl
theorem dX2_hasShorter_59 : decode cX2_hasShorter 59 = .ok (.iload 5, 2) := dr9 dk9_dX2_hasShorter_0_0.2 9 (59, .iload 5, 2) rfl
theorem dX2_hasShorter_61 : decode cX2_hasShorter 61 = .ok (.iload_n 3, 1) := dr9 dk9_dX2_hasShorter_0_0.2 10 (61, .iload_n 3, 1) rfl
theorem dX2_hasShorter_62 : decode cX2_hasShorter 62 = .ok (.if_icmp .le 5, 3) := dr9 dk9_dX2_hasShorter_0_0.2 11 (62, .if_icmp .le 5, 3) rfl
theorem dX2_hasShorter_65 : decode cX2_hasShorter 65 = .ok (.iconst 1, 1) := dr9 dk9_dX2_hasShorter_0_0.2 12 (65, .iconst 1, 1) rfl
theorem dX2_hasShorter_66 : decode cX2_hasShorter 66 = .ok (.ireturn, 1) := dr9 dk9_dX2_hasShorter_0_0.2 13 (66, .ireturn, 1) rfl
theorem dX2_hasShorter_5 : decode cX2_hasShorter 5 = .ok (.iconst 2, 1) := dr9 dk9_dX2_hasShorter_0_0.2 14 (5, .iconst 2, 1) rfl
theorem dX2_hasShorter_6 : decode cX2_hasShorter 6 = .ok (.goto 4, 3) := dr9 dk9_dX2_hasShorter_0_0.2 15 (6, .goto 4, 3) rfl
theorem dk9_dX2_faultOf_0_0 : dOk cX2_faultOf [(0, .aload_n 0, 1), (1, .getfield 34, 3), (4, .getfield 67, 3), (7, .iload_n 1, 1), (8, .aaload, 1), (9, .astore_n 3, 1), (10, .aload_n 3, 1), (11, .getfield 84, 3), (14, .iload_n 2, 1), (15, .iaload, 1), (16, .istore 4, 2), (18, .aload_n 0, 1), (19, .getfield 34, 3), (22, .iload_n 1, 1), (23, .iload_n 2, 1), (24, .invokevirtual 87, 3), (27, .istore 5, 2), (29, .iload 4, 2), (31, .iconst 2, 1), (32, .if_icmp .eq 10, 3), (42, .iload 4, 2), (44, .iconst 2, 1), (45, .if_icmp .eq 14, 3), (59, .iload 4, 2)] = true ∧ dOk cX2_faultOf [(61, .iconst 1, 1), (62, .if_icmp .eq 20, 3), (65, .aload_n 0, 1), (66, .iload 5, 2), (68, .aload_n 3, 1), (69, .getfield 96, 3), (72, .invokevirtual 99, 3), (75, .ifCond .eq 7, 3), (82, .iconst 0, 1), (83, .ireturn, 1), (78, .iconst 4, 1), (79, .goto 4, 3), (35, .iload 5, 2), (37, .ifCond .ne 5, 3), (48, .iload 5, 2), (50, .invokestatic 90, 3), (53, .iconst 1, 1), (54, .if_icmp .le 5, 3), (57, .iconst 2, 1), (58, .ireturn, 1), (40, .iconst 1, 1), (41, .ireturn, 1)] = true := by decide +kernel
theorem dX2_faultOf_0 : decode cX2_faultOf 0 = .ok (.aload_n 0, 1) := dr9 dk9_dX2_faultOf_0_0.1 0 (0, .aload_n 0, 1) rfl
theorem dX2_faultOf_1 : decode cX2_faultOf 1 = .ok (.getfield 34, 3) := dr9 dk9_dX2_faultOf_0_0.1 1 (1, .getfield 34, 3) rfl
theorem dX2_faultOf_4 : decode cX2_faultOf 4 = .ok (.getfield 67, 3) := dr9 dk9_dX2_faultOf_0_0.1 2 (4, .getfield 67, 3) rfl
theorem dX2_faultOf_7 : decode cX2_faultOf 7 = .ok (.iload_n 1, 1) := dr9 dk9_dX2_faultOf_0_0.1 3 (7, .iload_n 1, 1) rfl
theorem dX2_faultOf_8 : decode cX2_faultOf 8 = .ok (.aaload, 1) := dr9 dk9_dX2_faultOf_0_0.1 4 (8, .aaload, 1) rfl
theorem dX2_faultOf_9 : decode cX2_faultOf 9 = .ok (.astore_n 3, 1) := dr9 dk9_dX2_faultOf_0_0.1 5 (9, .astore_n 3, 1) rfl
theorem dX2_faultOf_10 : decode cX2_faultOf 10 = .ok (.aload_n 3, 1) := dr9 dk9_dX2_faultOf_0_0.1 6 (10, .aload_n 3, 1) rfl
theorem dX2_faultOf_11 : decode cX2_faultOf 11 = .ok (.getfield 84, 3) := dr9 dk9_dX2_faultOf_0_0.1 7 (11, .getfield 84, 3) rfl
theorem dX2_faultOf_14 : decode cX2_faultOf 14 = .ok (.iload_n 2, 1) := dr9 dk9_dX2_faultOf_0_0.1 8 (14, .iload_n 2, 1) rfl
theorem dX2_faultOf_15 : decode cX2_faultOf 15 = .ok (.iaload, 1) := dr9 dk9_dX2_faultOf_0_0.1 9 (15, .iaload, 1) rfl
theorem dX2_faultOf_16 : decode cX2_faultOf 16 = .ok (.istore 4, 2) := dr9 dk9_dX2_faultOf_0_0.1 10 (16, .istore 4, 2) rfl
theorem dX2_faultOf_18 : decode cX2_faultOf 18 = .ok (.aload_n 0, 1) := dr9 dk9_dX2_faultOf_0_0.1 11 (18, .aload_n 0, 1) rfl
theorem dX2_faultOf_19 : decode cX2_faultOf 19 = .ok (.getfield 34, 3) := dr9 dk9_dX2_faultOf_0_0.1 12 (19, .getfield 34, 3) rfl
theorem dX2_faultOf_22 : decode cX2_faultOf 22 = .ok (.iload_n 1, 1) := dr9 dk9_dX2_faultOf_0_0.1 13 (22, .iload_n 1, 1) rfl
theorem dX2_faultOf_23 : decode cX2_faultOf 23 = .ok (.iload_n 2, 1) := dr9 dk9_dX2_faultOf_0_0.1 14 (23, .iload_n 2, 1) rfl
theorem dX2_faultOf_24 : decode cX2_faultOf 24 = .ok (.invokevirtual 87, 3) := dr9 dk9_dX2_faultOf_0_0.1 15 (24, .invokevirtual 87, 3) rfl
theorem dX2_faultOf_27 : decode cX2_faultOf 27 = .ok (.istore 5, 2) := dr9 dk9_dX2_faultOf_0_0.1 16 (27, .istore 5, 2) rfl
theorem dX2_faultOf_29 : decode cX2_faultOf 29 = .ok (.iload 4, 2) := dr9 dk9_dX2_faultOf_0_0.1 17 (29, .iload 4, 2) rfl
theorem dX2_faultOf_31 : decode cX2_faultOf 31 = .ok (.iconst 2, 1) := dr9 dk9_dX2_faultOf_0_0.1 18 (31, .iconst 2, 1) rfl
theorem dX2_faultOf_32 : decode cX2_faultOf 32 = .ok (.if_icmp .eq 10, 3) := dr9 dk9_dX2_faultOf_0_0.1 19 (32, .if_icmp .eq 10, 3) rfl
theorem dX2_faultOf_42 : decode cX2_faultOf 42 = .ok (.iload 4, 2) := dr9 dk9_dX2_faultOf_0_0.1 20 (42, .iload 4, 2) rfl
theorem dX2_faultOf_44 : decode cX2_faultOf 44 = .ok (.iconst 2, 1) := dr9 dk9_dX2_faultOf_0_0.1 21 (44, .iconst 2, 1) rfl
theorem dX2_faultOf_45 : decode cX2_faultOf 45 = .ok (.if_icmp .eq 14, 3) := dr9 dk9_dX2_faultOf_0_0.1 22 (45, .if_icmp .eq 14, 3) rfl
theorem dX2_faultOf_59 : decode cX2_faultOf 59 = .ok (.iload 4, 2) := dr9 dk9_dX2_faultOf_0_0.1 23 (59, .iload 4, 2) rfl
theorem dX2_faultOf_61 : decode cX2_faultOf 61 = .ok (.iconst 1, 1) := dr9 dk9_dX2_faultOf_0_0.2 0 (61, .iconst 1, 1) rfl
theorem dX2_faultOf_62 : decode cX2_faultOf 62 = .ok (.if_icmp .eq 20, 3) := dr9 dk9_dX2_faultOf_0_0.2 1 (62, .if_icmp .eq 20, 3) rfl
theorem dX2_faultOf_65 : decode cX2_faultOf 65 = .ok (.aload_n 0, 1) := dr9 dk9_dX2_faultOf_0_0.2 2 (65, .aload_n 0, 1) rfl
theorem dX2_faultOf_66 : decode cX2_faultOf 66 = .ok (.iload 5, 2) := dr9 dk9_dX2_faultOf_0_0.2 3 (66, .iload 5, 2) rfl
theorem dX2_faultOf_68 : decode cX2_faultOf 68 = .ok (.aload_n 3, 1) := dr9 dk9_dX2_faultOf_0_0.2 4 (68, .aload_n 3, 1) rfl
theorem dX2_faultOf_69 : decode cX2_faultOf 69 = .ok (.getfield 96, 3) := dr9 dk9_dX2_faultOf_0_0.2 5 (69, .getfield 96, 3) rfl
theorem dX2_faultOf_72 : decode cX2_faultOf 72 = .ok (.invokevirtual 99, 3) := dr9 dk9_dX2_faultOf_0_0.2 6 (72, .invokevirtual 99, 3) rfl
theorem dX2_faultOf_75 : decode cX2_faultOf 75 = .ok (.ifCond .eq 7, 3) := dr9 dk9_dX2_faultOf_0_0.2 7 (75, .ifCond .eq 7, 3) rfl
theorem dX2_faultOf_82 : decode cX2_faultOf 82 = .ok (.iconst 0, 1) := dr9 dk9_dX2_faultOf_0_0.2 8 (82, .iconst 0, 1) rfl
theorem dX2_faultOf_83 : decode cX2_faultOf 83 = .ok (.ireturn, 1) := dr9 dk9_dX2_faultOf_0_0.2 9 (83, .ireturn, 1) rfl
theorem dX2_faultOf_78 : decode cX2_faultOf 78 = .ok (.iconst 4, 1) := dr9 dk9_dX2_faultOf_0_0.2 10 (78, .iconst 4, 1) rfl
theorem dX2_faultOf_79 : decode cX2_faultOf 79 = .ok (.goto 4, 3) := dr9 dk9_dX2_faultOf_0_0.2 11 (79, .goto 4, 3) rfl
theorem dX2_faultOf_35 : decode cX2_faultOf 35 = .ok (.iload 5, 2) := dr9 dk9_dX2_faultOf_0_0.2 12 (35, .iload 5, 2) rfl
theorem dX2_faultOf_37 : decode cX2_faultOf 37 = .ok (.ifCond .ne 5, 3) := dr9 dk9_dX2_faultOf_0_0.2 13 (37, .ifCond .ne 5, 3) rfl
theorem dX2_faultOf_48 : decode cX2_faultOf 48 = .ok (.iload 5, 2) := dr9 dk9_dX2_faultOf_0_0.2 14 (48, .iload 5, 2) rfl
theorem dX2_faultOf_50 : decode cX2_faultOf 50 = .ok (.invokestatic 90, 3) := dr9 dk9_dX2_faultOf_0_0.2 15 (50, .invokestatic 90, 3) rfl
theorem dX2_faultOf_53 : decode cX2_faultOf 53 = .ok (.iconst 1, 1) := dr9 dk9_dX2_faultOf_0_0.2 16 (53, .iconst 1, 1) rfl
theorem dX2_faultOf_54 : decode cX2_faultOf 54 = .ok (.if_icmp .le 5, 3) := dr9 dk9_dX2_faultOf_0_0.2 17 (54, .if_icmp .le 5, 3) rfl
theorem dX2_faultOf_57 : decode cX2_faultOf 57 = .ok (.iconst 2, 1) := dr9 dk9_dX2_faultOf_0_0.2 18 (57, .iconst 2, 1) rfl
theorem dX2_faultOf_58 : decode cX2_faultOf 58 = .ok (.ireturn, 1) := dr9 dk9_dX2_faultOf_0_0.2 19 (58, .ireturn, 1) rfl
theorem dX2_faultOf_40 : decode cX2_faultOf 40 = .ok (.iconst 1, 1) := dr9 dk9_dX2_faultOf_0_0.2 20 (40, .iconst 1, 1) rfl
theorem dX2_faultOf_41 : decode cX2_faultOf 41 = .ok (.ireturn, 1) := dr9 dk9_dX2_faultOf_0_0.2 21 (41, .ireturn, 1) rfl
theorem dk9_dX2_examineNeeds_0_0 : dOk cX2_examineNeeds [(0, .iconst 0, 1), (1, .istore_n 2, 1), (2, .iload_n 2, 1), (3, .aload_n 0, 1), (4, .getfield 34, 3), (7, .getfield 67, 3), (10, .iload_n 1, 1), (11, .aaload, 1), (12, .getfield 71, 3), (15, .if_icmp .ge 27, 3), (42, .return_, 1), (18, .aload_n 0, 1), (19, .iload_n 1, 1), (20, .iload_n 2, 1), (21, .invokevirtual 76, 3), (24, .istore_n 3, 1), (25, .iload_n 3, 1), (26, .ifCond .eq 10, 3), (36, .iinc 2 1, 3), (39, .goto (-37), 3), (29, .aload_n 0, 1), (30, .iload_n 3, 1), (31, .iload_n 1, 1), (32, .iload_n 2, 1)] = true ∧ dOk cX2_examineNeeds [(33, .invokevirtual 80, 3)] = true := by decide +kernel
theorem dX2_examineNeeds_0 : decode cX2_examineNeeds 0 = .ok (.iconst 0, 1) := dr9 dk9_dX2_examineNeeds_0_0.1 0 (0, .iconst 0, 1) rfl
theorem dX2_examineNeeds_1 : decode cX2_examineNeeds 1 = .ok (.istore_n 2, 1) := dr9 dk9_dX2_examineNeeds_0_0.1 1 (1, .istore_n 2, 1) rfl
theorem dX2_examineNeeds_2 : decode cX2_examineNeeds 2 = .ok (.iload_n 2, 1) := dr9 dk9_dX2_examineNeeds_0_0.1 2 (2, .iload_n 2, 1) rfl
theorem dX2_examineNeeds_3 : decode cX2_examineNeeds 3 = .ok (.aload_n 0, 1) := dr9 dk9_dX2_examineNeeds_0_0.1 3 (3, .aload_n 0, 1) rfl
theorem dX2_examineNeeds_4 : decode cX2_examineNeeds 4 = .ok (.getfield 34, 3) := dr9 dk9_dX2_examineNeeds_0_0.1 4 (4, .getfield 34, 3) rfl
theorem dX2_examineNeeds_7 : decode cX2_examineNeeds 7 = .ok (.getfield 67, 3) := dr9 dk9_dX2_examineNeeds_0_0.1 5 (7, .getfield 67, 3) rfl
theorem dX2_examineNeeds_10 : decode cX2_examineNeeds 10 = .ok (.iload_n 1, 1) := dr9 dk9_dX2_examineNeeds_0_0.1 6 (10, .iload_n 1, 1) rfl
theorem dX2_examineNeeds_11 : decode cX2_examineNeeds 11 = .ok (.aaload, 1) := dr9 dk9_dX2_examineNeeds_0_0.1 7 (11, .aaload, 1) rfl
theorem dX2_examineNeeds_12 : decode cX2_examineNeeds 12 = .ok (.getfield 71, 3) := dr9 dk9_dX2_examineNeeds_0_0.1 8 (12, .getfield 71, 3) rfl
theorem dX2_examineNeeds_15 : decode cX2_examineNeeds 15 = .ok (.if_icmp .ge 27, 3) := dr9 dk9_dX2_examineNeeds_0_0.1 9 (15, .if_icmp .ge 27, 3) rfl
theorem dX2_examineNeeds_42 : decode cX2_examineNeeds 42 = .ok (.return_, 1) := dr9 dk9_dX2_examineNeeds_0_0.1 10 (42, .return_, 1) rfl
theorem dX2_examineNeeds_18 : decode cX2_examineNeeds 18 = .ok (.aload_n 0, 1) := dr9 dk9_dX2_examineNeeds_0_0.1 11 (18, .aload_n 0, 1) rfl
theorem dX2_examineNeeds_19 : decode cX2_examineNeeds 19 = .ok (.iload_n 1, 1) := dr9 dk9_dX2_examineNeeds_0_0.1 12 (19, .iload_n 1, 1) rfl
theorem dX2_examineNeeds_20 : decode cX2_examineNeeds 20 = .ok (.iload_n 2, 1) := dr9 dk9_dX2_examineNeeds_0_0.1 13 (20, .iload_n 2, 1) rfl
theorem dX2_examineNeeds_21 : decode cX2_examineNeeds 21 = .ok (.invokevirtual 76, 3) := dr9 dk9_dX2_examineNeeds_0_0.1 14 (21, .invokevirtual 76, 3) rfl
theorem dX2_examineNeeds_24 : decode cX2_examineNeeds 24 = .ok (.istore_n 3, 1) := dr9 dk9_dX2_examineNeeds_0_0.1 15 (24, .istore_n 3, 1) rfl
theorem dX2_examineNeeds_25 : decode cX2_examineNeeds 25 = .ok (.iload_n 3, 1) := dr9 dk9_dX2_examineNeeds_0_0.1 16 (25, .iload_n 3, 1) rfl
theorem dX2_examineNeeds_26 : decode cX2_examineNeeds 26 = .ok (.ifCond .eq 10, 3) := dr9 dk9_dX2_examineNeeds_0_0.1 17 (26, .ifCond .eq 10, 3) rfl
theorem dX2_examineNeeds_36 : decode cX2_examineNeeds 36 = .ok (.iinc 2 1, 3) := dr9 dk9_dX2_examineNeeds_0_0.1 18 (36, .iinc 2 1, 3) rfl
theorem dX2_examineNeeds_39 : decode cX2_examineNeeds 39 = .ok (.goto (-37), 3) := dr9 dk9_dX2_examineNeeds_0_0.1 19 (39, .goto (-37), 3) rfl
theorem dX2_examineNeeds_29 : decode cX2_examineNeeds 29 = .ok (.aload_n 0, 1) := dr9 dk9_dX2_examineNeeds_0_0.1 20 (29, .aload_n 0, 1) rfl
theorem dX2_examineNeeds_30 : decode cX2_examineNeeds 30 = .ok (.iload_n 3, 1) := dr9 dk9_dX2_examineNeeds_0_0.1 21 (30, .iload_n 3, 1) rfl
theorem dX2_examineNeeds_31 : decode cX2_examineNeeds 31 = .ok (.iload_n 1, 1) := dr9 dk9_dX2_examineNeeds_0_0.1 22 (31, .iload_n 1, 1) rfl
theorem dX2_examineNeeds_32 : decode cX2_examineNeeds 32 = .ok (.iload_n 2, 1) := dr9 dk9_dX2_examineNeeds_0_0.1 23 (32, .iload_n 2, 1) rfl
theorem dX2_examineNeeds_33 : decode cX2_examineNeeds 33 = .ok (.invokevirtual 80, 3) := dr9 dk9_dX2_examineNeeds_0_0.2 0 (33, .invokevirtual 80, 3) rfl
theorem dk9_dX2_followed_0_0 : dOk cX2_followed [(0, .aload_n 0, 1), (1, .iload_n 1, 1), (2, .iload_n 2, 1), (3, .invokevirtual 76, 3), (6, .istore_n 3, 1), (7, .iload_n 3, 1), (8, .iconst 1, 1), (9, .if_icmp .eq 8, 3), (17, .iconst 0, 1), (18, .goto 12, 3), (30, .ireturn, 1), (12, .iload_n 3, 1), (13, .iconst 2, 1), (14, .if_icmp .ne 7, 3), (21, .aload_n 0, 1), (22, .getfield 34, 3), (25, .iload_n 1, 1), (26, .iload_n 2, 1), (27, .invokevirtual 87, 3)] = true := by decide +kernel
theorem dX2_followed_0 : decode cX2_followed 0 = .ok (.aload_n 0, 1) := dr9 dk9_dX2_followed_0_0 0 (0, .aload_n 0, 1) rfl
theorem dX2_followed_1 : decode cX2_followed 1 = .ok (.iload_n 1, 1) := dr9 dk9_dX2_followed_0_0 1 (1, .iload_n 1, 1) rfl
theorem dX2_followed_2 : decode cX2_followed 2 = .ok (.iload_n 2, 1) := dr9 dk9_dX2_followed_0_0 2 (2, .iload_n 2, 1) rfl
theorem dX2_followed_3 : decode cX2_followed 3 = .ok (.invokevirtual 76, 3) := dr9 dk9_dX2_followed_0_0 3 (3, .invokevirtual 76, 3) rfl
theorem dX2_followed_6 : decode cX2_followed 6 = .ok (.istore_n 3, 1) := dr9 dk9_dX2_followed_0_0 4 (6, .istore_n 3, 1) rfl
theorem dX2_followed_7 : decode cX2_followed 7 = .ok (.iload_n 3, 1) := dr9 dk9_dX2_followed_0_0 5 (7, .iload_n 3, 1) rfl
theorem dX2_followed_8 : decode cX2_followed 8 = .ok (.iconst 1, 1) := dr9 dk9_dX2_followed_0_0 6 (8, .iconst 1, 1) rfl
theorem dX2_followed_9 : decode cX2_followed 9 = .ok (.if_icmp .eq 8, 3) := dr9 dk9_dX2_followed_0_0 7 (9, .if_icmp .eq 8, 3) rfl
theorem dX2_followed_17 : decode cX2_followed 17 = .ok (.iconst 0, 1) := dr9 dk9_dX2_followed_0_0 8 (17, .iconst 0, 1) rfl
theorem dX2_followed_18 : decode cX2_followed 18 = .ok (.goto 12, 3) := dr9 dk9_dX2_followed_0_0 9 (18, .goto 12, 3) rfl
theorem dX2_followed_30 : decode cX2_followed 30 = .ok (.ireturn, 1) := dr9 dk9_dX2_followed_0_0 10 (30, .ireturn, 1) rfl
theorem dX2_followed_12 : decode cX2_followed 12 = .ok (.iload_n 3, 1) := dr9 dk9_dX2_followed_0_0 11 (12, .iload_n 3, 1) rfl
theorem dX2_followed_13 : decode cX2_followed 13 = .ok (.iconst 2, 1) := dr9 dk9_dX2_followed_0_0 12 (13, .iconst 2, 1) rfl
theorem dX2_followed_14 : decode cX2_followed 14 = .ok (.if_icmp .ne 7, 3) := dr9 dk9_dX2_followed_0_0 13 (14, .if_icmp .ne 7, 3) rfl
theorem dX2_followed_21 : decode cX2_followed 21 = .ok (.aload_n 0, 1) := dr9 dk9_dX2_followed_0_0 14 (21, .aload_n 0, 1) rfl
theorem dX2_followed_22 : decode cX2_followed 22 = .ok (.getfield 34, 3) := dr9 dk9_dX2_followed_0_0 15 (22, .getfield 34, 3) rfl
theorem dX2_followed_25 : decode cX2_followed 25 = .ok (.iload_n 1, 1) := dr9 dk9_dX2_followed_0_0 16 (25, .iload_n 1, 1) rfl
theorem dX2_followed_26 : decode cX2_followed 26 = .ok (.iload_n 2, 1) := dr9 dk9_dX2_followed_0_0 17 (26, .iload_n 2, 1) rfl
theorem dX2_followed_27 : decode cX2_followed 27 = .ok (.invokevirtual 87, 3) := dr9 dk9_dX2_followed_0_0 18 (27, .invokevirtual 87, 3) rfl
theorem dk9_dX2_follow_0_0 : dOk cX2_follow [(0, .iload_n 2, 1), (1, .bipush 24, 2), (3, .if_icmp .lt 4, 3), (7, .aload_n 0, 1), (8, .getfield 24, 3), (11, .iload_n 2, 1), (12, .iload_n 1, 1), (13, .iastore, 1), (14, .aload_n 0, 1), (15, .getfield 27, 3), (18, .iload_n 1, 1), (19, .iload_n 2, 1), (20, .iastore, 1), (21, .iconst 0, 1), (22, .istore_n 3, 1), (23, .iload_n 3, 1), (24, .aload_n 0, 1), (25, .getfield 34, 3), (28, .getfield 67, 3), (31, .iload_n 1, 1), (32, .aaload, 1), (33, .getfield 71, 3), (36, .if_icmp .ge 123, 3), (159, .aload_n 0, 1)] = true ∧ dOk cX2_follow [(160, .getfield 27, 3), (163, .iload_n 1, 1), (164, .bipush (-2), 2), (166, .iastore, 1), (167, .return_, 1), (39, .aload_n 0, 1), (40, .getfield 34, 3), (43, .getfield 67, 3), (46, .iload_n 1, 1), (47, .aaload, 1), (48, .getfield 84, 3), (51, .iload_n 3, 1), (52, .iaload, 1), (53, .iconst 1, 1), (54, .if_icmp .ne 7, 3), (61, .aload_n 0, 1), (62, .iload_n 1, 1), (63, .iload_n 3, 1), (64, .invokevirtual 103, 3), (67, .istore 4, 2), (69, .iconst 0, 1), (70, .istore 5, 2), (72, .iload 5, 2), (74, .aload_n 0, 1)] = true ∧ dOk cX2_follow [(75, .getfield 34, 3), (78, .getfield 38, 3), (81, .getfield 44, 3), (84, .if_icmp .ge 69, 3), (153, .iinc 3 1, 3), (156, .goto (-133), 3), (87, .iload 4, 2), (89, .iload 5, 2), (91, .ishr, 1), (92, .iconst 1, 1), (93, .iand, 1), (94, .ifCond .ne 6, 3), (100, .aload_n 0, 1), (101, .getfield 27, 3), (104, .iload 5, 2), (106, .iaload, 1), (107, .iconst (-1), 1), (108, .if_icmp .ne 15, 3), (123, .aload_n 0, 1), (124, .getfield 27, 3), (127, .iload 5, 2), (129, .iaload, 1), (130, .bipush (-2), 2), (132, .if_icmp .eq 15, 3)] = true ∧ dOk cX2_follow [(147, .iinc 5 1, 3), (150, .goto (-78), 3), (135, .aload_n 0, 1), (136, .aload_n 0, 1), (137, .getfield 27, 3), (140, .iload 5, 2), (142, .iaload, 1), (143, .iload_n 2, 1), (144, .invokevirtual 106, 3), (111, .aload_n 0, 1), (112, .iload 5, 2), (114, .iload_n 2, 1), (115, .iconst 1, 1), (116, .iadd, 1), (117, .invokevirtual 63, 3), (120, .goto 27, 3), (97, .goto 50, 3), (57, .iconst 0, 1), (58, .goto 9, 3), (6, .return_, 1)] = true := by decide +kernel
theorem dX2_follow_0 : decode cX2_follow 0 = .ok (.iload_n 2, 1) := dr9 dk9_dX2_follow_0_0.1 0 (0, .iload_n 2, 1) rfl
theorem dX2_follow_1 : decode cX2_follow 1 = .ok (.bipush 24, 2) := dr9 dk9_dX2_follow_0_0.1 1 (1, .bipush 24, 2) rfl
theorem dX2_follow_3 : decode cX2_follow 3 = .ok (.if_icmp .lt 4, 3) := dr9 dk9_dX2_follow_0_0.1 2 (3, .if_icmp .lt 4, 3) rfl
theorem dX2_follow_7 : decode cX2_follow 7 = .ok (.aload_n 0, 1) := dr9 dk9_dX2_follow_0_0.1 3 (7, .aload_n 0, 1) rfl
theorem dX2_follow_8 : decode cX2_follow 8 = .ok (.getfield 24, 3) := dr9 dk9_dX2_follow_0_0.1 4 (8, .getfield 24, 3) rfl
theorem dX2_follow_11 : decode cX2_follow 11 = .ok (.iload_n 2, 1) := dr9 dk9_dX2_follow_0_0.1 5 (11, .iload_n 2, 1) rfl
theorem dX2_follow_12 : decode cX2_follow 12 = .ok (.iload_n 1, 1) := dr9 dk9_dX2_follow_0_0.1 6 (12, .iload_n 1, 1) rfl
theorem dX2_follow_13 : decode cX2_follow 13 = .ok (.iastore, 1) := dr9 dk9_dX2_follow_0_0.1 7 (13, .iastore, 1) rfl
theorem dX2_follow_14 : decode cX2_follow 14 = .ok (.aload_n 0, 1) := dr9 dk9_dX2_follow_0_0.1 8 (14, .aload_n 0, 1) rfl
theorem dX2_follow_15 : decode cX2_follow 15 = .ok (.getfield 27, 3) := dr9 dk9_dX2_follow_0_0.1 9 (15, .getfield 27, 3) rfl
theorem dX2_follow_18 : decode cX2_follow 18 = .ok (.iload_n 1, 1) := dr9 dk9_dX2_follow_0_0.1 10 (18, .iload_n 1, 1) rfl
theorem dX2_follow_19 : decode cX2_follow 19 = .ok (.iload_n 2, 1) := dr9 dk9_dX2_follow_0_0.1 11 (19, .iload_n 2, 1) rfl
theorem dX2_follow_20 : decode cX2_follow 20 = .ok (.iastore, 1) := dr9 dk9_dX2_follow_0_0.1 12 (20, .iastore, 1) rfl
theorem dX2_follow_21 : decode cX2_follow 21 = .ok (.iconst 0, 1) := dr9 dk9_dX2_follow_0_0.1 13 (21, .iconst 0, 1) rfl
theorem dX2_follow_22 : decode cX2_follow 22 = .ok (.istore_n 3, 1) := dr9 dk9_dX2_follow_0_0.1 14 (22, .istore_n 3, 1) rfl
theorem dX2_follow_23 : decode cX2_follow 23 = .ok (.iload_n 3, 1) := dr9 dk9_dX2_follow_0_0.1 15 (23, .iload_n 3, 1) rfl
theorem dX2_follow_24 : decode cX2_follow 24 = .ok (.aload_n 0, 1) := dr9 dk9_dX2_follow_0_0.1 16 (24, .aload_n 0, 1) rfl
theorem dX2_follow_25 : decode cX2_follow 25 = .ok (.getfield 34, 3) := dr9 dk9_dX2_follow_0_0.1 17 (25, .getfield 34, 3) rfl
theorem dX2_follow_28 : decode cX2_follow 28 = .ok (.getfield 67, 3) := dr9 dk9_dX2_follow_0_0.1 18 (28, .getfield 67, 3) rfl
theorem dX2_follow_31 : decode cX2_follow 31 = .ok (.iload_n 1, 1) := dr9 dk9_dX2_follow_0_0.1 19 (31, .iload_n 1, 1) rfl
theorem dX2_follow_32 : decode cX2_follow 32 = .ok (.aaload, 1) := dr9 dk9_dX2_follow_0_0.1 20 (32, .aaload, 1) rfl
theorem dX2_follow_33 : decode cX2_follow 33 = .ok (.getfield 71, 3) := dr9 dk9_dX2_follow_0_0.1 21 (33, .getfield 71, 3) rfl
theorem dX2_follow_36 : decode cX2_follow 36 = .ok (.if_icmp .ge 123, 3) := dr9 dk9_dX2_follow_0_0.1 22 (36, .if_icmp .ge 123, 3) rfl
theorem dX2_follow_159 : decode cX2_follow 159 = .ok (.aload_n 0, 1) := dr9 dk9_dX2_follow_0_0.1 23 (159, .aload_n 0, 1) rfl
theorem dX2_follow_160 : decode cX2_follow 160 = .ok (.getfield 27, 3) := dr9 dk9_dX2_follow_0_0.2.1 0 (160, .getfield 27, 3) rfl
theorem dX2_follow_163 : decode cX2_follow 163 = .ok (.iload_n 1, 1) := dr9 dk9_dX2_follow_0_0.2.1 1 (163, .iload_n 1, 1) rfl
theorem dX2_follow_164 : decode cX2_follow 164 = .ok (.bipush (-2), 2) := dr9 dk9_dX2_follow_0_0.2.1 2 (164, .bipush (-2), 2) rfl
theorem dX2_follow_166 : decode cX2_follow 166 = .ok (.iastore, 1) := dr9 dk9_dX2_follow_0_0.2.1 3 (166, .iastore, 1) rfl
theorem dX2_follow_167 : decode cX2_follow 167 = .ok (.return_, 1) := dr9 dk9_dX2_follow_0_0.2.1 4 (167, .return_, 1) rfl
theorem dX2_follow_39 : decode cX2_follow 39 = .ok (.aload_n 0, 1) := dr9 dk9_dX2_follow_0_0.2.1 5 (39, .aload_n 0, 1) rfl
theorem dX2_follow_40 : decode cX2_follow 40 = .ok (.getfield 34, 3) := dr9 dk9_dX2_follow_0_0.2.1 6 (40, .getfield 34, 3) rfl
theorem dX2_follow_43 : decode cX2_follow 43 = .ok (.getfield 67, 3) := dr9 dk9_dX2_follow_0_0.2.1 7 (43, .getfield 67, 3) rfl
theorem dX2_follow_46 : decode cX2_follow 46 = .ok (.iload_n 1, 1) := dr9 dk9_dX2_follow_0_0.2.1 8 (46, .iload_n 1, 1) rfl
theorem dX2_follow_47 : decode cX2_follow 47 = .ok (.aaload, 1) := dr9 dk9_dX2_follow_0_0.2.1 9 (47, .aaload, 1) rfl
theorem dX2_follow_48 : decode cX2_follow 48 = .ok (.getfield 84, 3) := dr9 dk9_dX2_follow_0_0.2.1 10 (48, .getfield 84, 3) rfl
theorem dX2_follow_51 : decode cX2_follow 51 = .ok (.iload_n 3, 1) := dr9 dk9_dX2_follow_0_0.2.1 11 (51, .iload_n 3, 1) rfl
theorem dX2_follow_52 : decode cX2_follow 52 = .ok (.iaload, 1) := dr9 dk9_dX2_follow_0_0.2.1 12 (52, .iaload, 1) rfl
theorem dX2_follow_53 : decode cX2_follow 53 = .ok (.iconst 1, 1) := dr9 dk9_dX2_follow_0_0.2.1 13 (53, .iconst 1, 1) rfl
theorem dX2_follow_54 : decode cX2_follow 54 = .ok (.if_icmp .ne 7, 3) := dr9 dk9_dX2_follow_0_0.2.1 14 (54, .if_icmp .ne 7, 3) rfl
theorem dX2_follow_61 : decode cX2_follow 61 = .ok (.aload_n 0, 1) := dr9 dk9_dX2_follow_0_0.2.1 15 (61, .aload_n 0, 1) rfl
theorem dX2_follow_62 : decode cX2_follow 62 = .ok (.iload_n 1, 1) := dr9 dk9_dX2_follow_0_0.2.1 16 (62, .iload_n 1, 1) rfl
theorem dX2_follow_63 : decode cX2_follow 63 = .ok (.iload_n 3, 1) := dr9 dk9_dX2_follow_0_0.2.1 17 (63, .iload_n 3, 1) rfl
theorem dX2_follow_64 : decode cX2_follow 64 = .ok (.invokevirtual 103, 3) := dr9 dk9_dX2_follow_0_0.2.1 18 (64, .invokevirtual 103, 3) rfl
theorem dX2_follow_67 : decode cX2_follow 67 = .ok (.istore 4, 2) := dr9 dk9_dX2_follow_0_0.2.1 19 (67, .istore 4, 2) rfl
theorem dX2_follow_69 : decode cX2_follow 69 = .ok (.iconst 0, 1) := dr9 dk9_dX2_follow_0_0.2.1 20 (69, .iconst 0, 1) rfl
theorem dX2_follow_70 : decode cX2_follow 70 = .ok (.istore 5, 2) := dr9 dk9_dX2_follow_0_0.2.1 21 (70, .istore 5, 2) rfl
theorem dX2_follow_72 : decode cX2_follow 72 = .ok (.iload 5, 2) := dr9 dk9_dX2_follow_0_0.2.1 22 (72, .iload 5, 2) rfl
theorem dX2_follow_74 : decode cX2_follow 74 = .ok (.aload_n 0, 1) := dr9 dk9_dX2_follow_0_0.2.1 23 (74, .aload_n 0, 1) rfl
theorem dX2_follow_75 : decode cX2_follow 75 = .ok (.getfield 34, 3) := dr9 dk9_dX2_follow_0_0.2.2.1 0 (75, .getfield 34, 3) rfl
theorem dX2_follow_78 : decode cX2_follow 78 = .ok (.getfield 38, 3) := dr9 dk9_dX2_follow_0_0.2.2.1 1 (78, .getfield 38, 3) rfl
theorem dX2_follow_81 : decode cX2_follow 81 = .ok (.getfield 44, 3) := dr9 dk9_dX2_follow_0_0.2.2.1 2 (81, .getfield 44, 3) rfl
theorem dX2_follow_84 : decode cX2_follow 84 = .ok (.if_icmp .ge 69, 3) := dr9 dk9_dX2_follow_0_0.2.2.1 3 (84, .if_icmp .ge 69, 3) rfl
theorem dX2_follow_153 : decode cX2_follow 153 = .ok (.iinc 3 1, 3) := dr9 dk9_dX2_follow_0_0.2.2.1 4 (153, .iinc 3 1, 3) rfl
theorem dX2_follow_156 : decode cX2_follow 156 = .ok (.goto (-133), 3) := dr9 dk9_dX2_follow_0_0.2.2.1 5 (156, .goto (-133), 3) rfl
theorem dX2_follow_87 : decode cX2_follow 87 = .ok (.iload 4, 2) := dr9 dk9_dX2_follow_0_0.2.2.1 6 (87, .iload 4, 2) rfl
theorem dX2_follow_89 : decode cX2_follow 89 = .ok (.iload 5, 2) := dr9 dk9_dX2_follow_0_0.2.2.1 7 (89, .iload 5, 2) rfl
theorem dX2_follow_91 : decode cX2_follow 91 = .ok (.ishr, 1) := dr9 dk9_dX2_follow_0_0.2.2.1 8 (91, .ishr, 1) rfl
theorem dX2_follow_92 : decode cX2_follow 92 = .ok (.iconst 1, 1) := dr9 dk9_dX2_follow_0_0.2.2.1 9 (92, .iconst 1, 1) rfl
theorem dX2_follow_93 : decode cX2_follow 93 = .ok (.iand, 1) := dr9 dk9_dX2_follow_0_0.2.2.1 10 (93, .iand, 1) rfl
theorem dX2_follow_94 : decode cX2_follow 94 = .ok (.ifCond .ne 6, 3) := dr9 dk9_dX2_follow_0_0.2.2.1 11 (94, .ifCond .ne 6, 3) rfl
theorem dX2_follow_100 : decode cX2_follow 100 = .ok (.aload_n 0, 1) := dr9 dk9_dX2_follow_0_0.2.2.1 12 (100, .aload_n 0, 1) rfl
theorem dX2_follow_101 : decode cX2_follow 101 = .ok (.getfield 27, 3) := dr9 dk9_dX2_follow_0_0.2.2.1 13 (101, .getfield 27, 3) rfl
theorem dX2_follow_104 : decode cX2_follow 104 = .ok (.iload 5, 2) := dr9 dk9_dX2_follow_0_0.2.2.1 14 (104, .iload 5, 2) rfl
theorem dX2_follow_106 : decode cX2_follow 106 = .ok (.iaload, 1) := dr9 dk9_dX2_follow_0_0.2.2.1 15 (106, .iaload, 1) rfl
theorem dX2_follow_107 : decode cX2_follow 107 = .ok (.iconst (-1), 1) := dr9 dk9_dX2_follow_0_0.2.2.1 16 (107, .iconst (-1), 1) rfl
theorem dX2_follow_108 : decode cX2_follow 108 = .ok (.if_icmp .ne 15, 3) := dr9 dk9_dX2_follow_0_0.2.2.1 17 (108, .if_icmp .ne 15, 3) rfl
theorem dX2_follow_123 : decode cX2_follow 123 = .ok (.aload_n 0, 1) := dr9 dk9_dX2_follow_0_0.2.2.1 18 (123, .aload_n 0, 1) rfl
theorem dX2_follow_124 : decode cX2_follow 124 = .ok (.getfield 27, 3) := dr9 dk9_dX2_follow_0_0.2.2.1 19 (124, .getfield 27, 3) rfl
theorem dX2_follow_127 : decode cX2_follow 127 = .ok (.iload 5, 2) := dr9 dk9_dX2_follow_0_0.2.2.1 20 (127, .iload 5, 2) rfl
theorem dX2_follow_129 : decode cX2_follow 129 = .ok (.iaload, 1) := dr9 dk9_dX2_follow_0_0.2.2.1 21 (129, .iaload, 1) rfl
theorem dX2_follow_130 : decode cX2_follow 130 = .ok (.bipush (-2), 2) := dr9 dk9_dX2_follow_0_0.2.2.1 22 (130, .bipush (-2), 2) rfl
theorem dX2_follow_132 : decode cX2_follow 132 = .ok (.if_icmp .eq 15, 3) := dr9 dk9_dX2_follow_0_0.2.2.1 23 (132, .if_icmp .eq 15, 3) rfl
theorem dX2_follow_147 : decode cX2_follow 147 = .ok (.iinc 5 1, 3) := dr9 dk9_dX2_follow_0_0.2.2.2 0 (147, .iinc 5 1, 3) rfl
theorem dX2_follow_150 : decode cX2_follow 150 = .ok (.goto (-78), 3) := dr9 dk9_dX2_follow_0_0.2.2.2 1 (150, .goto (-78), 3) rfl
theorem dX2_follow_135 : decode cX2_follow 135 = .ok (.aload_n 0, 1) := dr9 dk9_dX2_follow_0_0.2.2.2 2 (135, .aload_n 0, 1) rfl
theorem dX2_follow_136 : decode cX2_follow 136 = .ok (.aload_n 0, 1) := dr9 dk9_dX2_follow_0_0.2.2.2 3 (136, .aload_n 0, 1) rfl
theorem dX2_follow_137 : decode cX2_follow 137 = .ok (.getfield 27, 3) := dr9 dk9_dX2_follow_0_0.2.2.2 4 (137, .getfield 27, 3) rfl
theorem dX2_follow_140 : decode cX2_follow 140 = .ok (.iload 5, 2) := dr9 dk9_dX2_follow_0_0.2.2.2 5 (140, .iload 5, 2) rfl
theorem dX2_follow_142 : decode cX2_follow 142 = .ok (.iaload, 1) := dr9 dk9_dX2_follow_0_0.2.2.2 6 (142, .iaload, 1) rfl
theorem dX2_follow_143 : decode cX2_follow 143 = .ok (.iload_n 2, 1) := dr9 dk9_dX2_follow_0_0.2.2.2 7 (143, .iload_n 2, 1) rfl
theorem dX2_follow_144 : decode cX2_follow 144 = .ok (.invokevirtual 106, 3) := dr9 dk9_dX2_follow_0_0.2.2.2 8 (144, .invokevirtual 106, 3) rfl
theorem dX2_follow_111 : decode cX2_follow 111 = .ok (.aload_n 0, 1) := dr9 dk9_dX2_follow_0_0.2.2.2 9 (111, .aload_n 0, 1) rfl
theorem dX2_follow_112 : decode cX2_follow 112 = .ok (.iload 5, 2) := dr9 dk9_dX2_follow_0_0.2.2.2 10 (112, .iload 5, 2) rfl
theorem dX2_follow_114 : decode cX2_follow 114 = .ok (.iload_n 2, 1) := dr9 dk9_dX2_follow_0_0.2.2.2 11 (114, .iload_n 2, 1) rfl
theorem dX2_follow_115 : decode cX2_follow 115 = .ok (.iconst 1, 1) := dr9 dk9_dX2_follow_0_0.2.2.2 12 (115, .iconst 1, 1) rfl
theorem dX2_follow_116 : decode cX2_follow 116 = .ok (.iadd, 1) := dr9 dk9_dX2_follow_0_0.2.2.2 13 (116, .iadd, 1) rfl
theorem dX2_follow_117 : decode cX2_follow 117 = .ok (.invokevirtual 63, 3) := dr9 dk9_dX2_follow_0_0.2.2.2 14 (117, .invokevirtual 63, 3) rfl
theorem dX2_follow_120 : decode cX2_follow 120 = .ok (.goto 27, 3) := dr9 dk9_dX2_follow_0_0.2.2.2 15 (120, .goto 27, 3) rfl
theorem dX2_follow_97 : decode cX2_follow 97 = .ok (.goto 50, 3) := dr9 dk9_dX2_follow_0_0.2.2.2 16 (97, .goto 50, 3) rfl
theorem dX2_follow_57 : decode cX2_follow 57 = .ok (.iconst 0, 1) := dr9 dk9_dX2_follow_0_0.2.2.2 17 (57, .iconst 0, 1) rfl
theorem dX2_follow_58 : decode cX2_follow 58 = .ok (.goto 9, 3) := dr9 dk9_dX2_follow_0_0.2.2.2 18 (58, .goto 9, 3) rfl
theorem dX2_follow_6 : decode cX2_follow 6 = .ok (.return_, 1) := dr9 dk9_dX2_follow_0_0.2.2.2 19 (6, .return_, 1) rfl
abbrev r_x_sclear : Room := { frames := 1, cells := 0, slots := 0, locals := 23 }
abbrev q_x_sclear (D : va_G) (ks : KS) (ad : Nat → Nat) (kk : Nat → ClassId) (V : Vf) (L : Lf) (Z : XZ) (A : Nat → Prop) : Array Value → State → Outcome → State → Prop := va_Qv (fun (u : Vf × Lf) => rgd bX u.1 ∧ agr [(3, 12), (3, 13), (3, 14), (3, 15)] [23, 24, 25] V u.1 ∧ u.2 = L ∧ ((u.1 3 13).toInt = 0) ∧ ((u.1 3 15).toInt = 0)) (fun u t => gq D A (xw ad kk u.1 u.2 Z) (xty kk Z) t) A
abbrev r_x_cclear : Room := { frames := 1, cells := 0, slots := 0, locals := 23 }
abbrev q_x_cclear (D : va_G) (ks : KS) (ad : Nat → Nat) (kk : Nat → ClassId) (V : Vf) (L : Lf) (Z : XZ) (gi : Nat) (A : Nat → Prop) : Array Value → State → Outcome → State → Prop := va_Qv (fun (u : Vf × Lf) => rgd bX u.1 ∧ agr [] [49, 50, 51, 52, 53, 54, 55, 56, 57, 61] V u.1 ∧ u.2 = L ∧ frX (xI gi) V u.1 ∧ ((u.1 56 gi).toInt = -1) ∧ ((u.1 57 gi).toInt = -1) ∧ ((u.1 49 gi).toInt = 0) ∧ ((∀ q : Nat, (q : Int) < 20 → (u.1 61 (20 * gi + q)).toInt = -1)) ∧ ((∀ q : Nat, ¬ (20 * gi ≤ q ∧ q < 20 * gi + 20) → u.1 61 q = V 61 q)) ∧ ((∀ q : Nat, ¬ q = gi → u.1 56 q = V 56 q)) ∧ ((∀ q : Nat, ¬ q = gi → u.1 57 q = V 57 q)) ∧ ((∀ q : Nat, ¬ q = gi → u.1 49 q = V 49 q))) (fun u t => gq D A (xw ad kk u.1 u.2 Z) (xty kk Z) t) A
set_option maxHeartbeats 4000000 in
set_option maxRecDepth 100000 in
theorem x_cclear (l : Launch) (D : va_G) (ks : KS) (sz : Nat) (ad : Nat → Nat) (kk : Nat → ClassId) (V : Vf) (L : Lf) (Z : XZ) (gi : Nat) (hMV : rgd bX V) (hgi : gi < 48)  : Met l yX3_clear (Cond.code yX3_clear cX3_clear 1 none :: GW) r_x_cclear (va_Pc [.ref (ad (72 + gi))] (gp D ks (xw ad kk V L Z) (xty kk Z) sz)) (q_x_cclear D ks ad kk V L Z  gi (va_A (xw ad kk V L Z) sz)) 0 0 (va_A (xw ad kk V L Z) sz) := by
  refine g_met (q_x_cclear D ks ad kk V L Z  gi) (by decide) (Nat.le_of_ble_eq_true rfl) ?_
  intro p e s m below meth c A ls H locs hx hb hr hml hown hg hlocks hin hnw hgk hP hK hD hS hA hl
  have hown : s.vm.findClass RX3 = some m.cls := hown
  have hl : lv_has ls 1 [(0, .ref (ad (72 + gi)))] := hl
  have hP : va_P D vwCl (xw ad kk V L Z) H := hP
  have hD : va_D A (xw ad kk V L Z) := hD
  have hK : va_K D vwCl (xty kk Z) s := hK
  have agV : agr [] [49, 50, 51, 52, 53, 54, 55, 56, 57, 61] V V := agr.rf
  have fwV : frX (xI gi) V V := frX.rf
  refine lv_aload_n hx hb dX3_clear_0 rfl (lv_at hl 0 rfl) ?_
  refine va_get (D := D) (ci := 3) (v := .ref (ad (264 + gi))) (fs := (xfComp ad V gi)) (C := RX3) (T := TX3) (N := 13) hx hb hg inX3 hown hK hP (72 + gi) (xgComp hgi) rfl 3 (by decide) (hg _ w507) (fun _ h9 => h9) rfl dX3_clear_1 ?_
  refine lv_iconst (v := (-1)) hx hb dX3_clear_4 (by decide) ?_
  have r1 : Int32.toInt (-1) = (-1) := by decide
  refine gA_void (gA_runS (As := [.ref (ad (264 + gi)), .int (-1)]) (rest := []) hx hb hml hown hg hP hD hK hS hA hnw hgk (x_fillStarts l D ks H.size ad kk V L Z (-1) (gi) hMV (by decide) (show gi < 48 from by (first | exact om_7755913ec014 hgi | omega))) w918 w371 w165 w372 hdS_yJ7_fill_53178 ⟨Nat.le_of_ble_eq_true rfl, Nat.le_of_ble_eq_true rfl⟩ rfl hl.1 rfl (Nat.le_of_ble_eq_true rfl) dX3_clear_5 ⟨Nat.le_of_ble_eq_true rfl, Nat.le_of_ble_eq_true rfl⟩) hP hD hK hS hA (fun u3 H locs w4 hP hD hK hS => ?_)
  obtain ⟨V7, L8⟩ := u3
  obtain ⟨hMV7, ajV7, axL8, fyV7, t5, t6⟩ := w4
  have axL8 : L = L8 := Eq.symm axL8
  subst axL8
  have hP : va_P D vwCl (xw ad kk V7 L Z) H := hP
  have hD : va_D A (xw ad kk V7 L Z) := hD
  have hMV7 : rgd bX V7 := hMV7
  have ajV7 : agr [] [61] V V7 := ajV7
  have agV7 : agr [] [49, 50, 51, 52, 53, 54, 55, 56, 57, 61] V V7 := agV.tr ajV7 (by decide) (by decide)
  have fwV7 : frX (xI gi) V V7 := frX.tr fwV (fyV7)
  have t5 : (∀ q : Nat, (q : Int) < 20 → V7 61 (20 * gi + q) = (-1)) := t5
  have t6 : (∀ q : Nat, ¬ (20 * gi ≤ q ∧ q < 20 * gi + 20) → V7 61 q = V 61 q) := t6
  refine lv_aload_n hx hb dX3_clear_8 rfl (lv_at hl 0 rfl) ?_
  refine lv_iconst (v := 0) hx hb dX3_clear_9 (by decide) ?_
  refine va_put (D := D) (ci := 3) (v := .int 0) (ty := tyX3 4) (fs := (xfComp ad V7 gi)) (C := RX3) (T := TX3) (N := 13) hx hb hg inX3 tyX3 tyX3_ok nmX3 hown hK hP hD hS (72 + gi) (xgComp hgi) rfl 4 (by decide) (hg _ w510) (fun _ h9 => h9) rfl (tyX3_ok 4 (by decide)) rfl rfl (Nat.le_of_ble_eq_true rfl) dX3_clear_10 (fun H locs hP hD hS => ?_)
  obtain ⟨V9, hV9⟩ : ∃ z, z = up2 V7 49 gi 0 := ⟨_, rfl⟩
  have ew10 : (xw ad kk V7 L Z).set (72 + gi) ((ad (72 + gi)), .inr (3, (xfComp ad V7 gi).set 4 (.int 0))) = xw ad kk V9 L Z := by rw [hV9]; exact xpComp_needs hgi
  have hP : va_P D vwCl (xw ad kk V9 L Z) H := by rw [← ew10]; exact hP
  have hD : va_D A (xw ad kk V9 L Z) := by rw [← ew10]; exact hD
  have hMV9 : rgd bX V9 := hMV7.put hV9 (show 0 ≤ Int32.toInt 0 ∧ Int32.toInt 0 ≤ 8 from by decide)
  have agV9 : agr [] [49, 50, 51, 52, 53, 54, 55, 56, 57, 61] V V9 := agV7.up hV9 rfl
  have fwV9 : frX (xI gi) V V9 := frX.up fwV7 hV9 (Or.inr ⟨(by show gi ≤ gi; (first | exact om_36cf446a3c95 | omega)), (by show gi < gi + 1; (first | exact om_0bb971ab4ffe | omega))⟩)
  refine lv_aload_n hx hb dX3_clear_13 rfl (lv_at hl 0 rfl) ?_
  refine lv_iconst (v := 0) hx hb dX3_clear_14 (by decide) ?_
  refine va_put (D := D) (ci := 3) (v := .int 0) (ty := tyX3 5) (fs := (xfComp ad V9 gi)) (C := RX3) (T := TX3) (N := 13) hx hb hg inX3 tyX3 tyX3_ok nmX3 hown hK hP hD hS (72 + gi) (xgComp hgi) rfl 5 (by decide) (hg _ w515) (fun _ h9 => h9) rfl (tyX3_ok 5 (by decide)) rfl rfl (Nat.le_of_ble_eq_true rfl) dX3_clear_15 (fun H locs hP hD hS => ?_)
  obtain ⟨V11, hV11⟩ : ∃ z, z = up2 V9 50 gi 0 := ⟨_, rfl⟩
  have ew12 : (xw ad kk V9 L Z).set (72 + gi) ((ad (72 + gi)), .inr (3, (xfComp ad V9 gi).set 5 (.int 0))) = xw ad kk V11 L Z := by rw [hV11]; exact xpComp_under hgi
  have hP : va_P D vwCl (xw ad kk V11 L Z) H := by rw [← ew12]; exact hP
  have hD : va_D A (xw ad kk V11 L Z) := by rw [← ew12]; exact hD
  have hMV11 : rgd bX V11 := hMV9.put hV11 (i_full _)
  have agV11 : agr [] [49, 50, 51, 52, 53, 54, 55, 56, 57, 61] V V11 := agV9.up hV11 rfl
  have fwV11 : frX (xI gi) V V11 := frX.up fwV9 hV11 (Or.inr ⟨(by show gi ≤ gi; (first | exact om_36cf446a3c95 | omega)), (by show gi < gi + 1; (first | exact om_0bb971ab4ffe | omega))⟩)
  refine lv_aload_n hx hb dX3_clear_18 rfl (lv_at hl 0 rfl) ?_
  refine lv_iconst (v := 0) hx hb dX3_clear_19 (by decide) ?_
  refine va_put (D := D) (ci := 3) (v := .int 0) (ty := tyX3 6) (fs := (xfComp ad V11 gi)) (C := RX3) (T := TX3) (N := 13) hx hb hg inX3 tyX3 tyX3_ok nmX3 hown hK hP hD hS (72 + gi) (xgComp hgi) rfl 6 (by decide) (hg _ w518) (fun _ h9 => h9) rfl (tyX3_ok 6 (by decide)) rfl rfl (Nat.le_of_ble_eq_true rfl) dX3_clear_20 (fun H locs hP hD hS => ?_)
  obtain ⟨V13, hV13⟩ : ∃ z, z = up2 V11 51 gi 0 := ⟨_, rfl⟩
  have ew14 : (xw ad kk V11 L Z).set (72 + gi) ((ad (72 + gi)), .inr (3, (xfComp ad V11 gi).set 6 (.int 0))) = xw ad kk V13 L Z := by rw [hV13]; exact xpComp_scope hgi
  have hP : va_P D vwCl (xw ad kk V13 L Z) H := by rw [← ew14]; exact hP
  have hD : va_D A (xw ad kk V13 L Z) := by rw [← ew14]; exact hD
  have hMV13 : rgd bX V13 := hMV11.put hV13 (show 0 ≤ Int32.toInt 0 ∧ Int32.toInt 0 ≤ 3 from by decide)
  have agV13 : agr [] [49, 50, 51, 52, 53, 54, 55, 56, 57, 61] V V13 := agV11.up hV13 rfl
  have fwV13 : frX (xI gi) V V13 := frX.up fwV11 hV13 (Or.inr ⟨(by show gi ≤ gi; (first | exact om_36cf446a3c95 | omega)), (by show gi < gi + 1; (first | exact om_0bb971ab4ffe | omega))⟩)
  refine lv_aload_n hx hb dX3_clear_23 rfl (lv_at hl 0 rfl) ?_
  refine lv_iconst (v := (-1)) hx hb dX3_clear_24 (by decide) ?_
  refine va_put (D := D) (ci := 3) (v := .int (-1)) (ty := tyX3 7) (fs := (xfComp ad V13 gi)) (C := RX3) (T := TX3) (N := 13) hx hb hg inX3 tyX3 tyX3_ok nmX3 hown hK hP hD hS (72 + gi) (xgComp hgi) rfl 7 (by decide) (hg _ w523) (fun _ h9 => h9) rfl (tyX3_ok 7 (by decide)) rfl rfl (Nat.le_of_ble_eq_true rfl) dX3_clear_25 (fun H locs hP hD hS => ?_)
  obtain ⟨V15, hV15⟩ : ∃ z, z = up2 V13 52 gi (-1) := ⟨_, rfl⟩
  have ew16 : (xw ad kk V13 L Z).set (72 + gi) ((ad (72 + gi)), .inr (3, (xfComp ad V13 gi).set 7 (.int (-1)))) = xw ad kk V15 L Z := by rw [hV15]; exact xpComp_calledWord hgi
  have hP : va_P D vwCl (xw ad kk V15 L Z) H := by rw [← ew16]; exact hP
  have hD : va_D A (xw ad kk V15 L Z) := by rw [← ew16]; exact hD
  have hMV15 : rgd bX V15 := hMV13.put hV15 (i_full _)
  have agV15 : agr [] [49, 50, 51, 52, 53, 54, 55, 56, 57, 61] V V15 := agV13.up hV15 rfl
  have fwV15 : frX (xI gi) V V15 := frX.up fwV13 hV15 (Or.inr ⟨(by show gi ≤ gi; (first | exact om_36cf446a3c95 | omega)), (by show gi < gi + 1; (first | exact om_0bb971ab4ffe | omega))⟩)
  refine lv_aload_n hx hb dX3_clear_28 rfl (lv_at hl 0 rfl) ?_
  refine lv_iconst (v := 0) hx hb dX3_clear_29 (by decide) ?_
  refine va_put (D := D) (ci := 3) (v := .int 0) (ty := tyX3 8) (fs := (xfComp ad V15 gi)) (C := RX3) (T := TX3) (N := 13) hx hb hg inX3 tyX3 tyX3_ok nmX3 hown hK hP hD hS (72 + gi) (xgComp hgi) rfl 8 (by decide) (hg _ w527) (fun _ h9 => h9) rfl (tyX3_ok 8 (by decide)) rfl rfl (Nat.le_of_ble_eq_true rfl) dX3_clear_30 (fun H locs hP hD hS => ?_)
  obtain ⟨V17, hV17⟩ : ∃ z, z = up2 V15 53 gi 0 := ⟨_, rfl⟩
  have ew18 : (xw ad kk V15 L Z).set (72 + gi) ((ad (72 + gi)), .inr (3, (xfComp ad V15 gi).set 8 (.int 0))) = xw ad kk V17 L Z := by rw [hV17]; exact xpComp_rank hgi
  have hP : va_P D vwCl (xw ad kk V17 L Z) H := by rw [← ew18]; exact hP
  have hD : va_D A (xw ad kk V17 L Z) := by rw [← ew18]; exact hD
  have hMV17 : rgd bX V17 := hMV15.put hV17 (i_full _)
  have agV17 : agr [] [49, 50, 51, 52, 53, 54, 55, 56, 57, 61] V V17 := agV15.up hV17 rfl
  have fwV17 : frX (xI gi) V V17 := frX.up fwV15 hV17 (Or.inr ⟨(by show gi ≤ gi; (first | exact om_36cf446a3c95 | omega)), (by show gi < gi + 1; (first | exact om_0bb971ab4ffe | omega))⟩)
  refine lv_aload_n hx hb dX3_clear_33 rfl (lv_at hl 0 rfl) ?_
  refine lv_iconst (v := (-1)) hx hb dX3_clear_34 (by decide) ?_
  refine va_put (D := D) (ci := 3) (v := .int (-1)) (ty := tyX3 9) (fs := (xfComp ad V17 gi)) (C := RX3) (T := TX3) (N := 13) hx hb hg inX3 tyX3 tyX3_ok nmX3 hown hK hP hD hS (72 + gi) (xgComp hgi) rfl 9 (by decide) (hg _ w531) (fun _ h9 => h9) rfl (tyX3_ok 9 (by decide)) rfl rfl (Nat.le_of_ble_eq_true rfl) dX3_clear_35 (fun H locs hP hD hS => ?_)
  obtain ⟨V19, hV19⟩ : ∃ z, z = up2 V17 54 gi (-1) := ⟨_, rfl⟩
  have ew20 : (xw ad kk V17 L Z).set (72 + gi) ((ad (72 + gi)), .inr (3, (xfComp ad V17 gi).set 9 (.int (-1)))) = xw ad kk V19 L Z := by rw [hV19]; exact xpComp_whenSetting hgi
  have hP : va_P D vwCl (xw ad kk V19 L Z) H := by rw [← ew20]; exact hP
  have hD : va_D A (xw ad kk V19 L Z) := by rw [← ew20]; exact hD
  have hMV19 : rgd bX V19 := hMV17.put hV19 (show (-1) ≤ Int32.toInt (-1) ∧ Int32.toInt (-1) ≤ 11 from by decide)
  have agV19 : agr [] [49, 50, 51, 52, 53, 54, 55, 56, 57, 61] V V19 := agV17.up hV19 rfl
  have fwV19 : frX (xI gi) V V19 := frX.up fwV17 hV19 (Or.inr ⟨(by show gi ≤ gi; (first | exact om_36cf446a3c95 | omega)), (by show gi < gi + 1; (first | exact om_0bb971ab4ffe | omega))⟩)
  refine lv_aload_n hx hb dX3_clear_38 rfl (lv_at hl 0 rfl) ?_
  refine lv_iconst (v := 0) hx hb dX3_clear_39 (by decide) ?_
  refine va_put (D := D) (ci := 3) (v := .int 0) (ty := tyX3 10) (fs := (xfComp ad V19 gi)) (C := RX3) (T := TX3) (N := 13) hx hb hg inX3 tyX3 tyX3_ok nmX3 hown hK hP hD hS (72 + gi) (xgComp hgi) rfl 10 (by decide) (hg _ w534) (fun _ h9 => h9) rfl (tyX3_ok 10 (by decide)) rfl rfl (Nat.le_of_ble_eq_true rfl) dX3_clear_40 (fun H locs hP hD hS => ?_)
  obtain ⟨V21, hV21⟩ : ∃ z, z = up2 V19 55 gi 0 := ⟨_, rfl⟩
  have ew22 : (xw ad kk V19 L Z).set (72 + gi) ((ad (72 + gi)), .inr (3, (xfComp ad V19 gi).set 10 (.int 0))) = xw ad kk V21 L Z := by rw [hV21]; exact xpComp_whenValue hgi
  have hP : va_P D vwCl (xw ad kk V21 L Z) H := by rw [← ew22]; exact hP
  have hD : va_D A (xw ad kk V21 L Z) := by rw [← ew22]; exact hD
  have hMV21 : rgd bX V21 := hMV19.put hV21 (i_full _)
  have agV21 : agr [] [49, 50, 51, 52, 53, 54, 55, 56, 57, 61] V V21 := agV19.up hV21 rfl
  have fwV21 : frX (xI gi) V V21 := frX.up fwV19 hV21 (Or.inr ⟨(by show gi ≤ gi; (first | exact om_36cf446a3c95 | omega)), (by show gi < gi + 1; (first | exact om_0bb971ab4ffe | omega))⟩)
  refine lv_aload_n hx hb dX3_clear_43 rfl (lv_at hl 0 rfl) ?_
  refine lv_iconst (v := (-1)) hx hb dX3_clear_44 (by decide) ?_
  refine va_put (D := D) (ci := 3) (v := .int (-1)) (ty := tyX3 11) (fs := (xfComp ad V21 gi)) (C := RX3) (T := TX3) (N := 13) hx hb hg inX3 tyX3 tyX3_ok nmX3 hown hK hP hD hS (72 + gi) (xgComp hgi) rfl 11 (by decide) (hg _ w537) (fun _ h9 => h9) rfl (tyX3_ok 11 (by decide)) rfl rfl (Nat.le_of_ble_eq_true rfl) dX3_clear_45 (fun H locs hP hD hS => ?_)
  obtain ⟨V23, hV23⟩ : ∃ z, z = up2 V21 56 gi (-1) := ⟨_, rfl⟩
  have ew24 : (xw ad kk V21 L Z).set (72 + gi) ((ad (72 + gi)), .inr (3, (xfComp ad V21 gi).set 11 (.int (-1)))) = xw ad kk V23 L Z := by rw [hV23]; exact xpComp_openedStart hgi
  have hP : va_P D vwCl (xw ad kk V23 L Z) H := by rw [← ew24]; exact hP
  have hD : va_D A (xw ad kk V23 L Z) := by rw [← ew24]; exact hD
  have hMV23 : rgd bX V23 := hMV21.put hV23 (show (-1) ≤ Int32.toInt (-1) ∧ Int32.toInt (-1) ≤ 8200 from by decide)
  have agV23 : agr [] [49, 50, 51, 52, 53, 54, 55, 56, 57, 61] V V23 := agV21.up hV23 rfl
  have fwV23 : frX (xI gi) V V23 := frX.up fwV21 hV23 (Or.inr ⟨(by show gi ≤ gi; (first | exact om_36cf446a3c95 | omega)), (by show gi < gi + 1; (first | exact om_0bb971ab4ffe | omega))⟩)
  refine lv_aload_n hx hb dX3_clear_48 rfl (lv_at hl 0 rfl) ?_
  refine lv_iconst (v := (-1)) hx hb dX3_clear_49 (by decide) ?_
  refine va_put (D := D) (ci := 3) (v := .int (-1)) (ty := tyX3 12) (fs := (xfComp ad V23 gi)) (C := RX3) (T := TX3) (N := 13) hx hb hg inX3 tyX3 tyX3_ok nmX3 hown hK hP hD hS (72 + gi) (xgComp hgi) rfl 12 (by decide) (hg _ w540) (fun _ h9 => h9) rfl (tyX3_ok 12 (by decide)) rfl rfl (Nat.le_of_ble_eq_true rfl) dX3_clear_50 (fun H locs hP hD hS => ?_)
  obtain ⟨V25, hV25⟩ : ∃ z, z = up2 V23 57 gi (-1) := ⟨_, rfl⟩
  have ew26 : (xw ad kk V23 L Z).set (72 + gi) ((ad (72 + gi)), .inr (3, (xfComp ad V23 gi).set 12 (.int (-1)))) = xw ad kk V25 L Z := by rw [hV25]; exact xpComp_closedStart hgi
  have hP : va_P D vwCl (xw ad kk V25 L Z) H := by rw [← ew26]; exact hP
  have hD : va_D A (xw ad kk V25 L Z) := by rw [← ew26]; exact hD
  have hMV25 : rgd bX V25 := hMV23.put hV25 (show (-1) ≤ Int32.toInt (-1) ∧ Int32.toInt (-1) ≤ 8200 from by decide)
  have agV25 : agr [] [49, 50, 51, 52, 53, 54, 55, 56, 57, 61] V V25 := agV23.up hV25 rfl
  have fwV25 : frX (xI gi) V V25 := frX.up fwV23 hV25 (Or.inr ⟨(by show gi ≤ gi; (first | exact om_36cf446a3c95 | omega)), (by show gi < gi + 1; (first | exact om_0bb971ab4ffe | omega))⟩)
  have pq27 : (V25 56 gi).toInt = (-1) := (congrArg Int32.toInt ((up2_o hV25 (by decide)).trans (up2_s hV23))).trans (by decide)
  have pq28 : (V25 57 gi).toInt = (-1) := (congrArg Int32.toInt (up2_s hV25)).trans (by decide)
  have pq29 : (V25 49 gi).toInt = 0 := (congrArg Int32.toInt ((up2_o hV25 (by decide)).trans ((up2_o hV23 (by decide)).trans ((up2_o hV21 (by decide)).trans ((up2_o hV19 (by decide)).trans ((up2_o hV17 (by decide)).trans ((up2_o hV15 (by decide)).trans ((up2_o hV13 (by decide)).trans ((up2_o hV11 (by decide)).trans (up2_s hV9)))))))))).trans (by decide)
  have rp30 : ∀ q : Nat, (q : Int) < 20 → (V25 61 (20 * gi + q)).toInt = -1 := fun q hq => by rw [(show agr [] [49, 50, 51, 52, 53, 54, 55, 56, 57] V7 V25 from (agr.up (agr.up (agr.up (agr.up (agr.up (agr.up (agr.up (agr.up (agr.up agr.rf hV9 rfl) hV11 rfl) hV13 rfl) hV15 rfl) hV17 rfl) hV19 rfl) hV21 rfl) hV23 rfl) hV25 rfl)) 61 _ rfl, t5 q hq]; decide
  have rp31 : ∀ q : Nat, ¬ (20 * gi ≤ q ∧ q < 20 * gi + 20) → V25 61 q = V 61 q := fun q hq => ((show agr [] [49, 50, 51, 52, 53, 54, 55, 56, 57] V7 V25 from (agr.up (agr.up (agr.up (agr.up (agr.up (agr.up (agr.up (agr.up (agr.up agr.rf hV9 rfl) hV11 rfl) hV13 rfl) hV15 rfl) hV17 rfl) hV19 rfl) hV21 rfl) hV23 rfl) hV25 rfl)) 61 _ rfl).trans (t6 q hq)
  have rp32 : ∀ q : Nat, ¬ q = gi → V25 56 q = V 56 q := fun q hq => ((((((((((up2_o hV25 (by decide)).trans (up2_k hV23 hq)).trans (up2_o hV21 (by decide))).trans (up2_o hV19 (by decide))).trans (up2_o hV17 (by decide))).trans (up2_o hV15 (by decide))).trans (up2_o hV13 (by decide))).trans (up2_o hV11 (by decide))).trans (up2_o hV9 (by decide))).trans (ajV7 56 _ rfl))
  have rp33 : ∀ q : Nat, ¬ q = gi → V25 57 q = V 57 q := fun q hq => ((((((((((up2_k hV25 hq).trans (up2_o hV23 (by decide))).trans (up2_o hV21 (by decide))).trans (up2_o hV19 (by decide))).trans (up2_o hV17 (by decide))).trans (up2_o hV15 (by decide))).trans (up2_o hV13 (by decide))).trans (up2_o hV11 (by decide))).trans (up2_o hV9 (by decide))).trans (ajV7 57 _ rfl))
  have rp34 : ∀ q : Nat, ¬ q = gi → V25 49 q = V 49 q := fun q hq => ((((((((((up2_o hV25 (by decide)).trans (up2_o hV23 (by decide))).trans (up2_o hV21 (by decide))).trans (up2_o hV19 (by decide))).trans (up2_o hV17 (by decide))).trans (up2_o hV15 (by decide))).trans (up2_o hV13 (by decide))).trans (up2_o hV11 (by decide))).trans (up2_k hV9 hq)).trans (ajV7 49 _ rfl))
  exact W.vret hx hb hr (fun t ht hW => ⟨⟨(V25, L), rfl, ⟨hMV25, agV25, rfl, fwV25, (show (V25 56 gi).toInt = -1 from by (first | exact om_a870fdf34004 pq27 | omega)), (show (V25 57 gi).toInt = -1 from by (first | exact om_a870fdf34004 pq28 | omega)), (show (V25 49 gi).toInt = 0 from by (first | exact om_b66ba74381d5 pq29 | omega)), rp30, rp31, rp32, rp33, rp34⟩, by rw [ht]; exact hP, va_K.moved hW.alike hK, hD⟩, hS.F ht⟩) hS.2.2 dX3_clear_53
abbrev r_x_kclear : Room := { frames := 0, cells := 0, slots := 0, locals := 0 }
abbrev q_x_kclear (D : va_G) (ks : KS) (ad : Nat → Nat) (kk : Nat → ClassId) (V : Vf) (L : Lf) (Z : XZ) (A : Nat → Prop) : Array Value → State → Outcome → State → Prop := va_Qv (fun (u : Vf × Lf) => rgd bX u.1 ∧ agr [(2, 7)] [] V u.1 ∧ u.2 = L) (fun u t => gq D A (xw ad kk u.1 u.2 Z) (xty kk Z) t) A
set_option maxHeartbeats 4000000 in
set_option maxRecDepth 100000 in
theorem x_kclear (l : Launch) (D : va_G) (ks : KS) (sz : Nat) (ad : Nat → Nat) (kk : Nat → ClassId) (V : Vf) (L : Lf) (Z : XZ)  (hMV : rgd bX V)  : Met l yX2_clear (Cond.code yX2_clear cX2_clear 1 none :: GW) r_x_kclear (va_Pc [.ref (ad 2)] (gp D ks (xw ad kk V L Z) (xty kk Z) sz)) (q_x_kclear D ks ad kk V L Z  (va_A (xw ad kk V L Z) sz)) 0 0 (va_A (xw ad kk V L Z) sz) := by
  refine g_met (q_x_kclear D ks ad kk V L Z) (by decide) (Nat.le_of_ble_eq_true rfl) ?_
  intro p e s m below meth c A ls H locs hx hb hr hml hown hg hlocks hin hnw hgk hP hK hD hS hA hl
  have hown : s.vm.findClass RX2 = some m.cls := hown
  have hl : lv_has ls 1 [(0, .ref (ad 2))] := hl
  have hP : va_P D vwCl (xw ad kk V L Z) H := hP
  have hD : va_D A (xw ad kk V L Z) := hD
  have hK : va_K D vwCl (xty kk Z) s := hK
  have agV : agr [(2, 7)] [] V V := agr.rf
  refine lv_aload_n hx hb dX2_clear_0 rfl (lv_at hl 0 rfl) ?_
  refine lv_iconst (v := 0) hx hb dX2_clear_1 (by decide) ?_
  refine va_put (D := D) (ci := 2) (v := .int 0) (ty := tyX2 7) (fs := (xfChecker ad V L Z)) (C := RX2) (T := TX2) (N := 8) hx hb hg inX2 tyX2 tyX2_ok nmX2 hown hK hP hD hS 2 xgChecker rfl 7 (by decide) (hg _ w345) (fun _ h9 => h9) rfl (tyX2_ok 7 (by decide)) rfl rfl (Nat.le_of_ble_eq_true rfl) dX2_clear_2 (fun H locs hP hD hS => ?_)
  obtain ⟨V1, hV1⟩ : ∃ z, z = up2 V 2 7 0 := ⟨_, rfl⟩
  have ew2 : (xw ad kk V L Z).set 2 ((ad 2), .inr (2, (xfChecker ad V L Z).set 7 (.int 0))) = xw ad kk V1 L Z := by rw [hV1]; exact xw_ss (by decide) rfl (xb_si (by decide))
  have hP : va_P D vwCl (xw ad kk V1 L Z) H := by rw [← ew2]; exact hP
  have hD : va_D A (xw ad kk V1 L Z) := by rw [← ew2]; exact hD
  have hMV1 : rgd bX V1 := hMV.put hV1 (by decide)
  have agV1 : agr [(2, 7)] [] V V1 := agV.up hV1 rfl
  exact W.vret hx hb hr (fun t ht hW => ⟨⟨(V1, L), rfl, ⟨hMV1, agV1, rfl⟩, by rw [ht]; exact hP, va_K.moved hW.alike hK, hD⟩, hS.F ht⟩) hS.2.2 dX2_clear_5
abbrev r_x_tells : Room := { frames := 0, cells := 0, slots := 0, locals := 0 }
abbrev q_x_tells (D : va_G) (ks : KS) (ad : Nat → Nat) (kk : Nat → ClassId) (V : Vf) (L : Lf) (Z : XZ) (p0 : Int32) (A : Nat → Prop) : Array Value → State → Outcome → State → Prop := va_Qi (fun (r : Int32) (_ : Unit) => (0 ≤ r.toInt ∧ r.toInt ≤ 1) ∧ (Imp (r.toInt = 1) (0 ≤ p0.toInt ∧ p0.toInt ≤ 99))) (fun _ t => gq D A (xw ad kk V L Z) (xty kk Z) t) A
abbrev r_x_note : Room := { frames := 0, cells := 0, slots := 0, locals := 0 }
abbrev q_x_note (D : va_G) (ks : KS) (ad : Nat → Nat) (kk : Nat → ClassId) (V : Vf) (L : Lf) (Z : XZ) (p0 : Int32) (p1 : Int32) (p2 : Int32) (A : Nat → Prop) : Array Value → State → Outcome → State → Prop := va_Qv (fun (u : Vf × Lf) => rgd bX u.1 ∧ agr [(2, 7)] [15, 16, 17] V u.1 ∧ u.2 = L ∧ ((u.1 2 7).toInt = (V 2 7).toInt + 1)) (fun u t => gq D A (xw ad kk u.1 u.2 Z) (xty kk Z) t) A
abbrev r_x_tell : Room := { frames := 1, cells := 0, slots := 0, locals := 21 }
abbrev q_x_tell (D : va_G) (ks : KS) (ad : Nat → Nat) (kk : Nat → ClassId) (V : Vf) (L : Lf) (Z : XZ) (p0 : Int32) (p1 : Int32) (A : Nat → Prop) : Array Value → State → Outcome → State → Prop := va_Qi (fun (r : Int32) (_ : Unit) => True) (fun _ t => gq D A (xw ad kk V L Z) (xty kk Z) t) A
abbrev r_x_onRing : Room := { frames := 1, cells := 0, slots := 0, locals := 21 }
abbrev q_x_onRing (D : va_G) (ks : KS) (ad : Nat → Nat) (kk : Nat → ClassId) (V : Vf) (L : Lf) (Z : XZ) (p0 : Int32) (p1 : Int32) (A : Nat → Prop) : Array Value → State → Outcome → State → Prop := va_Qi (fun (r : Int32) (_ : Unit) => True) (fun _ t => gq D A (xw ad kk V L Z) (xty kk Z) t) A
abbrev r_x_noteRing : Room := { frames := 1, cells := 0, slots := 0, locals := 23 }
abbrev q_x_noteRing (D : va_G) (ks : KS) (ad : Nat → Nat) (kk : Nat → ClassId) (V : Vf) (L : Lf) (Z : XZ) (p0 : Int32) (p1 : Int32) (A : Nat → Prop) : Array Value → State → Outcome → State → Prop := va_Qv (fun (u : Vf × Lf) => rgd bX u.1 ∧ agr [(2, 7)] [15, 16, 17, 18] V u.1 ∧ u.2 = L ∧ ((u.1 2 7).toInt = (V 2 7).toInt + 1)) (fun u t => gq D A (xw ad kk u.1 u.2 Z) (xty kk Z) t) A
abbrev r_x_hasShorter : Room := { frames := 0, cells := 0, slots := 0, locals := 0 }
abbrev q_x_hasShorter (D : va_G) (ks : KS) (ad : Nat → Nat) (kk : Nat → ClassId) (V : Vf) (L : Lf) (Z : XZ) (p0 : Int32) (p1 : Int32) (b : Nat) (A : Nat → Prop) : Array Value → State → Outcome → State → Prop := va_Qi (fun (r : Int32) (_ : Unit) => (0 ≤ r.toInt ∧ r.toInt ≤ 1)) (fun _ t => gq D A (xw ad kk V L Z) (xty kk Z) t) A
abbrev r_x_faultOf : Room := { frames := 2, cells := 0, slots := 0, locals := 53 }
abbrev q_x_faultOf (D : va_G) (ks : KS) (ad : Nat → Nat) (kk : Nat → ClassId) (V : Vf) (L : Lf) (Z : XZ) (p0 : Int32) (p1 : Int32) (b : Nat) (A : Nat → Prop) : Array Value → State → Outcome → State → Prop := va_Qi (fun (r : Int32) (_ : Unit) => True) (fun _ t => gq D A (xw ad kk V L Z) (xty kk Z) t) A
abbrev r_x_examineNeeds : Room := { frames := 3, cells := 0, slots := 0, locals := 78 }
abbrev q_x_examineNeeds (D : va_G) (ks : KS) (ad : Nat → Nat) (kk : Nat → ClassId) (V : Vf) (L : Lf) (Z : XZ) (p0 : Int32) (b : Nat) (A : Nat → Prop) : Array Value → State → Outcome → State → Prop := va_Qv (fun (u : Vf × Lf) => rgd bX u.1 ∧ agr [(2, 7)] [15, 16, 17] V u.1 ∧ u.2 = L ∧ ((u.1 2 7).toInt ≤ (V 2 7).toInt + 8)) (fun u t => gq D A (xw ad kk u.1 u.2 Z) (xty kk Z) t) A
abbrev r_x_followed : Room := { frames := 3, cells := 0, slots := 0, locals := 78 }
abbrev q_x_followed (D : va_G) (ks : KS) (ad : Nat → Nat) (kk : Nat → ClassId) (V : Vf) (L : Lf) (Z : XZ) (p0 : Int32) (p1 : Int32) (b : Nat) (A : Nat → Prop) : Array Value → State → Outcome → State → Prop := va_Qi (fun (r : Int32) (_ : Unit) => True) (fun _ t => gq D A (xw ad kk V L Z) (xty kk Z) t) A
abbrev q_x_follow (D : va_G) (ks : KS) (ad : Nat → Nat) (kk : Nat → ClassId) (V : Vf) (L : Lf) (Z : XZ) (p0 : Int32) (p1 : Int32) (b : Nat) (A : Nat → Prop) : Array Value → State → Outcome → State → Prop := va_Qv (fun (u : Vf × Lf) => rgd bX u.1 ∧ agr [(2, 7)] [15, 16, 17, 18, 19, 20] V u.1 ∧ u.2 = L ∧ ((u.1 2 7).toInt + 192 * (cx u.1 24 : Int) ≤ (V 2 7).toInt + 192 * (cx V 24 : Int)) ∧ ((V 2 7).toInt ≤ (u.1 2 7).toInt) ∧ ((∀ q : Nat, (V 20 q).toInt ≠ -1 → (u.1 20 q).toInt ≠ -1))) (fun u t => gq D A (xw ad kk u.1 u.2 Z) (xty kk Z) t) A
def K_x_follow (l : Launch) (D : va_G) (ks : KS) (dd : Nat) : Prop := ∀ (sz : Nat) (ad : Nat → Nat) (kk : Nat → ClassId) (V : Vf) (L : Lf) (Z : XZ) (p0 : Int32) (p1 : Int32) (b : Nat) (hMV : rgd bX V) (rg_p0 : 0 ≤ p0.toInt ∧ p0.toInt ≤ 23) (rg_p1 : 0 ≤ p1.toInt ∧ p1.toInt ≤ 24) (hb2 : b < 2) (cbk : (V 2 6).toInt = (b : Int)) (y1 : (V 20 (Int32.toNatClampNeg p0)).toInt = -1) (y2 : 24 - p1.toInt ≤ (dd : Int)) (y3 : (V 2 7).toInt + 192 * (cx V 24 : Int) ≤ 999000) , Met l yX2_follow (Cond.code yX2_follow cX2_follow 6 none :: GW) (rK 8 260 dd) (va_Pc [.ref (ad 2), .int p0, .int p1] (gp D ks (xw ad kk V L Z) (xty kk Z) sz)) (q_x_follow D ks ad kk V L Z p0 p1 b (va_A (xw ad kk V L Z) sz)) 0 0 (va_A (xw ad kk V L Z) sz)
end
section
/-! the class's code: where its orders begin, which places hold a number that goes with one -/
def bdp (V : Vf) (b : Nat) : Nat → Bool × Bool
  | 0 => (true, false)
  | p + 1 => (((bdp V b p).1 && decide ((V 48 (8200 * b + p)).toInt < 10)) || (bdp V b p).2, (bdp V b p).1 && decide (10 ≤ (V 48 (8200 * b + p)).toInt))
theorem bdp_s (V : Vf) (b p : Nat) : bdp V b (p + 1) = (((bdp V b p).1 && decide ((V 48 (8200 * b + p)).toInt < 10)) || (bdp V b p).2, (bdp V b p).1 && decide (10 ≤ (V 48 (8200 * b + p)).toInt)) := rfl
theorem bd_ex (V : Vf) (b : Nat) : ∀ p, (bdp V b p).1 = true → (bdp V b p).2 = false
  | 0, _ => rfl
  | p + 1, h => by
    have ih := bd_ex V b p
    show ((bdp V b p).1 && decide (10 ≤ (V 48 (8200 * b + p)).toInt)) = false
    have h2 : (((bdp V b p).1 && decide ((V 48 (8200 * b + p)).toInt < 10)) || (bdp V b p).2) = true := h
    cases h3 : (bdp V b p).1 with
    | false => rfl
    | true =>
      rw [h3, ih h3] at h2
      by_cases h4 : 10 ≤ (V 48 (8200 * b + p)).toInt
      · rw [decide_eq_false (by omega : ¬ (V 48 (8200 * b + p)).toInt < 10)] at h2
        cases h2
      · rw [decide_eq_false h4]
        rfl
theorem bd_ext {V W : Vf} {b : Nat} : ∀ p, (∀ k, k < p → W 48 (8200 * b + k) = V 48 (8200 * b + k)) → bdp W b p = bdp V b p
  | 0, _ => rfl
  | p + 1, h => by
    have ih := bd_ext (V := V) (W := W) (b := b) p (fun k hk => h k (by omega))
    show (((bdp W b p).1 && decide ((W 48 (8200 * b + p)).toInt < 10)) || (bdp W b p).2, (bdp W b p).1 && decide (10 ≤ (W 48 (8200 * b + p)).toInt)) = _
    rw [ih, h p (by omega)]
    rfl
theorem bd_s {V : Vf} {b p : Nat} (h : (bdp V b p).1 = true) (h2 : (V 48 (8200 * b + p)).toInt < 10) : (bdp V b (p + 1)).1 = true := by
  show (((bdp V b p).1 && decide ((V 48 (8200 * b + p)).toInt < 10)) || (bdp V b p).2) = true
  rw [h, decide_eq_true h2]
  rfl
theorem bd_o {V : Vf} {b p : Nat} (h : (bdp V b p).1 = true) (h2 : 10 ≤ (V 48 (8200 * b + p)).toInt) : (bdp V b (p + 1)).2 = true := by
  show ((bdp V b p).1 && decide (10 ≤ (V 48 (8200 * b + p)).toInt)) = true
  rw [h, decide_eq_true h2]
  rfl
theorem bd_l {V : Vf} {b p : Nat} (h : (bdp V b p).2 = true) : (bdp V b (p + 1)).1 = true := by
  show (((bdp V b p).1 && decide ((V 48 (8200 * b + p)).toInt < 10)) || (bdp V b p).2) = true
  rw [h, Bool.or_true]
/-- a number put where one stands moves no order -/
theorem bd_pt {V W : Vf} {b a : Nat} {x : Int32} (e : W = up2 V 48 (8200 * b + a) x) (h : (bdp V b a).2 = true) (p : Nat) : bdp W b p = bdp V b p := by
  induction p with
  | zero => rfl
  | succ p ih =>
    rw [bdp_s, bdp_s, ih]
    by_cases q : p = a
    · have h3 : (bdp V b p).1 = false := by
        rw [← Bool.not_eq_true]
        intro h4
        have h5 := bd_ex V b p h4
        rw [q, h] at h5
        exact absurd h5 (by decide)
      simp only [h3, Bool.false_and, Bool.false_or]
    · have e9 : W 48 (8200 * b + p) = V 48 (8200 * b + p) := up2_k e (fun z => q (Nat.add_left_cancel z))
      rw [e9]
def okO (V : Vf) (b : Nat) (o w : Int) : Prop := (o = 11 → 0 ≤ w ∧ w ≤ 11) ∧ (o = 15 → 0 ≤ w ∧ w ≤ 159) ∧ (o = 13 ∨ o = 14 → 8200 ≤ w ∨ (0 ≤ w ∧ w ≤ (V 42 b).toInt ∧ (bdp V b w.toNat).1 = true))
def CB (V : Vf) (b : Nat) : Prop := ((V 42 b).toInt < 8200 → (bdp V b (V 42 b).toInt.toNat).1 = true) ∧ ∀ p : Nat, (p : Int) + 1 < (V 42 b).toInt → (bdp V b (p + 1)).2 = true → okO V b (V 48 (8200 * b + p)).toInt (V 48 (8200 * b + (p + 1))).toInt
/-- no order is unknown -/
def CO (V : Vf) (b : Nat) : Prop := ∀ p : Nat, (p : Int) < (V 42 b).toInt → (bdp V b p).1 = true → (V 48 (8200 * b + p)).toInt ≤ 15
/-- the code has grown; what was there stays -/
def p0x (V W : Vf) (b : Nat) : Prop := (V 42 b).toInt ≤ (W 42 b).toInt ∧ ∀ k : Nat, (k : Int) < (V 42 b).toInt → W 48 (8200 * b + k) = V 48 (8200 * b + k)
theorem p0x.rf {V : Vf} {b : Nat} : p0x V V b := ⟨Int.le_refl _, fun _ _ => rfl⟩
theorem p0x.tr {V W X : Vf} {b : Nat} (h : p0x V W b) (h2 : p0x W X b) : p0x V X b := ⟨Int.le_trans h.1 h2.1, fun k hk => (h2.2 k (by have := h.1; omega)).trans (h.2 k hk)⟩
theorem p0x.ag {fs : List (Nat × Nat)} {cs : List Nat} {V W : Vf} {b : Nat} (a : agr fs cs V W) (q1 : ∀ k, wrL fs cs 42 k = false) (q2 : ∀ k, wrL fs cs 48 k = false) : p0x V W b := ⟨by rw [a _ _ (q1 b)]; exact Int.le_refl _, fun k _ => a _ _ (q2 _)⟩
theorem p0x.bd {V W : Vf} {b p : Nat} (h : p0x V W b) (hp : (p : Int) ≤ (V 42 b).toInt) : bdp W b p = bdp V b p := bd_ext p (fun k hk => h.2 k (by omega))
theorem CB.ag {fs : List (Nat × Nat)} {cs : List Nat} {V W : Vf} {b : Nat} (h : CB V b) (a : agr fs cs V W) (q1 : ∀ k, wrL fs cs 42 k = false) (q2 : ∀ k, wrL fs cs 48 k = false) : CB W b := by
  have e : ∀ p, bdp W b p = bdp V b p := fun p => bd_ext p (fun k _ => a _ _ (q2 _))
  unfold CB okO
  rw [a _ _ (q1 b)]
  refine ⟨fun q => by rw [e]; exact h.1 q, fun p h1 h2 => ?_⟩
  rw [e] at h2
  have h3 := h.2 p h1 h2
  rw [a _ _ (q2 _), a _ _ (q2 _)]
  refine ⟨h3.1, h3.2.1, fun q => ?_⟩
  rcases h3.2.2 q with r | r
  · exact Or.inl r
  · right
    rw [e]
    exact r
/-- one order is put behind the code, if there is room -/
def emX (V W : Vf) (b : Nat) (o : Int32) : Prop := ((V 42 b).toInt < 8200 ∧ (W 42 b).toInt = (V 42 b).toInt + 1 ∧ W 48 (8200 * b + (V 42 b).toInt.toNat) = o ∧ ∀ k : Nat, (k : Int) ≠ (V 42 b).toInt → W 48 (8200 * b + k) = V 48 (8200 * b + k)) ∨ (8200 ≤ (V 42 b).toInt ∧ (W 42 b).toInt = (V 42 b).toInt ∧ ∀ k : Nat, W 48 (8200 * b + k) = V 48 (8200 * b + k))
theorem emX.p0x {V W : Vf} {b : Nat} {o : Int32} (h : emX V W b o) : p0x V W b := by
  rcases h with h | h
  · exact ⟨by omega, fun k hk => h.2.2.2 k (by omega)⟩
  · exact ⟨by omega, fun k _ => h.2.2 k⟩
theorem okO.up {V W : Vf} {b : Nat} {o w : Int} (h : okO V b o w) (p : p0x V W b) : okO W b o w := by
  refine ⟨h.1, h.2.1, fun q => ?_⟩
  rcases h.2.2 q with r | r
  · exact Or.inl r
  · right
    rw [p.bd (by omega)]
    have := p.1
    exact ⟨r.1, by omega, r.2.2⟩
theorem CB.e1 {V W : Vf} {b : Nat} {o : Int32} (h : CB V b) (e : emX V W b o) (h0 : 0 ≤ (V 42 b).toInt) (ho : o.toInt < 10) : CB W b := by
  have p := e.p0x
  rcases e with e | e
  · have c1 := h.1 e.1
    have c2 : (bdp W b (V 42 b).toInt.toNat).1 = true := by rw [p.bd (by omega)]; exact c1
    refine ⟨fun _ => ?_, fun q h1 h2 => ?_⟩
    · have c3 := bd_s c2 (by rw [e.2.2.1]; exact ho)
      rw [e.2.1, show ((V 42 b).toInt + 1).toNat = (V 42 b).toInt.toNat + 1 from by omega]
      exact c3
    · rw [p.bd (by omega)] at h2
      by_cases hq : (q : Int) + 1 < (V 42 b).toInt
      · rw [p.2 q (by omega), p.2 (q + 1) (by omega)]
        exact (h.2 q hq h2).up p
      · have hq2 : q + 1 = (V 42 b).toInt.toNat := by omega
        rw [hq2, bd_ex V b _ c1] at h2
        cases h2
  · refine ⟨fun q => absurd q (by omega), fun q h1 h2 => ?_⟩
    rw [p.bd (by omega)] at h2
    rw [p.2 q (by omega), p.2 (q + 1) (by omega)]
    exact (h.2 q (by omega) h2).up p
theorem CB.e2 {V U W : Vf} {b : Nat} {o w : Int32} (h : CB V b) (e : emX V U b o) (f : emX U W b w) (h0 : 0 ≤ (V 42 b).toInt) (h8 : (V 42 b).toInt ≤ 8200) (ho : 10 ≤ o.toInt) (hw : (o.toInt = 11 → 0 ≤ w.toInt ∧ w.toInt ≤ 11) ∧ (o.toInt = 15 → 0 ≤ w.toInt ∧ w.toInt ≤ 159) ∧ (o.toInt = 13 ∨ o.toInt = 14 → w.toInt = 0)) : CB W b := by
  have p := e.p0x
  have r := f.p0x
  have t := p.tr r
  by_cases hc : (V 42 b).toInt < 8200
  · have c1 := h.1 hc
    have c2 : (bdp W b (V 42 b).toInt.toNat).1 = true := by rw [t.bd (by omega)]; exact c1
    have e1 : (U 42 b).toInt = (V 42 b).toInt + 1 ∧ U 48 (8200 * b + (V 42 b).toInt.toNat) = o := by
      rcases e with e | e
      · exact ⟨e.2.1, e.2.2.1⟩
      · omega
    have e2 : W 48 (8200 * b + (V 42 b).toInt.toNat) = o := (r.2 _ (by omega)).trans e1.2
    have c3 := bd_o c2 (by rw [e2]; exact ho)
    refine ⟨fun hz => ?_, fun q h1 h2 => ?_⟩
    · have e3 : (W 42 b).toInt = (V 42 b).toInt + 2 := by
        rcases f with f | f <;> omega
      rw [e3, show ((V 42 b).toInt + 2).toNat = (V 42 b).toInt.toNat + 1 + 1 from by omega]
      exact bd_l c3
    · by_cases hq : (q : Int) + 1 < (V 42 b).toInt
      · rw [t.bd (by omega)] at h2
        rw [t.2 q (by omega), t.2 (q + 1) (by omega)]
        exact (h.2 q hq h2).up t
      · by_cases hq3 : (q : Int) + 1 = (V 42 b).toInt
        · have hq2 : q + 1 = (V 42 b).toInt.toNat := by omega
          rw [hq2, t.bd (by omega), bd_ex V b _ c1] at h2
          cases h2
        · have e3 : (W 42 b).toInt = (V 42 b).toInt + 2 ∧ W 48 (8200 * b + (V 42 b).toInt.toNat + 1) = w := by
            rcases f with f | f
            · refine ⟨by omega, ?_⟩
              have := f.2.2.1
              rw [show 8200 * b + (U 42 b).toInt.toNat = 8200 * b + (V 42 b).toInt.toNat + 1 from by omega] at this
              exact this
            · omega
          have hq2 : q = (V 42 b).toInt.toNat := by omega
          rw [hq2, e2, show 8200 * b + ((V 42 b).toInt.toNat + 1) = 8200 * b + (V 42 b).toInt.toNat + 1 from by omega, e3.2]
          refine ⟨hw.1, hw.2.1, fun z => ?_⟩
          rw [hw.2.2 z]
          exact Or.inr ⟨by omega, by omega, rfl⟩
  · refine ⟨fun q => absurd q (by have := t.1; omega), fun q h1 h2 => ?_⟩
    have e3 : (W 42 b).toInt = (V 42 b).toInt := by
      rcases e with e | e <;> rcases f with f | f <;> omega
    rw [t.bd (by omega)] at h2
    rw [t.2 q (by omega), t.2 (q + 1) (by omega)]
    exact (h.2 q (by omega) h2).up t
theorem CO.ag {fs : List (Nat × Nat)} {cs : List Nat} {V W : Vf} {b : Nat} (h : CO V b) (a : agr fs cs V W) (q1 : ∀ k, wrL fs cs 42 k = false) (q2 : ∀ k, wrL fs cs 48 k = false) : CO W b := by
  intro p h1 h2
  rw [a _ _ (q1 b)] at h1
  rw [bd_ext (V := V) p (fun k _ => a _ _ (q2 _))] at h2
  rw [a _ _ (q2 _)]
  exact h p h1 h2
theorem CO.e1 {V W : Vf} {b : Nat} {o : Int32} (h : CO V b) (e : emX V W b o) (ho : o.toInt ≤ 15) (h0 : 0 ≤ (V 42 b).toInt) : CO W b := by
  have p := e.p0x
  intro q h1 h2
  rcases e with e | e
  · by_cases hq : (q : Int) = (V 42 b).toInt
    · have hq2 : q = (V 42 b).toInt.toNat := by omega
      rw [hq2, e.2.2.1]
      exact ho
    · rw [p.bd (by omega)] at h2
      rw [p.2 q (by omega)]
      exact h q (by omega) h2
  · rw [p.bd (by omega)] at h2
    rw [p.2 q (by omega)]
    exact h q (by omega) h2
theorem CO.e2 {V U W : Vf} {b : Nat} {o w : Int32} (h : CO V b) (c : CB V b) (e : emX V U b o) (f : emX U W b w) (h0 : 0 ≤ (V 42 b).toInt) (h8 : (V 42 b).toInt ≤ 8200) (ho : 10 ≤ o.toInt ∧ o.toInt ≤ 15) : CO W b := by
  have h1 := h.e1 e ho.2 h0
  have p := e.p0x
  have r := f.p0x
  intro q g1 g2
  rcases f with f | f
  · by_cases hq : (q : Int) = (U 42 b).toInt
    · exfalso
      have c1 := c.1 (by have := p.1; omega)
      have e1 : (U 42 b).toInt = (V 42 b).toInt + 1 ∧ U 48 (8200 * b + (V 42 b).toInt.toNat) = o := by
        rcases e with e | e
        · exact ⟨e.2.1, e.2.2.1⟩
        · omega
      have c2 : (bdp U b (V 42 b).toInt.toNat).1 = true := by rw [p.bd (by omega)]; exact c1
      have c3 := bd_o c2 (by rw [e1.2]; exact ho.1)
      have hq2 : q = (V 42 b).toInt.toNat + 1 := by omega
      rw [r.bd (by omega), hq2] at g2
      have c4 := bd_ex U b _ g2
      rw [c3] at c4
      cases c4
    · rw [r.bd (by omega)] at g2
      rw [r.2 q (by omega)]
      exact h1 q (by omega) g2
  · rw [r.bd (by omega)] at g2
    rw [r.2 q (by omega)]
    exact h1 q (by omega) g2
theorem CO.pt {V W : Vf} {b a : Nat} {x : Int32} (h : CO V b) (e : W = up2 V 48 (8200 * b + a) x) (h1 : (bdp V b a).2 = true) : CO W b := by
  have e42 : W 42 b = V 42 b := up2_o e (by decide)
  intro q g1 g2
  rw [e42] at g1
  rw [bd_pt e h1] at g2
  have hq : ¬ q = a := by
    intro hq
    have := bd_ex V b q g2
    rw [hq, h1] at this
    cases this
  rw [up2_k e (fun z => hq (Nat.add_left_cancel z))]
  exact h q g1 g2
/-- both -/
def CD (V : Vf) (b : Nat) : Prop := CB V b ∧ CO V b
/-- a jump's number is set to where the code ends -/
theorem CB.pt {V W : Vf} {b a : Nat} {x : Int32} (h : CB V b) (e : W = up2 V 48 (8200 * b + (a + 1)) x) (h1 : (bdp V b (a + 1)).2 = true) (h2 : (V 48 (8200 * b + a)).toInt = 13 ∨ (V 48 (8200 * b + a)).toInt = 14) (hx : x.toInt = (V 42 b).toInt) (h0 : 0 ≤ (V 42 b).toInt) (h8 : (V 42 b).toInt ≤ 8200) : CB W b := by
  have bd := bd_pt e h1
  have e42 : W 42 b = V 42 b := up2_o e (by decide)
  refine ⟨fun q => ?_, fun q g1 g2 => ?_⟩
  · rw [e42] at q ⊢
    rw [bd]
    exact h.1 q
  · rw [e42] at g1
    rw [bd] at g2
    have g3 := h.2 q g1 g2
    have oku : ∀ o w, okO V b o w → okO W b o w := fun o w z => by
      refine ⟨z.1, z.2.1, fun y => ?_⟩
      rcases z.2.2 y with r | r
      · exact Or.inl r
      · right
        rw [bd, e42]
        exact r
    have hne : ¬ q = a + 1 := by
      intro hq
      have hb : (bdp V b q).1 = true := by
        have g4 : ((bdp V b q).1 && decide (10 ≤ (V 48 (8200 * b + q)).toInt)) = true := g2
        cases hz : (bdp V b q).1 with
        | false => rw [hz] at g4; cases g4
        | true => rfl
      have := bd_ex V b q hb
      rw [hq, h1] at this
      cases this
    by_cases hq : q = a
    · subst hq
      have e2 : W 48 (8200 * b + (q + 1)) = x := up2_s e
      have e1 : W 48 (8200 * b + q) = V 48 (8200 * b + q) := up2_k e (by omega)
      rw [e1, e2]
      refine ⟨fun z => ?_, fun z => ?_, fun _ => ?_⟩
      · rcases h2 with y | y <;> omega
      · rcases h2 with y | y <;> omega
      · by_cases hc : (V 42 b).toInt < 8200
        · right
          rw [bd, e42, hx]
          exact ⟨h0, Int.le_refl _, h.1 hc⟩
        · left
          omega
    · have e1 : W 48 (8200 * b + q) = V 48 (8200 * b + q) := up2_k e (by omega)
      have e2 : W 48 (8200 * b + (q + 1)) = V 48 (8200 * b + (q + 1)) := up2_k e (by omega)
      rw [e1, e2]
      exact oku _ _ g3
theorem p0x.pt {V U W : Vf} {b k : Nat} {x : Int32} (h : p0x V U b) (e : W = up2 U 48 (8200 * b + k) x) (hk : (V 42 b).toInt ≤ (k : Int)) : p0x V W b :=
  ⟨by rw [up2_o e (show ¬ 42 = 48 from by decide)]; exact h.1, fun j hj => (up2_k e (by omega)).trans (h.2 j hj)⟩
/-- and no component was told -/
def px (V W : Vf) (b : Nat) : Prop := p0x V W b ∧ W 43 (5 * b + 2) = V 43 (5 * b + 2)
theorem px.rf {V : Vf} {b : Nat} : px V V b := ⟨p0x.rf, rfl⟩
theorem px.tr {V W X : Vf} {b : Nat} (h : px V W b) (h2 : px W X b) : px V X b := ⟨h.1.tr h2.1, h2.2.trans h.2⟩
theorem px.ag {fs : List (Nat × Nat)} {cs : List Nat} {V W : Vf} {b : Nat} (a : agr fs cs V W) (q1 : ∀ k, wrL fs cs 42 k = false) (q2 : ∀ k, wrL fs cs 48 k = false) (q3 : ∀ k, wrL fs cs 43 k = false) : px V W b := ⟨p0x.ag a q1 q2, a _ _ (q3 _)⟩
/-- a place where an E begins -/
def gs (V : Vf) (b : Nat) (s : Int) : Prop := 8200 ≤ s ∨ (0 ≤ s ∧ s ≤ (V 42 b).toInt ∧ (bdp V b s.toNat).1 = true)
theorem gs.up {V W : Vf} {b : Nat} {s : Int} (h : gs V b s) (p : p0x V W b) : gs W b s := by
  rcases h with r | r
  · exact Or.inl r
  · right
    rw [p.bd (by omega)]
    have := p.1
    exact ⟨r.1, by omega, r.2.2⟩
theorem CB.gs {V : Vf} {b : Nat} (h : CB V b) (h0 : 0 ≤ (V 42 b).toInt) : gs V b (V 42 b).toInt := by
  by_cases hc : (V 42 b).toInt < 8200
  · exact Or.inr ⟨h0, Int.le_refl _, h.1 hc⟩
  · exact Or.inl (by omega)
/-- the order at b's place p is a jump whose number is to be set: if there is room for it -/
def jp (V : Vf) (b p : Nat) : Prop := p + 1 < 8200 → ((p : Int) + 1 < (V 42 b).toInt ∧ (bdp V b (p + 1)).2 = true ∧ ((V 48 (8200 * b + p)).toInt = 13 ∨ (V 48 (8200 * b + p)).toInt = 14))
theorem jp.up {V W : Vf} {b p : Nat} (h : jp V b p) (q : p0x V W b) : jp W b p := by
  intro hp
  have z := h hp
  have := q.1
  rw [q.bd (by omega), q.2 p (by omega)]
  exact ⟨by omega, z.2⟩
theorem jp.mk {V U W : Vf} {b : Nat} {o w : Int32} (h : CB V b) (e : emX V U b o) (f : emX U W b w) (h0 : 0 ≤ (V 42 b).toInt) (ho : o.toInt = 13 ∨ o.toInt = 14) : jp W b (V 42 b).toInt.toNat := by
  intro hp
  have p := e.p0x
  have r := f.p0x
  have t := p.tr r
  have c1 := h.1 (by omega)
  have c2 : (bdp W b (V 42 b).toInt.toNat).1 = true := by rw [t.bd (by omega)]; exact c1
  have e1 : (U 42 b).toInt = (V 42 b).toInt + 1 ∧ U 48 (8200 * b + (V 42 b).toInt.toNat) = o := by
    rcases e with e | e
    · exact ⟨e.2.1, e.2.2.1⟩
    · omega
  have e2 : W 48 (8200 * b + (V 42 b).toInt.toNat) = o := (r.2 _ (by omega)).trans e1.2
  refine ⟨?_, bd_o c2 (by rw [e2]; rcases ho with y | y <;> omega), by rw [e2]; exact ho⟩
  rcases f with f | f <;> omega

theorem w1100 : Cond.methodLink RX2 57 yJ7_fill_53178 ∈ GW := gw_k tk9_4 225 (by decide +kernel) rfl
theorem w1069 : Cond.methodLink RX2 49 yX0_isThere ∈ GW := gw_k tk9_4 194 (by decide +kernel) rfl
theorem w1076 : Cond.code yX2_examineNeeds cX2_examineNeeds 4 none ∈ GW := gw_k tk9_4 201 (rfl) rfl
theorem w1073 : Cond.methodLink RX2 53 yX2_examineNeeds ∈ GW := gw_k tk9_4 198 (by decide +kernel) rfl
theorem w1075 : Cond.instanceMethod yX2_examineNeeds ∈ GW := gw_k tk9_4 200 (by decide +kernel) rfl
theorem w34 : Cond.selects RX2 yX2_examineNeeds yX2_examineNeeds ∈ GW := gw_mem 34 (by decide +kernel) rfl
theorem hdV_yX2_examineNeeds : yX2_examineNeeds.cls = RX2 ∧ yX2_examineNeeds.cls ≠ "java/lang/invoke/MethodHandle" ∧ yX2_examineNeeds.cls ≠ "java/lang/invoke/VarHandle" ∧ (parseMethodDescriptor yX2_examineNeeds.desc).map (fun d => d.parameters.length) = some 1 := by decide +kernel
theorem w623 : Cond.fieldLink RX0 54 "WiringHouse$Book" "code" "[I" ∈ GW := gw_k tk9_2 228 (by decide +kernel) rfl
theorem w304 : Cond.fieldLink RX1 9 "WiringHouse$BookReader" "tape" "LWiringHouse$Tape;" ∈ GW := gw_k tk9_1 149 (by decide +kernel) rfl
theorem n266 : lw_tbl[266]? = some (Cond.fieldLinkNest RX1 261 "WiringHouse$Tape" "start" "I" "WiringHouse") := la9 (n := 155) (i := 111) lz9 (lb9 (i := 111) (by decide +kernel))
theorem w307 : Cond.fieldLink RX1 28 "WiringHouse$BookReader" "fault" "I" ∈ GW := gw_k tk9_1 152 (by decide +kernel) rfl
theorem n262 : lw_tbl[262]? = some (Cond.fieldLinkNest RX1 37 "WiringHouse$Tape" "kind" "I" "WiringHouse") := la9 (n := 155) (i := 107) lz9 (lb9 (i := 107) (by decide +kernel))
theorem w854 : Cond.code yX9_next cX9_next 1 none ∈ GW := gw_k tk9_3 219 (rfl) rfl
theorem w871 : Cond.methodLink RX1 72 yX9_next ∈ GW := gw_k tk9_3 236 (by decide +kernel) rfl
theorem w852 : Cond.instanceMethod yX9_next ∈ GW := gw_k tk9_3 217 (by decide +kernel) rfl
theorem w853 : Cond.selects RX9 yX9_next yX9_next ∈ GW := gw_k tk9_3 218 (by decide +kernel) rfl
theorem hdV_yX9_next : yX9_next.cls = RX9 ∧ yX9_next.cls ≠ "java/lang/invoke/MethodHandle" ∧ yX9_next.cls ≠ "java/lang/invoke/VarHandle" ∧ (parseMethodDescriptor yX9_next.desc).map (fun d => d.parameters.length) = some 0 := by decide +kernel
theorem w870 : Cond.code yX1_wrong cX1_wrong 2 (some .boolean) ∈ GW := gw_k tk9_3 235 (rfl) rfl
theorem w867 : Cond.methodLink RX1 47 yX1_wrong ∈ GW := gw_k tk9_3 232 (by decide +kernel) rfl
theorem w162 : Cond.initialized RX1 ∈ GW := gw_k tk9_1 7 (by decide +kernel) rfl
theorem w869 : Cond.instanceMethod yX1_wrong ∈ GW := gw_k tk9_3 234 (by decide +kernel) rfl
theorem w6 : Cond.selects RX1 yX1_wrong yX1_wrong ∈ GW := gw_mem 6 (by decide +kernel) rfl
theorem hdV_yX1_wrong : yX1_wrong.cls = RX1 ∧ yX1_wrong.cls ≠ "java/lang/invoke/MethodHandle" ∧ yX1_wrong.cls ≠ "java/lang/invoke/VarHandle" ∧ (parseMethodDescriptor yX1_wrong.desc).map (fun d => d.parameters.length) = some 1 := by decide +kernel
theorem n269 : lw_tbl[269]? = some (Cond.fieldLinkNest RX1 222 "WiringHouse$Tape" "value" "J" "WiringHouse") := la9 (n := 155) (i := 114) lz9 (lb9 (i := 114) (by decide +kernel))
theorem w312 : Cond.fieldLink RX1 110 "WiringHouse$BookReader" "number" "I" ∈ GW := gw_k tk9_1 157 (by decide +kernel) rfl
theorem w305 : Cond.fieldLink RX1 15 "WiringHouse$BookReader" "book" "LWiringHouse$Book;" ∈ GW := gw_k tk9_1 150 (by decide +kernel) rfl
theorem w879 : Cond.code yX0_isTold cX0_isTold 3 (some .boolean) ∈ GW := gw_k tk9_4 4 (rfl) rfl
theorem w876 : Cond.methodLink RX1 244 yX0_isTold ∈ GW := gw_k tk9_4 1 (by decide +kernel) rfl
theorem w877 : Cond.instanceMethod yX0_isTold ∈ GW := gw_k tk9_4 2 (by decide +kernel) rfl
theorem w878 : Cond.selects RX0 yX0_isTold yX0_isTold ∈ GW := gw_k tk9_4 3 (by decide +kernel) rfl
theorem hdV_yX0_isTold : yX0_isTold.cls = RX0 ∧ yX0_isTold.cls ≠ "java/lang/invoke/MethodHandle" ∧ yX0_isTold.cls ≠ "java/lang/invoke/VarHandle" ∧ (parseMethodDescriptor yX0_isTold.desc).map (fun d => d.parameters.length) = some 1 := by decide +kernel
theorem w309 : Cond.fieldLink RX1 78 "WiringHouse$BookReader" "word" "J" ∈ GW := gw_k tk9_1 154 (by decide +kernel) rfl
theorem n594 : lw_tbl[594]? = some (Cond.fieldLinkNest RX1 63 "WiringHouse$Book" "types" "LWiringHouse$Names;" "WiringHouse") := la9 (n := 155) (i := 439) lz9 (la9 (n := 240) (i := 199) ln9_1 (lb9 (i := 199) (by decide +kernel)))
theorem w892 : Cond.methodLink RX1 248 yX6_find ∈ GW := gw_k tk9_4 17 (by decide +kernel) rfl
theorem w310 : Cond.fieldLink RX1 137 "WiringHouse$BookReader" "found" "I" ∈ GW := gw_k tk9_1 155 (by decide +kernel) rfl
theorem n597 : lw_tbl[597]? = some (Cond.fieldLinkNest RX1 99 "WiringHouse$Book" "settings" "LWiringHouse$Names;" "WiringHouse") := la9 (n := 155) (i := 442) lz9 (la9 (n := 240) (i := 202) ln9_1 (lb9 (i := 202) (by decide +kernel)))
theorem dk9_dX2_examine_0_0 : dOk cX2_examine [(0, .aload_n 0, 1), (1, .aload_n 1, 1), (2, .putfield 34, 3), (5, .aload_n 0, 1), (6, .iconst 0, 1), (7, .putfield 30, 3), (10, .iconst 0, 1), (11, .istore_n 2, 1), (12, .iload_n 2, 1), (13, .aload_n 0, 1), (14, .getfield 34, 3), (17, .getfield 38, 3), (20, .getfield 44, 3), (23, .if_icmp .ge 25, 3), (48, .aload_n 0, 1), (49, .getfield 27, 3), (52, .iconst (-1), 1), (53, .invokestatic 57, 3), (56, .iconst 0, 1), (57, .istore_n 2, 1), (58, .iload_n 2, 1), (59, .aload_n 0, 1), (60, .getfield 34, 3), (63, .getfield 38, 3)] = true ∧ dOk cX2_examine [(66, .getfield 44, 3), (69, .if_icmp .ge 36, 3), (105, .aload_n 0, 1), (106, .getfield 30, 3), (109, .ireturn, 1), (72, .aload_n 0, 1), (73, .getfield 34, 3), (76, .iload_n 2, 1), (77, .invokevirtual 49, 3), (80, .ifCond .eq 19, 3), (99, .iinc 2 1, 3), (102, .goto (-44), 3), (83, .aload_n 0, 1), (84, .getfield 27, 3), (87, .iload_n 2, 1), (88, .iaload, 1), (89, .iconst (-1), 1), (90, .if_icmp .ne 9, 3), (93, .aload_n 0, 1), (94, .iload_n 2, 1), (95, .iconst 0, 1), (96, .invokevirtual 63, 3), (26, .aload_n 0, 1), (27, .getfield 34, 3)] = true ∧ dOk cX2_examine [(30, .iload_n 2, 1), (31, .invokevirtual 49, 3), (34, .ifCond .eq 8, 3), (42, .iinc 2 1, 3), (45, .goto (-33), 3), (37, .aload_n 0, 1), (38, .iload_n 2, 1), (39, .invokevirtual 53, 3)] = true := by decide +kernel
theorem dX2_examine_0 : decode cX2_examine 0 = .ok (.aload_n 0, 1) := dr9 dk9_dX2_examine_0_0.1 0 (0, .aload_n 0, 1) rfl
theorem dX2_examine_1 : decode cX2_examine 1 = .ok (.aload_n 1, 1) := dr9 dk9_dX2_examine_0_0.1 1 (1, .aload_n 1, 1) rfl
theorem dX2_examine_2 : decode cX2_examine 2 = .ok (.putfield 34, 3) := dr9 dk9_dX2_examine_0_0.1 2 (2, .putfield 34, 3) rfl
theorem dX2_examine_5 : decode cX2_examine 5 = .ok (.aload_n 0, 1) := dr9 dk9_dX2_examine_0_0.1 3 (5, .aload_n 0, 1) rfl
theorem dX2_examine_6 : decode cX2_examine 6 = .ok (.iconst 0, 1) := dr9 dk9_dX2_examine_0_0.1 4 (6, .iconst 0, 1) rfl
theorem dX2_examine_7 : decode cX2_examine 7 = .ok (.putfield 30, 3) := dr9 dk9_dX2_examine_0_0.1 5 (7, .putfield 30, 3) rfl
theorem dX2_examine_10 : decode cX2_examine 10 = .ok (.iconst 0, 1) := dr9 dk9_dX2_examine_0_0.1 6 (10, .iconst 0, 1) rfl
theorem dX2_examine_11 : decode cX2_examine 11 = .ok (.istore_n 2, 1) := dr9 dk9_dX2_examine_0_0.1 7 (11, .istore_n 2, 1) rfl
theorem dX2_examine_12 : decode cX2_examine 12 = .ok (.iload_n 2, 1) := dr9 dk9_dX2_examine_0_0.1 8 (12, .iload_n 2, 1) rfl
theorem dX2_examine_13 : decode cX2_examine 13 = .ok (.aload_n 0, 1) := dr9 dk9_dX2_examine_0_0.1 9 (13, .aload_n 0, 1) rfl
theorem dX2_examine_14 : decode cX2_examine 14 = .ok (.getfield 34, 3) := dr9 dk9_dX2_examine_0_0.1 10 (14, .getfield 34, 3) rfl
theorem dX2_examine_17 : decode cX2_examine 17 = .ok (.getfield 38, 3) := dr9 dk9_dX2_examine_0_0.1 11 (17, .getfield 38, 3) rfl
theorem dX2_examine_20 : decode cX2_examine 20 = .ok (.getfield 44, 3) := dr9 dk9_dX2_examine_0_0.1 12 (20, .getfield 44, 3) rfl
theorem dX2_examine_23 : decode cX2_examine 23 = .ok (.if_icmp .ge 25, 3) := dr9 dk9_dX2_examine_0_0.1 13 (23, .if_icmp .ge 25, 3) rfl
theorem dX2_examine_48 : decode cX2_examine 48 = .ok (.aload_n 0, 1) := dr9 dk9_dX2_examine_0_0.1 14 (48, .aload_n 0, 1) rfl
theorem dX2_examine_49 : decode cX2_examine 49 = .ok (.getfield 27, 3) := dr9 dk9_dX2_examine_0_0.1 15 (49, .getfield 27, 3) rfl
theorem dX2_examine_52 : decode cX2_examine 52 = .ok (.iconst (-1), 1) := dr9 dk9_dX2_examine_0_0.1 16 (52, .iconst (-1), 1) rfl
theorem dX2_examine_53 : decode cX2_examine 53 = .ok (.invokestatic 57, 3) := dr9 dk9_dX2_examine_0_0.1 17 (53, .invokestatic 57, 3) rfl
theorem dX2_examine_56 : decode cX2_examine 56 = .ok (.iconst 0, 1) := dr9 dk9_dX2_examine_0_0.1 18 (56, .iconst 0, 1) rfl
theorem dX2_examine_57 : decode cX2_examine 57 = .ok (.istore_n 2, 1) := dr9 dk9_dX2_examine_0_0.1 19 (57, .istore_n 2, 1) rfl
theorem dX2_examine_58 : decode cX2_examine 58 = .ok (.iload_n 2, 1) := dr9 dk9_dX2_examine_0_0.1 20 (58, .iload_n 2, 1) rfl
theorem dX2_examine_59 : decode cX2_examine 59 = .ok (.aload_n 0, 1) := dr9 dk9_dX2_examine_0_0.1 21 (59, .aload_n 0, 1) rfl
theorem dX2_examine_60 : decode cX2_examine 60 = .ok (.getfield 34, 3) := dr9 dk9_dX2_examine_0_0.1 22 (60, .getfield 34, 3) rfl
theorem dX2_examine_63 : decode cX2_examine 63 = .ok (.getfield 38, 3) := dr9 dk9_dX2_examine_0_0.1 23 (63, .getfield 38, 3) rfl
theorem dX2_examine_66 : decode cX2_examine 66 = .ok (.getfield 44, 3) := dr9 dk9_dX2_examine_0_0.2.1 0 (66, .getfield 44, 3) rfl
theorem dX2_examine_69 : decode cX2_examine 69 = .ok (.if_icmp .ge 36, 3) := dr9 dk9_dX2_examine_0_0.2.1 1 (69, .if_icmp .ge 36, 3) rfl
theorem dX2_examine_105 : decode cX2_examine 105 = .ok (.aload_n 0, 1) := dr9 dk9_dX2_examine_0_0.2.1 2 (105, .aload_n 0, 1) rfl
theorem dX2_examine_106 : decode cX2_examine 106 = .ok (.getfield 30, 3) := dr9 dk9_dX2_examine_0_0.2.1 3 (106, .getfield 30, 3) rfl
theorem dX2_examine_109 : decode cX2_examine 109 = .ok (.ireturn, 1) := dr9 dk9_dX2_examine_0_0.2.1 4 (109, .ireturn, 1) rfl
theorem dX2_examine_72 : decode cX2_examine 72 = .ok (.aload_n 0, 1) := dr9 dk9_dX2_examine_0_0.2.1 5 (72, .aload_n 0, 1) rfl
theorem dX2_examine_73 : decode cX2_examine 73 = .ok (.getfield 34, 3) := dr9 dk9_dX2_examine_0_0.2.1 6 (73, .getfield 34, 3) rfl
theorem dX2_examine_76 : decode cX2_examine 76 = .ok (.iload_n 2, 1) := dr9 dk9_dX2_examine_0_0.2.1 7 (76, .iload_n 2, 1) rfl
theorem dX2_examine_77 : decode cX2_examine 77 = .ok (.invokevirtual 49, 3) := dr9 dk9_dX2_examine_0_0.2.1 8 (77, .invokevirtual 49, 3) rfl
theorem dX2_examine_80 : decode cX2_examine 80 = .ok (.ifCond .eq 19, 3) := dr9 dk9_dX2_examine_0_0.2.1 9 (80, .ifCond .eq 19, 3) rfl
theorem dX2_examine_99 : decode cX2_examine 99 = .ok (.iinc 2 1, 3) := dr9 dk9_dX2_examine_0_0.2.1 10 (99, .iinc 2 1, 3) rfl
theorem dX2_examine_102 : decode cX2_examine 102 = .ok (.goto (-44), 3) := dr9 dk9_dX2_examine_0_0.2.1 11 (102, .goto (-44), 3) rfl
theorem dX2_examine_83 : decode cX2_examine 83 = .ok (.aload_n 0, 1) := dr9 dk9_dX2_examine_0_0.2.1 12 (83, .aload_n 0, 1) rfl
theorem dX2_examine_84 : decode cX2_examine 84 = .ok (.getfield 27, 3) := dr9 dk9_dX2_examine_0_0.2.1 13 (84, .getfield 27, 3) rfl
theorem dX2_examine_87 : decode cX2_examine 87 = .ok (.iload_n 2, 1) := dr9 dk9_dX2_examine_0_0.2.1 14 (87, .iload_n 2, 1) rfl
theorem dX2_examine_88 : decode cX2_examine 88 = .ok (.iaload, 1) := dr9 dk9_dX2_examine_0_0.2.1 15 (88, .iaload, 1) rfl
theorem dX2_examine_89 : decode cX2_examine 89 = .ok (.iconst (-1), 1) := dr9 dk9_dX2_examine_0_0.2.1 16 (89, .iconst (-1), 1) rfl
theorem dX2_examine_90 : decode cX2_examine 90 = .ok (.if_icmp .ne 9, 3) := dr9 dk9_dX2_examine_0_0.2.1 17 (90, .if_icmp .ne 9, 3) rfl
theorem dX2_examine_93 : decode cX2_examine 93 = .ok (.aload_n 0, 1) := dr9 dk9_dX2_examine_0_0.2.1 18 (93, .aload_n 0, 1) rfl
theorem dX2_examine_94 : decode cX2_examine 94 = .ok (.iload_n 2, 1) := dr9 dk9_dX2_examine_0_0.2.1 19 (94, .iload_n 2, 1) rfl
theorem dX2_examine_95 : decode cX2_examine 95 = .ok (.iconst 0, 1) := dr9 dk9_dX2_examine_0_0.2.1 20 (95, .iconst 0, 1) rfl
theorem dX2_examine_96 : decode cX2_examine 96 = .ok (.invokevirtual 63, 3) := dr9 dk9_dX2_examine_0_0.2.1 21 (96, .invokevirtual 63, 3) rfl
theorem dX2_examine_26 : decode cX2_examine 26 = .ok (.aload_n 0, 1) := dr9 dk9_dX2_examine_0_0.2.1 22 (26, .aload_n 0, 1) rfl
theorem dX2_examine_27 : decode cX2_examine 27 = .ok (.getfield 34, 3) := dr9 dk9_dX2_examine_0_0.2.1 23 (27, .getfield 34, 3) rfl
theorem dX2_examine_30 : decode cX2_examine 30 = .ok (.iload_n 2, 1) := dr9 dk9_dX2_examine_0_0.2.2 0 (30, .iload_n 2, 1) rfl
theorem dX2_examine_31 : decode cX2_examine 31 = .ok (.invokevirtual 49, 3) := dr9 dk9_dX2_examine_0_0.2.2 1 (31, .invokevirtual 49, 3) rfl
theorem dX2_examine_34 : decode cX2_examine 34 = .ok (.ifCond .eq 8, 3) := dr9 dk9_dX2_examine_0_0.2.2 2 (34, .ifCond .eq 8, 3) rfl
theorem dX2_examine_42 : decode cX2_examine 42 = .ok (.iinc 2 1, 3) := dr9 dk9_dX2_examine_0_0.2.2 3 (42, .iinc 2 1, 3) rfl
theorem dX2_examine_45 : decode cX2_examine 45 = .ok (.goto (-33), 3) := dr9 dk9_dX2_examine_0_0.2.2 4 (45, .goto (-33), 3) rfl
theorem dX2_examine_37 : decode cX2_examine 37 = .ok (.aload_n 0, 1) := dr9 dk9_dX2_examine_0_0.2.2 5 (37, .aload_n 0, 1) rfl
theorem dX2_examine_38 : decode cX2_examine 38 = .ok (.iload_n 2, 1) := dr9 dk9_dX2_examine_0_0.2.2 6 (38, .iload_n 2, 1) rfl
theorem dX2_examine_39 : decode cX2_examine 39 = .ok (.invokevirtual 53, 3) := dr9 dk9_dX2_examine_0_0.2.2 7 (39, .invokevirtual 53, 3) rfl
theorem dk9_dX0_emit_0_0 : dOk cX0_emit [(0, .aload_n 0, 1), (1, .getfield 66, 3), (4, .sipush 8200, 3), (7, .if_icmp .ge 20, 3), (27, .return_, 1), (10, .aload_n 0, 1), (11, .getfield 54, 3), (14, .aload_n 0, 1), (15, .dup, 1), (16, .getfield 66, 3), (19, .dup_x1, 1), (20, .iconst 1, 1), (21, .iadd, 1), (22, .putfield 66, 3), (25, .iload_n 1, 1), (26, .iastore, 1)] = true := by decide +kernel
theorem dX0_emit_0 : decode cX0_emit 0 = .ok (.aload_n 0, 1) := dr9 dk9_dX0_emit_0_0 0 (0, .aload_n 0, 1) rfl
theorem dX0_emit_1 : decode cX0_emit 1 = .ok (.getfield 66, 3) := dr9 dk9_dX0_emit_0_0 1 (1, .getfield 66, 3) rfl
theorem dX0_emit_4 : decode cX0_emit 4 = .ok (.sipush 8200, 3) := dr9 dk9_dX0_emit_0_0 2 (4, .sipush 8200, 3) rfl
theorem dX0_emit_7 : decode cX0_emit 7 = .ok (.if_icmp .ge 20, 3) := dr9 dk9_dX0_emit_0_0 3 (7, .if_icmp .ge 20, 3) rfl
theorem dX0_emit_27 : decode cX0_emit 27 = .ok (.return_, 1) := dr9 dk9_dX0_emit_0_0 4 (27, .return_, 1) rfl
theorem dX0_emit_10 : decode cX0_emit 10 = .ok (.aload_n 0, 1) := dr9 dk9_dX0_emit_0_0 5 (10, .aload_n 0, 1) rfl
theorem dX0_emit_11 : decode cX0_emit 11 = .ok (.getfield 54, 3) := dr9 dk9_dX0_emit_0_0 6 (11, .getfield 54, 3) rfl
theorem dX0_emit_14 : decode cX0_emit 14 = .ok (.aload_n 0, 1) := dr9 dk9_dX0_emit_0_0 7 (14, .aload_n 0, 1) rfl
theorem dX0_emit_15 : decode cX0_emit 15 = .ok (.dup, 1) := dr9 dk9_dX0_emit_0_0 8 (15, .dup, 1) rfl
theorem dX0_emit_16 : decode cX0_emit 16 = .ok (.getfield 66, 3) := dr9 dk9_dX0_emit_0_0 9 (16, .getfield 66, 3) rfl
theorem dX0_emit_19 : decode cX0_emit 19 = .ok (.dup_x1, 1) := dr9 dk9_dX0_emit_0_0 10 (19, .dup_x1, 1) rfl
theorem dX0_emit_20 : decode cX0_emit 20 = .ok (.iconst 1, 1) := dr9 dk9_dX0_emit_0_0 11 (20, .iconst 1, 1) rfl
theorem dX0_emit_21 : decode cX0_emit 21 = .ok (.iadd, 1) := dr9 dk9_dX0_emit_0_0 12 (21, .iadd, 1) rfl
theorem dX0_emit_22 : decode cX0_emit 22 = .ok (.putfield 66, 3) := dr9 dk9_dX0_emit_0_0 13 (22, .putfield 66, 3) rfl
theorem dX0_emit_25 : decode cX0_emit 25 = .ok (.iload_n 1, 1) := dr9 dk9_dX0_emit_0_0 14 (25, .iload_n 1, 1) rfl
theorem dX0_emit_26 : decode cX0_emit 26 = .ok (.iastore, 1) := dr9 dk9_dX0_emit_0_0 15 (26, .iastore, 1) rfl
theorem dk9_dX0_patch_0_0 : dOk cX0_patch [(0, .iload_n 1, 1), (1, .ifCond .lt 17, 3), (18, .return_, 1), (4, .iload_n 1, 1), (5, .sipush 8200, 3), (8, .if_icmp .ge 10, 3), (11, .aload_n 0, 1), (12, .getfield 54, 3), (15, .iload_n 1, 1), (16, .iload_n 2, 1), (17, .iastore, 1)] = true := by decide +kernel
theorem dX0_patch_0 : decode cX0_patch 0 = .ok (.iload_n 1, 1) := dr9 dk9_dX0_patch_0_0 0 (0, .iload_n 1, 1) rfl
theorem dX0_patch_1 : decode cX0_patch 1 = .ok (.ifCond .lt 17, 3) := dr9 dk9_dX0_patch_0_0 1 (1, .ifCond .lt 17, 3) rfl
theorem dX0_patch_18 : decode cX0_patch 18 = .ok (.return_, 1) := dr9 dk9_dX0_patch_0_0 2 (18, .return_, 1) rfl
theorem dX0_patch_4 : decode cX0_patch 4 = .ok (.iload_n 1, 1) := dr9 dk9_dX0_patch_0_0 3 (4, .iload_n 1, 1) rfl
theorem dX0_patch_5 : decode cX0_patch 5 = .ok (.sipush 8200, 3) := dr9 dk9_dX0_patch_0_0 4 (5, .sipush 8200, 3) rfl
theorem dX0_patch_8 : decode cX0_patch 8 = .ok (.if_icmp .ge 10, 3) := dr9 dk9_dX0_patch_0_0 5 (8, .if_icmp .ge 10, 3) rfl
theorem dX0_patch_11 : decode cX0_patch 11 = .ok (.aload_n 0, 1) := dr9 dk9_dX0_patch_0_0 6 (11, .aload_n 0, 1) rfl
theorem dX0_patch_12 : decode cX0_patch 12 = .ok (.getfield 54, 3) := dr9 dk9_dX0_patch_0_0 7 (12, .getfield 54, 3) rfl
theorem dX0_patch_15 : decode cX0_patch 15 = .ok (.iload_n 1, 1) := dr9 dk9_dX0_patch_0_0 8 (15, .iload_n 1, 1) rfl
theorem dX0_patch_16 : decode cX0_patch 16 = .ok (.iload_n 2, 1) := dr9 dk9_dX0_patch_0_0 9 (16, .iload_n 2, 1) rfl
theorem dX0_patch_17 : decode cX0_patch 17 = .ok (.iastore, 1) := dr9 dk9_dX0_patch_0_0 10 (17, .iastore, 1) rfl
theorem dk9_dX1_wrong_0_0 : dOk cX1_wrong [(0, .aload_n 0, 1), (1, .iload_n 1, 1), (2, .bipush 16, 2), (4, .aload_n 0, 1), (5, .getfield 9, 3), (8, .getfield 261, 3), (11, .imul, 1), (12, .iadd, 1), (13, .putfield 28, 3), (16, .iconst 0, 1), (17, .ireturn, 1)] = true := by decide +kernel
theorem dX1_wrong_0 : decode cX1_wrong 0 = .ok (.aload_n 0, 1) := dr9 dk9_dX1_wrong_0_0 0 (0, .aload_n 0, 1) rfl
theorem dX1_wrong_1 : decode cX1_wrong 1 = .ok (.iload_n 1, 1) := dr9 dk9_dX1_wrong_0_0 1 (1, .iload_n 1, 1) rfl
theorem dX1_wrong_2 : decode cX1_wrong 2 = .ok (.bipush 16, 2) := dr9 dk9_dX1_wrong_0_0 2 (2, .bipush 16, 2) rfl
theorem dX1_wrong_4 : decode cX1_wrong 4 = .ok (.aload_n 0, 1) := dr9 dk9_dX1_wrong_0_0 3 (4, .aload_n 0, 1) rfl
theorem dX1_wrong_5 : decode cX1_wrong 5 = .ok (.getfield 9, 3) := dr9 dk9_dX1_wrong_0_0 4 (5, .getfield 9, 3) rfl
theorem dX1_wrong_8 : decode cX1_wrong 8 = .ok (.getfield 261, 3) := dr9 dk9_dX1_wrong_0_0 5 (8, .getfield 261, 3) rfl
theorem dX1_wrong_11 : decode cX1_wrong 11 = .ok (.imul, 1) := dr9 dk9_dX1_wrong_0_0 6 (11, .imul, 1) rfl
theorem dX1_wrong_12 : decode cX1_wrong 12 = .ok (.iadd, 1) := dr9 dk9_dX1_wrong_0_0 7 (12, .iadd, 1) rfl
theorem dX1_wrong_13 : decode cX1_wrong 13 = .ok (.putfield 28, 3) := dr9 dk9_dX1_wrong_0_0 8 (13, .putfield 28, 3) rfl
theorem dX1_wrong_16 : decode cX1_wrong 16 = .ok (.iconst 0, 1) := dr9 dk9_dX1_wrong_0_0 9 (16, .iconst 0, 1) rfl
theorem dX1_wrong_17 : decode cX1_wrong 17 = .ok (.ireturn, 1) := dr9 dk9_dX1_wrong_0_0 10 (17, .ireturn, 1) rfl
theorem dk9_dX1_take_0_0 : dOk cX1_take [(0, .aload_n 0, 1), (1, .getfield 9, 3), (4, .getfield 37, 3), (7, .iload_n 1, 1), (8, .if_icmp .eq 9, 3), (17, .aload_n 0, 1), (18, .getfield 9, 3), (21, .invokevirtual 72, 3), (24, .iconst 1, 1), (25, .ireturn, 1), (11, .aload_n 0, 1), (12, .iconst 1, 1), (13, .invokevirtual 47, 3), (16, .ireturn, 1)] = true := by decide +kernel
theorem dX1_take_0 : decode cX1_take 0 = .ok (.aload_n 0, 1) := dr9 dk9_dX1_take_0_0 0 (0, .aload_n 0, 1) rfl
theorem dX1_take_1 : decode cX1_take 1 = .ok (.getfield 9, 3) := dr9 dk9_dX1_take_0_0 1 (1, .getfield 9, 3) rfl
theorem dX1_take_4 : decode cX1_take 4 = .ok (.getfield 37, 3) := dr9 dk9_dX1_take_0_0 2 (4, .getfield 37, 3) rfl
theorem dX1_take_7 : decode cX1_take 7 = .ok (.iload_n 1, 1) := dr9 dk9_dX1_take_0_0 3 (7, .iload_n 1, 1) rfl
theorem dX1_take_8 : decode cX1_take 8 = .ok (.if_icmp .eq 9, 3) := dr9 dk9_dX1_take_0_0 4 (8, .if_icmp .eq 9, 3) rfl
theorem dX1_take_17 : decode cX1_take 17 = .ok (.aload_n 0, 1) := dr9 dk9_dX1_take_0_0 5 (17, .aload_n 0, 1) rfl
theorem dX1_take_18 : decode cX1_take 18 = .ok (.getfield 9, 3) := dr9 dk9_dX1_take_0_0 6 (18, .getfield 9, 3) rfl
theorem dX1_take_21 : decode cX1_take 21 = .ok (.invokevirtual 72, 3) := dr9 dk9_dX1_take_0_0 7 (21, .invokevirtual 72, 3) rfl
theorem dX1_take_24 : decode cX1_take 24 = .ok (.iconst 1, 1) := dr9 dk9_dX1_take_0_0 8 (24, .iconst 1, 1) rfl
theorem dX1_take_25 : decode cX1_take 25 = .ok (.ireturn, 1) := dr9 dk9_dX1_take_0_0 9 (25, .ireturn, 1) rfl
theorem dX1_take_11 : decode cX1_take 11 = .ok (.aload_n 0, 1) := dr9 dk9_dX1_take_0_0 10 (11, .aload_n 0, 1) rfl
theorem dX1_take_12 : decode cX1_take 12 = .ok (.iconst 1, 1) := dr9 dk9_dX1_take_0_0 11 (12, .iconst 1, 1) rfl
theorem dX1_take_13 : decode cX1_take 13 = .ok (.invokevirtual 47, 3) := dr9 dk9_dX1_take_0_0 12 (13, .invokevirtual 47, 3) rfl
theorem dX1_take_16 : decode cX1_take 16 = .ok (.ireturn, 1) := dr9 dk9_dX1_take_0_0 13 (16, .ireturn, 1) rfl
theorem dk9_dX1_takeNumber_0_0 : dOk cX1_takeNumber [(0, .aload_n 0, 1), (1, .getfield 9, 3), (4, .getfield 37, 3), (7, .iconst 2, 1), (8, .if_icmp .eq 9, 3), (17, .aload_n 0, 1), (18, .getfield 9, 3), (21, .getfield 222, 3), (24, .iload_n 1, 1), (25, .i2l, 1), (26, .lcmp, 1), (27, .ifCond .lt 16, 3), (43, .aload_n 0, 1), (44, .iconst 4, 1), (45, .invokevirtual 47, 3), (48, .ireturn, 1), (30, .aload_n 0, 1), (31, .getfield 9, 3), (34, .getfield 222, 3), (37, .iload_n 2, 1), (38, .i2l, 1), (39, .lcmp, 1), (40, .ifCond .le 9, 3), (49, .aload_n 0, 1)] = true ∧ dOk cX1_takeNumber [(50, .aload_n 0, 1), (51, .getfield 9, 3), (54, .getfield 222, 3), (57, .l2i, 1), (58, .putfield 110, 3), (61, .aload_n 0, 1), (62, .getfield 9, 3), (65, .invokevirtual 72, 3), (68, .iconst 1, 1), (69, .ireturn, 1), (11, .aload_n 0, 1), (12, .iconst 1, 1), (13, .invokevirtual 47, 3), (16, .ireturn, 1)] = true := by decide +kernel
theorem dX1_takeNumber_0 : decode cX1_takeNumber 0 = .ok (.aload_n 0, 1) := dr9 dk9_dX1_takeNumber_0_0.1 0 (0, .aload_n 0, 1) rfl
theorem dX1_takeNumber_1 : decode cX1_takeNumber 1 = .ok (.getfield 9, 3) := dr9 dk9_dX1_takeNumber_0_0.1 1 (1, .getfield 9, 3) rfl
theorem dX1_takeNumber_4 : decode cX1_takeNumber 4 = .ok (.getfield 37, 3) := dr9 dk9_dX1_takeNumber_0_0.1 2 (4, .getfield 37, 3) rfl
theorem dX1_takeNumber_7 : decode cX1_takeNumber 7 = .ok (.iconst 2, 1) := dr9 dk9_dX1_takeNumber_0_0.1 3 (7, .iconst 2, 1) rfl
theorem dX1_takeNumber_8 : decode cX1_takeNumber 8 = .ok (.if_icmp .eq 9, 3) := dr9 dk9_dX1_takeNumber_0_0.1 4 (8, .if_icmp .eq 9, 3) rfl
theorem dX1_takeNumber_17 : decode cX1_takeNumber 17 = .ok (.aload_n 0, 1) := dr9 dk9_dX1_takeNumber_0_0.1 5 (17, .aload_n 0, 1) rfl
theorem dX1_takeNumber_18 : decode cX1_takeNumber 18 = .ok (.getfield 9, 3) := dr9 dk9_dX1_takeNumber_0_0.1 6 (18, .getfield 9, 3) rfl
theorem dX1_takeNumber_21 : decode cX1_takeNumber 21 = .ok (.getfield 222, 3) := dr9 dk9_dX1_takeNumber_0_0.1 7 (21, .getfield 222, 3) rfl
theorem dX1_takeNumber_24 : decode cX1_takeNumber 24 = .ok (.iload_n 1, 1) := dr9 dk9_dX1_takeNumber_0_0.1 8 (24, .iload_n 1, 1) rfl
theorem dX1_takeNumber_25 : decode cX1_takeNumber 25 = .ok (.i2l, 1) := dr9 dk9_dX1_takeNumber_0_0.1 9 (25, .i2l, 1) rfl
theorem dX1_takeNumber_26 : decode cX1_takeNumber 26 = .ok (.lcmp, 1) := dr9 dk9_dX1_takeNumber_0_0.1 10 (26, .lcmp, 1) rfl
theorem dX1_takeNumber_27 : decode cX1_takeNumber 27 = .ok (.ifCond .lt 16, 3) := dr9 dk9_dX1_takeNumber_0_0.1 11 (27, .ifCond .lt 16, 3) rfl
theorem dX1_takeNumber_43 : decode cX1_takeNumber 43 = .ok (.aload_n 0, 1) := dr9 dk9_dX1_takeNumber_0_0.1 12 (43, .aload_n 0, 1) rfl
theorem dX1_takeNumber_44 : decode cX1_takeNumber 44 = .ok (.iconst 4, 1) := dr9 dk9_dX1_takeNumber_0_0.1 13 (44, .iconst 4, 1) rfl
theorem dX1_takeNumber_45 : decode cX1_takeNumber 45 = .ok (.invokevirtual 47, 3) := dr9 dk9_dX1_takeNumber_0_0.1 14 (45, .invokevirtual 47, 3) rfl
theorem dX1_takeNumber_48 : decode cX1_takeNumber 48 = .ok (.ireturn, 1) := dr9 dk9_dX1_takeNumber_0_0.1 15 (48, .ireturn, 1) rfl
theorem dX1_takeNumber_30 : decode cX1_takeNumber 30 = .ok (.aload_n 0, 1) := dr9 dk9_dX1_takeNumber_0_0.1 16 (30, .aload_n 0, 1) rfl
theorem dX1_takeNumber_31 : decode cX1_takeNumber 31 = .ok (.getfield 9, 3) := dr9 dk9_dX1_takeNumber_0_0.1 17 (31, .getfield 9, 3) rfl
theorem dX1_takeNumber_34 : decode cX1_takeNumber 34 = .ok (.getfield 222, 3) := dr9 dk9_dX1_takeNumber_0_0.1 18 (34, .getfield 222, 3) rfl
theorem dX1_takeNumber_37 : decode cX1_takeNumber 37 = .ok (.iload_n 2, 1) := dr9 dk9_dX1_takeNumber_0_0.1 19 (37, .iload_n 2, 1) rfl
theorem dX1_takeNumber_38 : decode cX1_takeNumber 38 = .ok (.i2l, 1) := dr9 dk9_dX1_takeNumber_0_0.1 20 (38, .i2l, 1) rfl
theorem dX1_takeNumber_39 : decode cX1_takeNumber 39 = .ok (.lcmp, 1) := dr9 dk9_dX1_takeNumber_0_0.1 21 (39, .lcmp, 1) rfl
theorem dX1_takeNumber_40 : decode cX1_takeNumber 40 = .ok (.ifCond .le 9, 3) := dr9 dk9_dX1_takeNumber_0_0.1 22 (40, .ifCond .le 9, 3) rfl
theorem dX1_takeNumber_49 : decode cX1_takeNumber 49 = .ok (.aload_n 0, 1) := dr9 dk9_dX1_takeNumber_0_0.1 23 (49, .aload_n 0, 1) rfl
theorem dX1_takeNumber_50 : decode cX1_takeNumber 50 = .ok (.aload_n 0, 1) := dr9 dk9_dX1_takeNumber_0_0.2 0 (50, .aload_n 0, 1) rfl
theorem dX1_takeNumber_51 : decode cX1_takeNumber 51 = .ok (.getfield 9, 3) := dr9 dk9_dX1_takeNumber_0_0.2 1 (51, .getfield 9, 3) rfl
theorem dX1_takeNumber_54 : decode cX1_takeNumber 54 = .ok (.getfield 222, 3) := dr9 dk9_dX1_takeNumber_0_0.2 2 (54, .getfield 222, 3) rfl
theorem dX1_takeNumber_57 : decode cX1_takeNumber 57 = .ok (.l2i, 1) := dr9 dk9_dX1_takeNumber_0_0.2 3 (57, .l2i, 1) rfl
theorem dX1_takeNumber_58 : decode cX1_takeNumber 58 = .ok (.putfield 110, 3) := dr9 dk9_dX1_takeNumber_0_0.2 4 (58, .putfield 110, 3) rfl
theorem dX1_takeNumber_61 : decode cX1_takeNumber 61 = .ok (.aload_n 0, 1) := dr9 dk9_dX1_takeNumber_0_0.2 5 (61, .aload_n 0, 1) rfl
theorem dX1_takeNumber_62 : decode cX1_takeNumber 62 = .ok (.getfield 9, 3) := dr9 dk9_dX1_takeNumber_0_0.2 6 (62, .getfield 9, 3) rfl
theorem dX1_takeNumber_65 : decode cX1_takeNumber 65 = .ok (.invokevirtual 72, 3) := dr9 dk9_dX1_takeNumber_0_0.2 7 (65, .invokevirtual 72, 3) rfl
theorem dX1_takeNumber_68 : decode cX1_takeNumber 68 = .ok (.iconst 1, 1) := dr9 dk9_dX1_takeNumber_0_0.2 8 (68, .iconst 1, 1) rfl
theorem dX1_takeNumber_69 : decode cX1_takeNumber 69 = .ok (.ireturn, 1) := dr9 dk9_dX1_takeNumber_0_0.2 9 (69, .ireturn, 1) rfl
theorem dX1_takeNumber_11 : decode cX1_takeNumber 11 = .ok (.aload_n 0, 1) := dr9 dk9_dX1_takeNumber_0_0.2 10 (11, .aload_n 0, 1) rfl
theorem dX1_takeNumber_12 : decode cX1_takeNumber 12 = .ok (.iconst 1, 1) := dr9 dk9_dX1_takeNumber_0_0.2 11 (12, .iconst 1, 1) rfl
theorem dX1_takeNumber_13 : decode cX1_takeNumber 13 = .ok (.invokevirtual 47, 3) := dr9 dk9_dX1_takeNumber_0_0.2 12 (13, .invokevirtual 47, 3) rfl
theorem dX1_takeNumber_16 : decode cX1_takeNumber 16 = .ok (.ireturn, 1) := dr9 dk9_dX1_takeNumber_0_0.2 13 (16, .ireturn, 1) rfl
theorem dk9_dX1_takeNewName_0_0 : dOk cX1_takeNewName [(0, .aload_n 0, 1), (1, .getfield 9, 3), (4, .getfield 37, 3), (7, .iconst 3, 1), (8, .if_icmp .eq 9, 3), (17, .aload_n 0, 1), (18, .getfield 15, 3), (21, .aload_n 0, 1), (22, .getfield 9, 3), (25, .getfield 222, 3), (28, .invokevirtual 244, 3), (31, .ifCond .eq 9, 3), (40, .aload_n 0, 1), (41, .aload_n 0, 1), (42, .getfield 9, 3), (45, .getfield 222, 3), (48, .putfield 78, 3), (51, .aload_n 0, 1), (52, .getfield 9, 3), (55, .invokevirtual 72, 3), (58, .iconst 1, 1), (59, .ireturn, 1), (34, .aload_n 0, 1), (35, .iconst 3, 1)] = true ∧ dOk cX1_takeNewName [(36, .invokevirtual 47, 3), (39, .ireturn, 1), (11, .aload_n 0, 1), (12, .iconst 1, 1), (13, .invokevirtual 47, 3), (16, .ireturn, 1)] = true := by decide +kernel
theorem dX1_takeNewName_0 : decode cX1_takeNewName 0 = .ok (.aload_n 0, 1) := dr9 dk9_dX1_takeNewName_0_0.1 0 (0, .aload_n 0, 1) rfl
theorem dX1_takeNewName_1 : decode cX1_takeNewName 1 = .ok (.getfield 9, 3) := dr9 dk9_dX1_takeNewName_0_0.1 1 (1, .getfield 9, 3) rfl
theorem dX1_takeNewName_4 : decode cX1_takeNewName 4 = .ok (.getfield 37, 3) := dr9 dk9_dX1_takeNewName_0_0.1 2 (4, .getfield 37, 3) rfl
theorem dX1_takeNewName_7 : decode cX1_takeNewName 7 = .ok (.iconst 3, 1) := dr9 dk9_dX1_takeNewName_0_0.1 3 (7, .iconst 3, 1) rfl
theorem dX1_takeNewName_8 : decode cX1_takeNewName 8 = .ok (.if_icmp .eq 9, 3) := dr9 dk9_dX1_takeNewName_0_0.1 4 (8, .if_icmp .eq 9, 3) rfl
theorem dX1_takeNewName_17 : decode cX1_takeNewName 17 = .ok (.aload_n 0, 1) := dr9 dk9_dX1_takeNewName_0_0.1 5 (17, .aload_n 0, 1) rfl
theorem dX1_takeNewName_18 : decode cX1_takeNewName 18 = .ok (.getfield 15, 3) := dr9 dk9_dX1_takeNewName_0_0.1 6 (18, .getfield 15, 3) rfl
theorem dX1_takeNewName_21 : decode cX1_takeNewName 21 = .ok (.aload_n 0, 1) := dr9 dk9_dX1_takeNewName_0_0.1 7 (21, .aload_n 0, 1) rfl
theorem dX1_takeNewName_22 : decode cX1_takeNewName 22 = .ok (.getfield 9, 3) := dr9 dk9_dX1_takeNewName_0_0.1 8 (22, .getfield 9, 3) rfl
theorem dX1_takeNewName_25 : decode cX1_takeNewName 25 = .ok (.getfield 222, 3) := dr9 dk9_dX1_takeNewName_0_0.1 9 (25, .getfield 222, 3) rfl
theorem dX1_takeNewName_28 : decode cX1_takeNewName 28 = .ok (.invokevirtual 244, 3) := dr9 dk9_dX1_takeNewName_0_0.1 10 (28, .invokevirtual 244, 3) rfl
theorem dX1_takeNewName_31 : decode cX1_takeNewName 31 = .ok (.ifCond .eq 9, 3) := dr9 dk9_dX1_takeNewName_0_0.1 11 (31, .ifCond .eq 9, 3) rfl
theorem dX1_takeNewName_40 : decode cX1_takeNewName 40 = .ok (.aload_n 0, 1) := dr9 dk9_dX1_takeNewName_0_0.1 12 (40, .aload_n 0, 1) rfl
theorem dX1_takeNewName_41 : decode cX1_takeNewName 41 = .ok (.aload_n 0, 1) := dr9 dk9_dX1_takeNewName_0_0.1 13 (41, .aload_n 0, 1) rfl
theorem dX1_takeNewName_42 : decode cX1_takeNewName 42 = .ok (.getfield 9, 3) := dr9 dk9_dX1_takeNewName_0_0.1 14 (42, .getfield 9, 3) rfl
theorem dX1_takeNewName_45 : decode cX1_takeNewName 45 = .ok (.getfield 222, 3) := dr9 dk9_dX1_takeNewName_0_0.1 15 (45, .getfield 222, 3) rfl
theorem dX1_takeNewName_48 : decode cX1_takeNewName 48 = .ok (.putfield 78, 3) := dr9 dk9_dX1_takeNewName_0_0.1 16 (48, .putfield 78, 3) rfl
theorem dX1_takeNewName_51 : decode cX1_takeNewName 51 = .ok (.aload_n 0, 1) := dr9 dk9_dX1_takeNewName_0_0.1 17 (51, .aload_n 0, 1) rfl
theorem dX1_takeNewName_52 : decode cX1_takeNewName 52 = .ok (.getfield 9, 3) := dr9 dk9_dX1_takeNewName_0_0.1 18 (52, .getfield 9, 3) rfl
theorem dX1_takeNewName_55 : decode cX1_takeNewName 55 = .ok (.invokevirtual 72, 3) := dr9 dk9_dX1_takeNewName_0_0.1 19 (55, .invokevirtual 72, 3) rfl
theorem dX1_takeNewName_58 : decode cX1_takeNewName 58 = .ok (.iconst 1, 1) := dr9 dk9_dX1_takeNewName_0_0.1 20 (58, .iconst 1, 1) rfl
theorem dX1_takeNewName_59 : decode cX1_takeNewName 59 = .ok (.ireturn, 1) := dr9 dk9_dX1_takeNewName_0_0.1 21 (59, .ireturn, 1) rfl
theorem dX1_takeNewName_34 : decode cX1_takeNewName 34 = .ok (.aload_n 0, 1) := dr9 dk9_dX1_takeNewName_0_0.1 22 (34, .aload_n 0, 1) rfl
theorem dX1_takeNewName_35 : decode cX1_takeNewName 35 = .ok (.iconst 3, 1) := dr9 dk9_dX1_takeNewName_0_0.1 23 (35, .iconst 3, 1) rfl
theorem dX1_takeNewName_36 : decode cX1_takeNewName 36 = .ok (.invokevirtual 47, 3) := dr9 dk9_dX1_takeNewName_0_0.2 0 (36, .invokevirtual 47, 3) rfl
theorem dX1_takeNewName_39 : decode cX1_takeNewName 39 = .ok (.ireturn, 1) := dr9 dk9_dX1_takeNewName_0_0.2 1 (39, .ireturn, 1) rfl
theorem dX1_takeNewName_11 : decode cX1_takeNewName 11 = .ok (.aload_n 0, 1) := dr9 dk9_dX1_takeNewName_0_0.2 2 (11, .aload_n 0, 1) rfl
theorem dX1_takeNewName_12 : decode cX1_takeNewName 12 = .ok (.iconst 1, 1) := dr9 dk9_dX1_takeNewName_0_0.2 3 (12, .iconst 1, 1) rfl
theorem dX1_takeNewName_13 : decode cX1_takeNewName 13 = .ok (.invokevirtual 47, 3) := dr9 dk9_dX1_takeNewName_0_0.2 4 (13, .invokevirtual 47, 3) rfl
theorem dX1_takeNewName_16 : decode cX1_takeNewName 16 = .ok (.ireturn, 1) := dr9 dk9_dX1_takeNewName_0_0.2 5 (16, .ireturn, 1) rfl
theorem dk9_dX1_isToldType_0_0 : dOk cX1_isToldType [(0, .aload_n 0, 1), (1, .getfield 9, 3), (4, .getfield 37, 3), (7, .iconst 3, 1), (8, .if_icmp .eq 9, 3), (17, .aload_n 0, 1), (18, .aload_n 0, 1), (19, .getfield 15, 3), (22, .getfield 63, 3), (25, .aload_n 0, 1), (26, .getfield 9, 3), (29, .getfield 222, 3), (32, .invokevirtual 248, 3), (35, .putfield 137, 3), (38, .aload_n 0, 1), (39, .getfield 137, 3), (42, .iconst (-1), 1), (43, .if_icmp .ne 11, 3), (54, .iconst 1, 1), (55, .goto 4, 3), (59, .ireturn, 1), (46, .aload_n 0, 1), (47, .iconst 2, 1), (48, .invokevirtual 47, 3)] = true ∧ dOk cX1_isToldType [(51, .ifCond .eq 7, 3), (58, .iconst 0, 1), (11, .aload_n 0, 1), (12, .iconst 1, 1), (13, .invokevirtual 47, 3), (16, .ireturn, 1)] = true := by decide +kernel
theorem dX1_isToldType_0 : decode cX1_isToldType 0 = .ok (.aload_n 0, 1) := dr9 dk9_dX1_isToldType_0_0.1 0 (0, .aload_n 0, 1) rfl
theorem dX1_isToldType_1 : decode cX1_isToldType 1 = .ok (.getfield 9, 3) := dr9 dk9_dX1_isToldType_0_0.1 1 (1, .getfield 9, 3) rfl
theorem dX1_isToldType_4 : decode cX1_isToldType 4 = .ok (.getfield 37, 3) := dr9 dk9_dX1_isToldType_0_0.1 2 (4, .getfield 37, 3) rfl
theorem dX1_isToldType_7 : decode cX1_isToldType 7 = .ok (.iconst 3, 1) := dr9 dk9_dX1_isToldType_0_0.1 3 (7, .iconst 3, 1) rfl
theorem dX1_isToldType_8 : decode cX1_isToldType 8 = .ok (.if_icmp .eq 9, 3) := dr9 dk9_dX1_isToldType_0_0.1 4 (8, .if_icmp .eq 9, 3) rfl
theorem dX1_isToldType_17 : decode cX1_isToldType 17 = .ok (.aload_n 0, 1) := dr9 dk9_dX1_isToldType_0_0.1 5 (17, .aload_n 0, 1) rfl
theorem dX1_isToldType_18 : decode cX1_isToldType 18 = .ok (.aload_n 0, 1) := dr9 dk9_dX1_isToldType_0_0.1 6 (18, .aload_n 0, 1) rfl
theorem dX1_isToldType_19 : decode cX1_isToldType 19 = .ok (.getfield 15, 3) := dr9 dk9_dX1_isToldType_0_0.1 7 (19, .getfield 15, 3) rfl
theorem dX1_isToldType_22 : decode cX1_isToldType 22 = .ok (.getfield 63, 3) := dr9 dk9_dX1_isToldType_0_0.1 8 (22, .getfield 63, 3) rfl
theorem dX1_isToldType_25 : decode cX1_isToldType 25 = .ok (.aload_n 0, 1) := dr9 dk9_dX1_isToldType_0_0.1 9 (25, .aload_n 0, 1) rfl
theorem dX1_isToldType_26 : decode cX1_isToldType 26 = .ok (.getfield 9, 3) := dr9 dk9_dX1_isToldType_0_0.1 10 (26, .getfield 9, 3) rfl
theorem dX1_isToldType_29 : decode cX1_isToldType 29 = .ok (.getfield 222, 3) := dr9 dk9_dX1_isToldType_0_0.1 11 (29, .getfield 222, 3) rfl
theorem dX1_isToldType_32 : decode cX1_isToldType 32 = .ok (.invokevirtual 248, 3) := dr9 dk9_dX1_isToldType_0_0.1 12 (32, .invokevirtual 248, 3) rfl
theorem dX1_isToldType_35 : decode cX1_isToldType 35 = .ok (.putfield 137, 3) := dr9 dk9_dX1_isToldType_0_0.1 13 (35, .putfield 137, 3) rfl
theorem dX1_isToldType_38 : decode cX1_isToldType 38 = .ok (.aload_n 0, 1) := dr9 dk9_dX1_isToldType_0_0.1 14 (38, .aload_n 0, 1) rfl
theorem dX1_isToldType_39 : decode cX1_isToldType 39 = .ok (.getfield 137, 3) := dr9 dk9_dX1_isToldType_0_0.1 15 (39, .getfield 137, 3) rfl
theorem dX1_isToldType_42 : decode cX1_isToldType 42 = .ok (.iconst (-1), 1) := dr9 dk9_dX1_isToldType_0_0.1 16 (42, .iconst (-1), 1) rfl
theorem dX1_isToldType_43 : decode cX1_isToldType 43 = .ok (.if_icmp .ne 11, 3) := dr9 dk9_dX1_isToldType_0_0.1 17 (43, .if_icmp .ne 11, 3) rfl
theorem dX1_isToldType_54 : decode cX1_isToldType 54 = .ok (.iconst 1, 1) := dr9 dk9_dX1_isToldType_0_0.1 18 (54, .iconst 1, 1) rfl
theorem dX1_isToldType_55 : decode cX1_isToldType 55 = .ok (.goto 4, 3) := dr9 dk9_dX1_isToldType_0_0.1 19 (55, .goto 4, 3) rfl
theorem dX1_isToldType_59 : decode cX1_isToldType 59 = .ok (.ireturn, 1) := dr9 dk9_dX1_isToldType_0_0.1 20 (59, .ireturn, 1) rfl
theorem dX1_isToldType_46 : decode cX1_isToldType 46 = .ok (.aload_n 0, 1) := dr9 dk9_dX1_isToldType_0_0.1 21 (46, .aload_n 0, 1) rfl
theorem dX1_isToldType_47 : decode cX1_isToldType 47 = .ok (.iconst 2, 1) := dr9 dk9_dX1_isToldType_0_0.1 22 (47, .iconst 2, 1) rfl
theorem dX1_isToldType_48 : decode cX1_isToldType 48 = .ok (.invokevirtual 47, 3) := dr9 dk9_dX1_isToldType_0_0.1 23 (48, .invokevirtual 47, 3) rfl
theorem dX1_isToldType_51 : decode cX1_isToldType 51 = .ok (.ifCond .eq 7, 3) := dr9 dk9_dX1_isToldType_0_0.2 0 (51, .ifCond .eq 7, 3) rfl
theorem dX1_isToldType_58 : decode cX1_isToldType 58 = .ok (.iconst 0, 1) := dr9 dk9_dX1_isToldType_0_0.2 1 (58, .iconst 0, 1) rfl
theorem dX1_isToldType_11 : decode cX1_isToldType 11 = .ok (.aload_n 0, 1) := dr9 dk9_dX1_isToldType_0_0.2 2 (11, .aload_n 0, 1) rfl
theorem dX1_isToldType_12 : decode cX1_isToldType 12 = .ok (.iconst 1, 1) := dr9 dk9_dX1_isToldType_0_0.2 3 (12, .iconst 1, 1) rfl
theorem dX1_isToldType_13 : decode cX1_isToldType 13 = .ok (.invokevirtual 47, 3) := dr9 dk9_dX1_isToldType_0_0.2 4 (13, .invokevirtual 47, 3) rfl
theorem dX1_isToldType_16 : decode cX1_isToldType 16 = .ok (.ireturn, 1) := dr9 dk9_dX1_isToldType_0_0.2 5 (16, .ireturn, 1) rfl
theorem dk9_dX1_takeSetting_0_0 : dOk cX1_takeSetting [(0, .aload_n 0, 1), (1, .getfield 9, 3), (4, .getfield 37, 3), (7, .iconst 3, 1), (8, .if_icmp .eq 9, 3), (17, .aload_n 0, 1), (18, .aload_n 0, 1), (19, .getfield 15, 3), (22, .getfield 99, 3), (25, .aload_n 0, 1), (26, .getfield 9, 3), (29, .getfield 222, 3), (32, .invokevirtual 248, 3), (35, .putfield 137, 3), (38, .aload_n 0, 1), (39, .getfield 137, 3), (42, .iconst (-1), 1), (43, .if_icmp .ne 9, 3), (52, .aload_n 0, 1), (53, .getfield 9, 3), (56, .invokevirtual 72, 3), (59, .iconst 1, 1), (60, .ireturn, 1), (46, .aload_n 0, 1)] = true ∧ dOk cX1_takeSetting [(47, .iconst 2, 1), (48, .invokevirtual 47, 3), (51, .ireturn, 1), (11, .aload_n 0, 1), (12, .iconst 1, 1), (13, .invokevirtual 47, 3), (16, .ireturn, 1)] = true := by decide +kernel
theorem dX1_takeSetting_0 : decode cX1_takeSetting 0 = .ok (.aload_n 0, 1) := dr9 dk9_dX1_takeSetting_0_0.1 0 (0, .aload_n 0, 1) rfl
theorem dX1_takeSetting_1 : decode cX1_takeSetting 1 = .ok (.getfield 9, 3) := dr9 dk9_dX1_takeSetting_0_0.1 1 (1, .getfield 9, 3) rfl
theorem dX1_takeSetting_4 : decode cX1_takeSetting 4 = .ok (.getfield 37, 3) := dr9 dk9_dX1_takeSetting_0_0.1 2 (4, .getfield 37, 3) rfl
theorem dX1_takeSetting_7 : decode cX1_takeSetting 7 = .ok (.iconst 3, 1) := dr9 dk9_dX1_takeSetting_0_0.1 3 (7, .iconst 3, 1) rfl
theorem dX1_takeSetting_8 : decode cX1_takeSetting 8 = .ok (.if_icmp .eq 9, 3) := dr9 dk9_dX1_takeSetting_0_0.1 4 (8, .if_icmp .eq 9, 3) rfl
theorem dX1_takeSetting_17 : decode cX1_takeSetting 17 = .ok (.aload_n 0, 1) := dr9 dk9_dX1_takeSetting_0_0.1 5 (17, .aload_n 0, 1) rfl
theorem dX1_takeSetting_18 : decode cX1_takeSetting 18 = .ok (.aload_n 0, 1) := dr9 dk9_dX1_takeSetting_0_0.1 6 (18, .aload_n 0, 1) rfl
theorem dX1_takeSetting_19 : decode cX1_takeSetting 19 = .ok (.getfield 15, 3) := dr9 dk9_dX1_takeSetting_0_0.1 7 (19, .getfield 15, 3) rfl
theorem dX1_takeSetting_22 : decode cX1_takeSetting 22 = .ok (.getfield 99, 3) := dr9 dk9_dX1_takeSetting_0_0.1 8 (22, .getfield 99, 3) rfl
theorem dX1_takeSetting_25 : decode cX1_takeSetting 25 = .ok (.aload_n 0, 1) := dr9 dk9_dX1_takeSetting_0_0.1 9 (25, .aload_n 0, 1) rfl
theorem dX1_takeSetting_26 : decode cX1_takeSetting 26 = .ok (.getfield 9, 3) := dr9 dk9_dX1_takeSetting_0_0.1 10 (26, .getfield 9, 3) rfl
theorem dX1_takeSetting_29 : decode cX1_takeSetting 29 = .ok (.getfield 222, 3) := dr9 dk9_dX1_takeSetting_0_0.1 11 (29, .getfield 222, 3) rfl
theorem dX1_takeSetting_32 : decode cX1_takeSetting 32 = .ok (.invokevirtual 248, 3) := dr9 dk9_dX1_takeSetting_0_0.1 12 (32, .invokevirtual 248, 3) rfl
theorem dX1_takeSetting_35 : decode cX1_takeSetting 35 = .ok (.putfield 137, 3) := dr9 dk9_dX1_takeSetting_0_0.1 13 (35, .putfield 137, 3) rfl
theorem dX1_takeSetting_38 : decode cX1_takeSetting 38 = .ok (.aload_n 0, 1) := dr9 dk9_dX1_takeSetting_0_0.1 14 (38, .aload_n 0, 1) rfl
theorem dX1_takeSetting_39 : decode cX1_takeSetting 39 = .ok (.getfield 137, 3) := dr9 dk9_dX1_takeSetting_0_0.1 15 (39, .getfield 137, 3) rfl
theorem dX1_takeSetting_42 : decode cX1_takeSetting 42 = .ok (.iconst (-1), 1) := dr9 dk9_dX1_takeSetting_0_0.1 16 (42, .iconst (-1), 1) rfl
theorem dX1_takeSetting_43 : decode cX1_takeSetting 43 = .ok (.if_icmp .ne 9, 3) := dr9 dk9_dX1_takeSetting_0_0.1 17 (43, .if_icmp .ne 9, 3) rfl
theorem dX1_takeSetting_52 : decode cX1_takeSetting 52 = .ok (.aload_n 0, 1) := dr9 dk9_dX1_takeSetting_0_0.1 18 (52, .aload_n 0, 1) rfl
theorem dX1_takeSetting_53 : decode cX1_takeSetting 53 = .ok (.getfield 9, 3) := dr9 dk9_dX1_takeSetting_0_0.1 19 (53, .getfield 9, 3) rfl
theorem dX1_takeSetting_56 : decode cX1_takeSetting 56 = .ok (.invokevirtual 72, 3) := dr9 dk9_dX1_takeSetting_0_0.1 20 (56, .invokevirtual 72, 3) rfl
theorem dX1_takeSetting_59 : decode cX1_takeSetting 59 = .ok (.iconst 1, 1) := dr9 dk9_dX1_takeSetting_0_0.1 21 (59, .iconst 1, 1) rfl
theorem dX1_takeSetting_60 : decode cX1_takeSetting 60 = .ok (.ireturn, 1) := dr9 dk9_dX1_takeSetting_0_0.1 22 (60, .ireturn, 1) rfl
theorem dX1_takeSetting_46 : decode cX1_takeSetting 46 = .ok (.aload_n 0, 1) := dr9 dk9_dX1_takeSetting_0_0.1 23 (46, .aload_n 0, 1) rfl
theorem dX1_takeSetting_47 : decode cX1_takeSetting 47 = .ok (.iconst 2, 1) := dr9 dk9_dX1_takeSetting_0_0.2 0 (47, .iconst 2, 1) rfl
theorem dX1_takeSetting_48 : decode cX1_takeSetting 48 = .ok (.invokevirtual 47, 3) := dr9 dk9_dX1_takeSetting_0_0.2 1 (48, .invokevirtual 47, 3) rfl
theorem dX1_takeSetting_51 : decode cX1_takeSetting 51 = .ok (.ireturn, 1) := dr9 dk9_dX1_takeSetting_0_0.2 2 (51, .ireturn, 1) rfl
theorem dX1_takeSetting_11 : decode cX1_takeSetting 11 = .ok (.aload_n 0, 1) := dr9 dk9_dX1_takeSetting_0_0.2 3 (11, .aload_n 0, 1) rfl
theorem dX1_takeSetting_12 : decode cX1_takeSetting 12 = .ok (.iconst 1, 1) := dr9 dk9_dX1_takeSetting_0_0.2 4 (12, .iconst 1, 1) rfl
theorem dX1_takeSetting_13 : decode cX1_takeSetting 13 = .ok (.invokevirtual 47, 3) := dr9 dk9_dX1_takeSetting_0_0.2 5 (13, .invokevirtual 47, 3) rfl
theorem dX1_takeSetting_16 : decode cX1_takeSetting 16 = .ok (.ireturn, 1) := dr9 dk9_dX1_takeSetting_0_0.2 6 (16, .ireturn, 1) rfl
abbrev r_x_follow24 : Room := { frames := 248, cells := 0, slots := 0, locals := 7460 }
abbrev q_x_follow24 (D : va_G) (ks : KS) (ad : Nat → Nat) (kk : Nat → ClassId) (V : Vf) (L : Lf) (Z : XZ) (p0 : Int32) (p1 : Int32) (b : Nat) (A : Nat → Prop) : Array Value → State → Outcome → State → Prop := q_x_follow D ks ad kk V L Z p0 p1 b A
abbrev r_x_examine : Room := { frames := 249, cells := 0, slots := 0, locals := 7485 }
abbrev q_x_examine (D : va_G) (ks : KS) (ad : Nat → Nat) (kk : Nat → ClassId) (V : Vf) (L : Lf) (Z : XZ) (b : Nat) (A : Nat → Prop) : Array Value → State → Outcome → State → Prop := va_Qi (fun (r : Int32) (u : Vf × Lf) => rgd bX u.1 ∧ agr [(2, 6), (2, 7)] [15, 16, 17, 18, 19, 20] V u.1 ∧ u.2 = L) (fun u t => gq D A (xw ad kk u.1 u.2 Z) (xty kk Z) t) A
abbrev r_x_emit : Room := { frames := 0, cells := 0, slots := 0, locals := 0 }
abbrev q_x_emit (D : va_G) (ks : KS) (ad : Nat → Nat) (kk : Nat → ClassId) (V : Vf) (L : Lf) (Z : XZ) (p0 : Int32) (b : Nat) (A : Nat → Prop) : Array Value → State → Outcome → State → Prop := va_Qv (fun (u : Vf × Lf) => rgd bX u.1 ∧ agr [] [42, 48] V u.1 ∧ u.2 = L ∧ frX (xR b) V u.1 ∧ (emX V u.1 b p0)) (fun u t => gq D A (xw ad kk u.1 u.2 Z) (xty kk Z) t) A
set_option maxHeartbeats 4000000 in
set_option maxRecDepth 100000 in
theorem x_emit (l : Launch) (D : va_G) (ks : KS) (sz : Nat) (ad : Nat → Nat) (kk : Nat → ClassId) (V : Vf) (L : Lf) (Z : XZ) (p0 : Int32) (b : Nat) (hMV : rgd bX V) (hb2 : b < 2)  : Met l yX0_emit (Cond.code yX0_emit cX0_emit 2 none :: GW) r_x_emit (va_Pc [.ref (ad (38 + b)), .int p0] (gp D ks (xw ad kk V L Z) (xty kk Z) sz)) (q_x_emit D ks ad kk V L Z p0 b (va_A (xw ad kk V L Z) sz)) 0 0 (va_A (xw ad kk V L Z) sz) := by
  refine g_met (q_x_emit D ks ad kk V L Z p0 b) (by decide) (Nat.le_of_ble_eq_true rfl) ?_
  intro p e s m below meth c A ls H locs hx hb hr hml hown hg hlocks hin hnw hgk hP hK hD hS hA hl
  have hown : s.vm.findClass RX0 = some m.cls := hown
  have hl : lv_has ls 2 [(0, .ref (ad (38 + b))), (1, .int p0)] := hl
  have hP : va_P D vwCl (xw ad kk V L Z) H := hP
  have hD : va_D A (xw ad kk V L Z) := hD
  have hK : va_K D vwCl (xty kk Z) s := hK
  have agV : agr [] [42, 48] V V := agr.rf
  have fwV : frX (xR b) V V := frX.rf
  refine lv_aload_n hx hb dX0_emit_0 rfl (lv_at hl 0 rfl) ?_
  refine va_get (D := D) (ci := 0) (v := .int (V 42 b)) (fs := (xfBook ad V b)) (C := RX0) (T := TX0) (N := 13) hx hb hg inX0 hown hK hP (38 + b) (xgBook hb2) rfl 12 (by decide) (hg _ w629) (fun _ h9 => h9) rfl dX0_emit_1 ?_
  have r1 : 0 ≤ ((V 42 b)).toInt ∧ ((V 42 b)).toInt ≤ 8200 := hMV 42 b
  refine lv_sipush (v := 8200) hx hb dX0_emit_4 (by decide) ?_
  refine lv_icmp_ge (tgt := 27) hx hb dX0_emit_7 (by decide) (fun c2 => ?_) (fun c2 => ?_)
  · skip
    have f3 : 8200 ≤ ((V 42 b)).toInt := b_le (by decide) rfl c2
    have rp4 : emX V V b p0 := Or.inr ⟨by omega, rfl, fun _ => rfl⟩
    exact W.vret hx hb hr (fun t ht hW => ⟨⟨(V, L), rfl, ⟨hMV, agV, rfl, fwV, rp4⟩, by rw [ht]; exact hP, va_K.moved hW.alike hK, hD⟩, hS.F ht⟩) hS.2.2 dX0_emit_27
  · skip
    have f5 : ((V 42 b)).toInt < 8200 := b_nle (by decide) rfl c2
    refine lv_aload_n hx hb dX0_emit_10 rfl (lv_at hl 0 rfl) ?_
    refine va_get (D := D) (ci := 0) (v := .ref (ad (70 + b))) (fs := (xfBook ad V b)) (C := RX0) (T := TX0) (N := 13) hx hb hg inX0 hown hK hP (38 + b) (xgBook hb2) rfl 10 (by decide) (hg _ w623) (fun _ h9 => h9) rfl dX0_emit_11 ?_
    refine lv_aload_n hx hb dX0_emit_14 rfl (lv_at hl 0 rfl) ?_
    refine lv_dup hx hb dX0_emit_15 rfl ?_
    refine va_get (D := D) (ci := 0) (v := .int (V 42 b)) (fs := (xfBook ad V b)) (C := RX0) (T := TX0) (N := 13) hx hb hg inX0 hown hK hP (38 + b) (xgBook hb2) rfl 12 (by decide) (hg _ w629) (fun _ h9 => h9) rfl dX0_emit_16 ?_
    refine lv_dup_x1 hx hb dX0_emit_19 rfl rfl ?_
    refine lv_iconst (v := 1) hx hb dX0_emit_20 (by decide) ?_
    refine lv_iadd hx hb dX0_emit_21 ?_
    refine lv_topi (fun z6 ez6 => ?_)
    have hz6 : z6.toInt = ((V 42 b)).toInt + 1 := i_add ez6 rfl (by decide) (by (first | exact om_372ad7fcdfe6 r1.1 f5 | omega))
    refine va_put (D := D) (ci := 0) (v := .int z6) (ty := tyX0 12) (fs := (xfBook ad V b)) (C := RX0) (T := TX0) (N := 13) hx hb hg inX0 tyX0 tyX0_ok nmX0 hown hK hP hD hS (38 + b) (xgBook hb2) rfl 12 (by decide) (hg _ w629) (fun _ h9 => h9) rfl (tyX0_ok 12 (by decide)) rfl rfl (Nat.le_of_ble_eq_true rfl) dX0_emit_22 (fun H locs hP hD hS => ?_)
    obtain ⟨V7, hV7⟩ : ∃ z, z = up2 V 42 b z6 := ⟨_, rfl⟩
    have ew8 : (xw ad kk V L Z).set (38 + b) ((ad (38 + b)), .inr (0, (xfBook ad V b).set 12 (.int z6))) = xw ad kk V7 L Z := by rw [hV7]; exact xpBook_codeLength hb2
    have hP : va_P D vwCl (xw ad kk V7 L Z) H := by rw [← ew8]; exact hP
    have hD : va_D A (xw ad kk V7 L Z) := by rw [← ew8]; exact hD
    have hMV7 : rgd bX V7 := hMV.put hV7 (show 0 ≤ z6.toInt ∧ z6.toInt ≤ 8200 from by (first | exact om_66cbe86c5bf7 r1.1 f5 hz6 | omega))
    have agV7 : agr [] [42, 48] V V7 := agV.up hV7 rfl
    have fwV7 : frX (xR b) V V7 := frX.up fwV hV7 (Or.inr ⟨(by show b ≤ b; (first | exact om_36cf446a3c95 | omega)), (by show b < b + 1; (first | exact om_0bb971ab4ffe | omega))⟩)
    refine lv_iload_n hx hb dX0_emit_25 rfl (lv_at hl 1 rfl) ?_
    have il9 : b < 2 := by (first | exact om_f940a4667dd6 hb2 | omega)
    refine va_iast (D := D) (i := (V 42 b)) (x := p0) hx hb hK hP hD hS (70 + b) (63 + b) (xgcode il9) (xtcode il9) (i_in (a := ((V 42 b)).toInt) rfl (by (first | exact om_12cc77274675 r1.1 f5 | omega))) dX0_emit_26 (fun H locs hP hD hS => ?_)
    have kc10 := i_clamp (x := (V 42 b)) rfl (by (first | exact om_eafa9039069c r1.1 | omega))
    have kl11 : (Int32.toNatClampNeg (V 42 b)) < 8200 := by (first | exact om_a4a701f77fe4 f5 kc10 | omega)
    obtain ⟨V12, hV12⟩ : ∃ z, z = up2 V7 48 (8200 * b + (Int32.toNatClampNeg (V 42 b))) p0 := ⟨_, rfl⟩
    have ew13 : (xw ad kk V7 L Z).set (70 + b) ((ad (70 + b)), .inl ((kk (70 + b)), 8200, .inl (upd (fun q => if q < 8200 then V7 48 (8200 * b + q) else 0) (Int32.toNatClampNeg (V 42 b)) p0))) = xw ad kk V12 L Z := by rw [hV12]; exact xpcode il9 kl11
    have hP : va_P D vwCl (xw ad kk V12 L Z) H := by rw [← ew13]; exact hP
    have hD : va_D A (xw ad kk V12 L Z) := by rw [← ew13]; exact hD
    have hMV12 : rgd bX V12 := hMV7.put hV12 (i_full _)
    have agV12 : agr [] [42, 48] V V12 := agV7.up hV12 rfl
    have fwV12 : frX (xR b) V V12 := frX.up fwV7 hV12 (Or.inr ⟨(by show 8200 * b ≤ (8200 * b + (Int32.toNatClampNeg (V 42 b))); (first | exact om_a5a8f868b067 | omega)), (by show (8200 * b + (Int32.toNatClampNeg (V 42 b))) < 8200 * b + 8200; (first | exact om_7a0536cad75e kl11 | omega))⟩)
    have rp14 : emX V V12 b p0 := Or.inl ⟨by omega, by rw [up2_o hV12 (show ¬ 42 = 48 from by decide), up2_s hV7]; omega, up2_s hV12, fun k hk => (up2_k hV12 (fun h9 => hk (by have h8 := i_clamp (x := V 42 b) rfl (by (first | exact om_50dfdfbb9dc6 kc10 | omega)); omega))).trans (up2_o hV7 (by decide))⟩
    exact W.vret hx hb hr (fun t ht hW => ⟨⟨(V12, L), rfl, ⟨hMV12, agV12, rfl, fwV12, rp14⟩, by rw [ht]; exact hP, va_K.moved hW.alike hK, hD⟩, hS.F ht⟩) hS.2.2 dX0_emit_27
abbrev r_x_patch : Room := { frames := 0, cells := 0, slots := 0, locals := 0 }
abbrev q_x_patch (D : va_G) (ks : KS) (ad : Nat → Nat) (kk : Nat → ClassId) (V : Vf) (L : Lf) (Z : XZ) (p0 : Int32) (p1 : Int32) (b : Nat) (A : Nat → Prop) : Array Value → State → Outcome → State → Prop := va_Qv (fun (u : Vf × Lf) => rgd bX u.1 ∧ agr [] [48] V u.1 ∧ u.2 = L ∧ frX (xR b) V u.1 ∧ ((p0.toInt < 0 ∨ 8200 ≤ p0.toInt) ∧ u.1 = V ∨ (0 ≤ p0.toInt ∧ p0.toInt < 8200 ∧ u.1 = up2 V 48 (8200 * b + Int32.toNatClampNeg p0) p1))) (fun u t => gq D A (xw ad kk u.1 u.2 Z) (xty kk Z) t) A
set_option maxHeartbeats 4000000 in
set_option maxRecDepth 100000 in
theorem x_patch (l : Launch) (D : va_G) (ks : KS) (sz : Nat) (ad : Nat → Nat) (kk : Nat → ClassId) (V : Vf) (L : Lf) (Z : XZ) (p0 : Int32) (p1 : Int32) (b : Nat) (hMV : rgd bX V) (hb2 : b < 2)  : Met l yX0_patch (Cond.code yX0_patch cX0_patch 3 none :: GW) r_x_patch (va_Pc [.ref (ad (38 + b)), .int p0, .int p1] (gp D ks (xw ad kk V L Z) (xty kk Z) sz)) (q_x_patch D ks ad kk V L Z p0 p1 b (va_A (xw ad kk V L Z) sz)) 0 0 (va_A (xw ad kk V L Z) sz) := by
  refine g_met (q_x_patch D ks ad kk V L Z p0 p1 b) (by decide) (Nat.le_of_ble_eq_true rfl) ?_
  intro p e s m below meth c A ls H locs hx hb hr hml hown hg hlocks hin hnw hgk hP hK hD hS hA hl
  have hown : s.vm.findClass RX0 = some m.cls := hown
  have hl : lv_has ls 3 [(0, .ref (ad (38 + b))), (1, .int p0), (2, .int p1)] := hl
  have hP : va_P D vwCl (xw ad kk V L Z) H := hP
  have hD : va_D A (xw ad kk V L Z) := hD
  have hK : va_K D vwCl (xty kk Z) s := hK
  have agV : agr [] [48] V V := agr.rf
  have fwV : frX (xR b) V V := frX.rf
  refine lv_iload_n hx hb dX0_patch_0 rfl (lv_at hl 1 rfl) ?_
  refine lv_if_lt (tgt := 18) hx hb dX0_patch_1 (by decide) (fun c1 => ?_) (fun c1 => ?_)
  · skip
    have f2 : p0.toInt < 0 := b_lt rfl (by decide) c1
    have rp3 : (p0.toInt < 0 ∨ 8200 ≤ p0.toInt) ∧ V = V ∨ (0 ≤ p0.toInt ∧ p0.toInt < 8200 ∧ V = up2 V 48 (8200 * b + Int32.toNatClampNeg p0) p1) := Or.inl ⟨by omega, rfl⟩
    exact W.vret hx hb hr (fun t ht hW => ⟨⟨(V, L), rfl, ⟨hMV, agV, rfl, fwV, rp3⟩, by rw [ht]; exact hP, va_K.moved hW.alike hK, hD⟩, hS.F ht⟩) hS.2.2 dX0_patch_18
  · skip
    have f4 : 0 ≤ p0.toInt := b_nlt rfl (by decide) c1
    refine lv_iload_n hx hb dX0_patch_4 rfl (lv_at hl 1 rfl) ?_
    refine lv_sipush (v := 8200) hx hb dX0_patch_5 (by decide) ?_
    refine lv_icmp_ge (tgt := 18) hx hb dX0_patch_8 (by decide) (fun c5 => ?_) (fun c5 => ?_)
    · skip
      have f6 : 8200 ≤ p0.toInt := b_le (by decide) rfl c5
      have rp7 : (p0.toInt < 0 ∨ 8200 ≤ p0.toInt) ∧ V = V ∨ (0 ≤ p0.toInt ∧ p0.toInt < 8200 ∧ V = up2 V 48 (8200 * b + Int32.toNatClampNeg p0) p1) := Or.inl ⟨by omega, rfl⟩
      exact W.vret hx hb hr (fun t ht hW => ⟨⟨(V, L), rfl, ⟨hMV, agV, rfl, fwV, rp7⟩, by rw [ht]; exact hP, va_K.moved hW.alike hK, hD⟩, hS.F ht⟩) hS.2.2 dX0_patch_18
    · skip
      have f8 : p0.toInt < 8200 := b_nle (by decide) rfl c5
      refine lv_aload_n hx hb dX0_patch_11 rfl (lv_at hl 0 rfl) ?_
      refine va_get (D := D) (ci := 0) (v := .ref (ad (70 + b))) (fs := (xfBook ad V b)) (C := RX0) (T := TX0) (N := 13) hx hb hg inX0 hown hK hP (38 + b) (xgBook hb2) rfl 10 (by decide) (hg _ w623) (fun _ h9 => h9) rfl dX0_patch_12 ?_
      refine lv_iload_n hx hb dX0_patch_15 rfl (lv_at hl 1 rfl) ?_
      refine lv_iload_n hx hb dX0_patch_16 rfl (lv_at hl 2 rfl) ?_
      have il9 : b < 2 := by (first | exact om_f940a4667dd6 hb2 | omega)
      refine va_iast (D := D) (i := p0) (x := p1) hx hb hK hP hD hS (70 + b) (63 + b) (xgcode il9) (xtcode il9) (i_in (a := p0.toInt) rfl (by (first | exact om_12cc77274675 f4 f8 | omega))) dX0_patch_17 (fun H locs hP hD hS => ?_)
      have kc10 := i_clamp (x := p0) rfl (by (first | exact om_eafa9039069c f4 | omega))
      have kl11 : (Int32.toNatClampNeg p0) < 8200 := by (first | exact om_a4a701f77fe4 f8 kc10 | omega)
      obtain ⟨V12, hV12⟩ : ∃ z, z = up2 V 48 (8200 * b + (Int32.toNatClampNeg p0)) p1 := ⟨_, rfl⟩
      have ew13 : (xw ad kk V L Z).set (70 + b) ((ad (70 + b)), .inl ((kk (70 + b)), 8200, .inl (upd (fun q => if q < 8200 then V 48 (8200 * b + q) else 0) (Int32.toNatClampNeg p0) p1))) = xw ad kk V12 L Z := by rw [hV12]; exact xpcode il9 kl11
      have hP : va_P D vwCl (xw ad kk V12 L Z) H := by rw [← ew13]; exact hP
      have hD : va_D A (xw ad kk V12 L Z) := by rw [← ew13]; exact hD
      have hMV12 : rgd bX V12 := hMV.put hV12 (i_full _)
      have agV12 : agr [] [48] V V12 := agV.up hV12 rfl
      have fwV12 : frX (xR b) V V12 := frX.up fwV hV12 (Or.inr ⟨(by show 8200 * b ≤ (8200 * b + (Int32.toNatClampNeg p0)); (first | exact om_a5a8f868b067 | omega)), (by show (8200 * b + (Int32.toNatClampNeg p0)) < 8200 * b + 8200; (first | exact om_7a0536cad75e kl11 | omega))⟩)
      have rp14 : (p0.toInt < 0 ∨ 8200 ≤ p0.toInt) ∧ V12 = V ∨ (0 ≤ p0.toInt ∧ p0.toInt < 8200 ∧ V12 = up2 V 48 (8200 * b + Int32.toNatClampNeg p0) p1) := Or.inr ⟨by omega, by omega, hV12⟩
      exact W.vret hx hb hr (fun t ht hW => ⟨⟨(V12, L), rfl, ⟨hMV12, agV12, rfl, fwV12, rp14⟩, by rw [ht]; exact hP, va_K.moved hW.alike hK, hD⟩, hS.F ht⟩) hS.2.2 dX0_patch_18
abbrev r_x_wrong : Room := { frames := 0, cells := 0, slots := 0, locals := 0 }
abbrev q_x_wrong (D : va_G) (ks : KS) (ad : Nat → Nat) (kk : Nat → ClassId) (V : Vf) (L : Lf) (Z : XZ) (p0 : Int32) (A : Nat → Prop) : Array Value → State → Outcome → State → Prop := va_Qi (fun (r : Int32) (u : Vf × Lf) => rgd bX u.1 ∧ agr [(1, 3)] [] V u.1 ∧ u.2 = L ∧ (0 ≤ r.toInt ∧ r.toInt ≤ 0) ∧ (1 ≤ (u.1 1 3).toInt)) (fun u t => gq D A (xw ad kk u.1 u.2 Z) (xty kk Z) t) A
set_option maxHeartbeats 4000000 in
set_option maxRecDepth 100000 in
theorem x_wrong (l : Launch) (D : va_G) (ks : KS) (sz : Nat) (ad : Nat → Nat) (kk : Nat → ClassId) (V : Vf) (L : Lf) (Z : XZ) (p0 : Int32) (hMV : rgd bX V) (rg_p0 : 1 ≤ p0.toInt ∧ p0.toInt ≤ 5)  : Met l yX1_wrong (Cond.code yX1_wrong cX1_wrong 2 (some .boolean) :: GW) r_x_wrong (va_Pc [.ref (ad 1), .int p0] (gp D ks (xw ad kk V L Z) (xty kk Z) sz)) (q_x_wrong D ks ad kk V L Z p0 (va_A (xw ad kk V L Z) sz)) 0 0 (va_A (xw ad kk V L Z) sz) := by
  refine g_met (q_x_wrong D ks ad kk V L Z p0) (by decide) (Nat.le_of_ble_eq_true rfl) ?_
  intro p e s m below meth c A ls H locs hx hb hr hml hown hg hlocks hin hnw hgk hP hK hD hS hA hl
  have hown : s.vm.findClass RX1 = some m.cls := hown
  have hl : lv_has ls 2 [(0, .ref (ad 1)), (1, .int p0)] := hl
  have hP : va_P D vwCl (xw ad kk V L Z) H := hP
  have hD : va_D A (xw ad kk V L Z) := hD
  have hK : va_K D vwCl (xty kk Z) s := hK
  have agV : agr [(1, 3)] [] V V := agr.rf
  refine lv_aload_n hx hb dX1_wrong_0 rfl (lv_at hl 0 rfl) ?_
  refine lv_iload_n hx hb dX1_wrong_1 rfl (lv_at hl 1 rfl) ?_
  refine lv_bipush (v := 16) hx hb dX1_wrong_2 (by decide) ?_
  refine lv_aload_n hx hb dX1_wrong_4 rfl (lv_at hl 0 rfl) ?_
  refine va_get (D := D) (ci := 1) (v := .ref (ad 6)) (fs := (xfReader ad V L Z)) (C := RX1) (T := TX1) (N := 9) hx hb hg inX1 hown hK hP 1 xgReader rfl 0 (by decide) (hg _ w304) (fun _ h9 => h9) rfl dX1_wrong_5 ?_
  refine va_getN (D := D) (ci := 9) (v := .int (V 6 10)) (fs := (xfTape ad V L Z)) (C := RX9) (T := TX9) (N := 12) hx hb hg inX9 hown hK hP 6 xgTape rfl 10 (by decide) (hnw.use 266 n266 rfl) (fun _ h9 => h9) rfl dX1_wrong_8 ?_
  have r1 : 0 ≤ ((V 6 10)).toInt ∧ ((V 6 10)).toInt ≤ 4000 := hMV 6 10
  refine lv_imul hx hb dX1_wrong_11 ?_
  refine lv_topi (fun z2 ez2 => ?_)
  have hz2 : z2.toInt = 16 * ((V 6 10)).toInt := i_mul ez2 (by decide) rfl (by (first | exact om_6843b3d39a18 r1.1 r1.2 | omega))
  refine lv_iadd hx hb dX1_wrong_12 ?_
  refine lv_topi (fun z3 ez3 => ?_)
  have hz3 : z3.toInt = p0.toInt + z2.toInt := i_add ez3 rfl rfl (by (first | exact om_ddbdbfc8487c rg_p0.1 rg_p0.2 r1.1 r1.2 hz2 | omega))
  refine va_put (D := D) (ci := 1) (v := .int z3) (ty := tyX1 3) (fs := (xfReader ad V L Z)) (C := RX1) (T := TX1) (N := 9) hx hb hg inX1 tyX1 tyX1_ok nmX1 hown hK hP hD hS 1 xgReader rfl 3 (by decide) (hg _ w307) (fun _ h9 => h9) rfl (tyX1_ok 3 (by decide)) rfl rfl (Nat.le_of_ble_eq_true rfl) dX1_wrong_13 (fun H locs hP hD hS => ?_)
  obtain ⟨V4, hV4⟩ : ∃ z, z = up2 V 1 3 z3 := ⟨_, rfl⟩
  have ew5 : (xw ad kk V L Z).set 1 ((ad 1), .inr (1, (xfReader ad V L Z).set 3 (.int z3))) = xw ad kk V4 L Z := by rw [hV4]; exact xw_ss (by decide) rfl (xb_si (by decide))
  have hP : va_P D vwCl (xw ad kk V4 L Z) H := by rw [← ew5]; exact hP
  have hD : va_D A (xw ad kk V4 L Z) := by rw [← ew5]; exact hD
  have hMV4 : rgd bX V4 := hMV.put hV4 (i_full _)
  have agV4 : agr [(1, 3)] [] V V4 := agV.up hV4 rfl
  refine lv_iconst (v := 0) hx hb dX1_wrong_16 (by decide) ?_
  have pq6 : (V4 1 3).toInt = z3.toInt := congrArg Int32.toInt (up2_s hV4)
  exact W.zret (v := 0) hx hb hr rfl (fun t ht hW => ⟨⟨0, (V4, L), rfl, ⟨hMV4, agV4, rfl, (by decide), (show 1 ≤ (V4 1 3).toInt from by (first | exact om_48d376e72754 rg_p0.1 r1.1 hz2 hz3 pq6 | omega))⟩, by rw [ht]; exact hP, va_K.moved hW.alike hK, hD⟩, hS.F ht⟩) hS.2.2 dX1_wrong_17
abbrev r_x_take : Room := { frames := 1, cells := 0, slots := 0, locals := 21 }
abbrev q_x_take (D : va_G) (ks : KS) (ad : Nat → Nat) (kk : Nat → ClassId) (V : Vf) (L : Lf) (Z : XZ) (p0 : Int32) (A : Nat → Prop) : Array Value → State → Outcome → State → Prop := va_Qi (fun (r : Int32) (u : Vf × Lf) => rgd bX u.1 ∧ agr [(1, 3), (6, 8), (6, 9), (6, 10)] [] V u.1 ∧ agL [6] L u.2 ∧ (0 ≤ r.toInt ∧ r.toInt ≤ 1) ∧ (Imp (r.toInt = 0) (1 ≤ (u.1 1 3).toInt))) (fun u t => gq D A (xw ad kk u.1 u.2 Z) (xty kk Z) t) A
set_option maxHeartbeats 4000000 in
set_option maxRecDepth 100000 in
theorem x_take (l : Launch) (D : va_G) (ks : KS) (sz : Nat) (ad : Nat → Nat) (kk : Nat → ClassId) (V : Vf) (L : Lf) (Z : XZ) (p0 : Int32) (hMV : rgd bX V)  : Met l yX1_take (Cond.code yX1_take cX1_take 2 (some .boolean) :: GW) r_x_take (va_Pc [.ref (ad 1), .int p0] (gp D ks (xw ad kk V L Z) (xty kk Z) sz)) (q_x_take D ks ad kk V L Z p0 (va_A (xw ad kk V L Z) sz)) 0 0 (va_A (xw ad kk V L Z) sz) := by
  refine g_met (q_x_take D ks ad kk V L Z p0) (by decide) (Nat.le_of_ble_eq_true rfl) ?_
  intro p e s m below meth c A ls H locs hx hb hr hml hown hg hlocks hin hnw hgk hP hK hD hS hA hl
  have hown : s.vm.findClass RX1 = some m.cls := hown
  have hl : lv_has ls 2 [(0, .ref (ad 1)), (1, .int p0)] := hl
  have hP : va_P D vwCl (xw ad kk V L Z) H := hP
  have hD : va_D A (xw ad kk V L Z) := hD
  have hK : va_K D vwCl (xty kk Z) s := hK
  have agV : agr [(1, 3), (6, 8), (6, 9), (6, 10)] [] V V := agr.rf
  have alL : agL [6] L L := agL.rf
  refine lv_aload_n hx hb dX1_take_0 rfl (lv_at hl 0 rfl) ?_
  refine va_get (D := D) (ci := 1) (v := .ref (ad 6)) (fs := (xfReader ad V L Z)) (C := RX1) (T := TX1) (N := 9) hx hb hg inX1 hown hK hP 1 xgReader rfl 0 (by decide) (hg _ w304) (fun _ h9 => h9) rfl dX1_take_1 ?_
  refine va_getN (D := D) (ci := 9) (v := .int (V 6 9)) (fs := (xfTape ad V L Z)) (C := RX9) (T := TX9) (N := 12) hx hb hg inX9 hown hK hP 6 xgTape rfl 9 (by decide) (hnw.use 262 n262 rfl) (fun _ h9 => h9) rfl dX1_take_4 ?_
  refine lv_iload_n hx hb dX1_take_7 rfl (lv_at hl 1 rfl) ?_
  refine lv_icmp_eq (tgt := 17) hx hb dX1_take_8 (by decide) (fun c1 => ?_) (fun c1 => ?_)
  · skip
    have f2 : ((V 6 9)).toInt = p0.toInt := b_eq rfl rfl c1
    refine lv_aload_n hx hb dX1_take_17 rfl (lv_at hl 0 rfl) ?_
    refine va_get (D := D) (ci := 1) (v := .ref (ad 6)) (fs := (xfReader ad V L Z)) (C := RX1) (T := TX1) (N := 9) hx hb hg inX1 hown hK hP 1 xgReader rfl 0 (by decide) (hg _ w304) (fun _ h9 => h9) rfl dX1_take_18 ?_
    refine gA_void (gA_runV (As := []) (rest := []) (ci := 9) (q0 := 6) hx hb hml hown hg hP hD hK hS hA hnw hgk (x_next l D ks H.size ad kk V L Z  hMV ) w871 w852 w853 w157 w854 rfl xgTape hdV_yX9_next ⟨Nat.le_of_ble_eq_true rfl, Nat.le_of_ble_eq_true rfl⟩ rfl hl.1 rfl (Nat.le_of_ble_eq_true rfl) dX1_take_21 ⟨Nat.le_of_ble_eq_true rfl, Nat.le_of_ble_eq_true rfl⟩) hP hD hK hS hA (fun u4 H locs w5 hP hD hK hS => ?_)
    obtain ⟨V6, L7⟩ := u4
    obtain ⟨hMV6, ajV6, axL7⟩ := w5
    have alL7 : agL [6] L L7 := agL.tr alL axL7 (by decide)
    have hP : va_P D vwCl (xw ad kk V6 L7 Z) H := hP
    have hD : va_D A (xw ad kk V6 L7 Z) := hD
    have hMV6 : rgd bX V6 := hMV6
    have ajV6 : agr [(6, 8), (6, 9), (6, 10)] [] V V6 := ajV6
    have agV6 : agr [(1, 3), (6, 8), (6, 9), (6, 10)] [] V V6 := agV.tr ajV6 (by decide) (by decide)
    refine lv_iconst (v := 1) hx hb dX1_take_24 (by decide) ?_
    have pq8 : (V6 1 3).toInt = ((V 1 3)).toInt := congrArg Int32.toInt (ajV6 1 3 rfl)
    exact W.zret (v := 1) hx hb hr rfl (fun t ht hW => ⟨⟨1, (V6, L7), rfl, ⟨hMV6, agV6, alL7, (by decide), (Imp.mk (fun hp => absurd hp (by decide)))⟩, by rw [ht]; exact hP, va_K.moved hW.alike hK, hD⟩, hS.F ht⟩) hS.2.2 dX1_take_25
  · skip
    have f9 : ((V 6 9)).toInt ≠ p0.toInt := b_neq rfl rfl c1
    refine lv_aload_n hx hb dX1_take_11 rfl (lv_at hl 0 rfl) ?_
    refine lv_iconst (v := 1) hx hb dX1_take_12 (by decide) ?_
    have r10 : Int32.toInt 1 = 1 := by decide
    refine gA_int (gA_runV (As := [.int 1]) (rest := []) (ci := 1) (q0 := 1) hx hb hml hown hg hP hD hK hS hA hnw hgk (x_wrong l D ks H.size ad kk V L Z 1 hMV (by decide)) w867 w869 w6 w162 w870 rfl xgReader hdV_yX1_wrong ⟨Nat.le_of_ble_eq_true rfl, Nat.le_of_ble_eq_true rfl⟩ rfl hl.1 rfl (Nat.le_of_ble_eq_true rfl) dX1_take_13 ⟨Nat.le_of_ble_eq_true rfl, Nat.le_of_ble_eq_true rfl⟩) hP hD hK hS hA (fun z11 u12 H locs w13 hP hD hK hS => ?_)
    obtain ⟨V15, L16⟩ := u12
    obtain ⟨hMV15, ajV15, axL16, rgz11, t14⟩ := w13
    have axL16 : L = L16 := Eq.symm axL16
    subst axL16
    have hP : va_P D vwCl (xw ad kk V15 L Z) H := hP
    have hD : va_D A (xw ad kk V15 L Z) := hD
    have hMV15 : rgd bX V15 := hMV15
    have ajV15 : agr [(1, 3)] [] V V15 := ajV15
    have agV15 : agr [(1, 3), (6, 8), (6, 9), (6, 10)] [] V V15 := agV.tr ajV15 (by decide) (by decide)
    have rgz11 : 0 ≤ z11.toInt ∧ z11.toInt ≤ 0 := rgz11
    have t14 : 1 ≤ (V15 1 3).toInt := t14
    exact W.zret (v := z11) hx hb hr (nb_ok (by omega)) (fun t ht hW => ⟨⟨z11, (V15, L), rfl, ⟨hMV15, agV15, alL, (show 0 ≤ z11.toInt ∧ z11.toInt ≤ 1 from by (first | exact om_641b3f05f166 rgz11.1 rgz11.2 | omega)), (Imp.mk (fun hp => have hp : z11.toInt = 0 := hp; (show 1 ≤ (V15 1 3).toInt from by (first | exact om_f8d8213eda45 t14 | omega))))⟩, by rw [ht]; exact hP, va_K.moved hW.alike hK, hD⟩, hS.F ht⟩) hS.2.2 dX1_take_16
abbrev r_x_takeNumber : Room := { frames := 1, cells := 0, slots := 0, locals := 21 }
abbrev q_x_takeNumber (D : va_G) (ks : KS) (ad : Nat → Nat) (kk : Nat → ClassId) (V : Vf) (L : Lf) (Z : XZ) (p0 : Int32) (p1 : Int32) (A : Nat → Prop) : Array Value → State → Outcome → State → Prop := va_Qi (fun (r : Int32) (u : Vf × Lf) => rgd bX u.1 ∧ agr [(1, 3), (1, 8), (6, 8), (6, 9), (6, 10)] [] V u.1 ∧ agL [6] L u.2 ∧ (0 ≤ r.toInt ∧ r.toInt ≤ 1) ∧ (Imp (r.toInt = 1) (p0.toInt ≤ (u.1 1 8).toInt ∧ (u.1 1 8).toInt ≤ p1.toInt)) ∧ (Imp (r.toInt = 0) (1 ≤ (u.1 1 3).toInt))) (fun u t => gq D A (xw ad kk u.1 u.2 Z) (xty kk Z) t) A
set_option maxHeartbeats 4000000 in
set_option maxRecDepth 100000 in
theorem x_takeNumber (l : Launch) (D : va_G) (ks : KS) (sz : Nat) (ad : Nat → Nat) (kk : Nat → ClassId) (V : Vf) (L : Lf) (Z : XZ) (p0 : Int32) (p1 : Int32) (hMV : rgd bX V) (y1 : 0 ≤ p0.toInt) (y2 : p1.toInt ≤ 999999999)  : Met l yX1_takeNumber (Cond.code yX1_takeNumber cX1_takeNumber 3 (some .boolean) :: GW) r_x_takeNumber (va_Pc [.ref (ad 1), .int p0, .int p1] (gp D ks (xw ad kk V L Z) (xty kk Z) sz)) (q_x_takeNumber D ks ad kk V L Z p0 p1 (va_A (xw ad kk V L Z) sz)) 0 0 (va_A (xw ad kk V L Z) sz) := by
  refine g_met (q_x_takeNumber D ks ad kk V L Z p0 p1) (by decide) (Nat.le_of_ble_eq_true rfl) ?_
  intro p e s m below meth c A ls H locs hx hb hr hml hown hg hlocks hin hnw hgk hP hK hD hS hA hl
  have hown : s.vm.findClass RX1 = some m.cls := hown
  have hl : lv_has ls 3 [(0, .ref (ad 1)), (1, .int p0), (2, .int p1)] := hl
  have hP : va_P D vwCl (xw ad kk V L Z) H := hP
  have hD : va_D A (xw ad kk V L Z) := hD
  have hK : va_K D vwCl (xty kk Z) s := hK
  have agV : agr [(1, 3), (1, 8), (6, 8), (6, 9), (6, 10)] [] V V := agr.rf
  have alL : agL [6] L L := agL.rf
  have rf_p0 := i_full p0
  have rf_p1 := i_full p1
  refine lv_aload_n hx hb dX1_takeNumber_0 rfl (lv_at hl 0 rfl) ?_
  refine va_get (D := D) (ci := 1) (v := .ref (ad 6)) (fs := (xfReader ad V L Z)) (C := RX1) (T := TX1) (N := 9) hx hb hg inX1 hown hK hP 1 xgReader rfl 0 (by decide) (hg _ w304) (fun _ h9 => h9) rfl dX1_takeNumber_1 ?_
  refine va_getN (D := D) (ci := 9) (v := .int (V 6 9)) (fs := (xfTape ad V L Z)) (C := RX9) (T := TX9) (N := 12) hx hb hg inX9 hown hK hP 6 xgTape rfl 9 (by decide) (hnw.use 262 n262 rfl) (fun _ h9 => h9) rfl dX1_takeNumber_4 ?_
  refine lv_iconst (v := 2) hx hb dX1_takeNumber_7 (by decide) ?_
  refine lv_icmp_eq (tgt := 17) hx hb dX1_takeNumber_8 (by decide) (fun c1 => ?_) (fun c1 => ?_)
  · skip
    have f2 : ((V 6 9)).toInt = 2 := b_eq rfl (by decide) c1
    refine lv_aload_n hx hb dX1_takeNumber_17 rfl (lv_at hl 0 rfl) ?_
    refine va_get (D := D) (ci := 1) (v := .ref (ad 6)) (fs := (xfReader ad V L Z)) (C := RX1) (T := TX1) (N := 9) hx hb hg inX1 hown hK hP 1 xgReader rfl 0 (by decide) (hg _ w304) (fun _ h9 => h9) rfl dX1_takeNumber_18 ?_
    refine va_getN (D := D) (ci := 9) (v := .long (L 6 11)) (fs := (xfTape ad V L Z)) (C := RX9) (T := TX9) (N := 12) hx hb hg inX9 hown hK hP 6 xgTape rfl 11 (by decide) (hnw.use 269 n269 rfl) (fun _ h9 => h9) rfl dX1_takeNumber_21 ?_
    refine lv_iload_n hx hb dX1_takeNumber_24 rfl (lv_at hl 1 rfl) ?_
    refine lv_i2l hx hb dX1_takeNumber_25 rfl ?_
    refine lv_topl (fun w3 ew3 => ?_)
    have hw3 : w3.toInt = p0.toInt := i2l_f ew3 rfl
    refine W.lcmp hx hb dX1_takeNumber_26 ?_
    refine lv_topi (fun z4 ez4 => ?_)
    have hz4 := lcmp_f ez4
    refine lv_if_lt (tgt := 43) hx hb dX1_takeNumber_27 (by decide) (fun c5 => ?_) (fun c5 => ?_)
    · skip
      have f6 : z4.toInt < 0 := b_lt rfl (by decide) c5
      refine lv_aload_n hx hb dX1_takeNumber_43 rfl (lv_at hl 0 rfl) ?_
      refine lv_iconst (v := 4) hx hb dX1_takeNumber_44 (by decide) ?_
      have r7 : Int32.toInt 4 = 4 := by decide
      refine gA_int (gA_runV (As := [.int 4]) (rest := []) (ci := 1) (q0 := 1) hx hb hml hown hg hP hD hK hS hA hnw hgk (x_wrong l D ks H.size ad kk V L Z 4 hMV (by decide)) w867 w869 w6 w162 w870 rfl xgReader hdV_yX1_wrong ⟨Nat.le_of_ble_eq_true rfl, Nat.le_of_ble_eq_true rfl⟩ rfl hl.1 rfl (Nat.le_of_ble_eq_true rfl) dX1_takeNumber_45 ⟨Nat.le_of_ble_eq_true rfl, Nat.le_of_ble_eq_true rfl⟩) hP hD hK hS hA (fun z8 u9 H locs w10 hP hD hK hS => ?_)
      obtain ⟨V12, L13⟩ := u9
      obtain ⟨hMV12, ajV12, axL13, rgz8, t11⟩ := w10
      have axL13 : L = L13 := Eq.symm axL13
      subst axL13
      have hP : va_P D vwCl (xw ad kk V12 L Z) H := hP
      have hD : va_D A (xw ad kk V12 L Z) := hD
      have hMV12 : rgd bX V12 := hMV12
      have ajV12 : agr [(1, 3)] [] V V12 := ajV12
      have agV12 : agr [(1, 3), (1, 8), (6, 8), (6, 9), (6, 10)] [] V V12 := agV.tr ajV12 (by decide) (by decide)
      have rgz8 : 0 ≤ z8.toInt ∧ z8.toInt ≤ 0 := rgz8
      have t11 : 1 ≤ (V12 1 3).toInt := t11
      have pq14 : (V12 1 8).toInt = ((V 1 8)).toInt := congrArg Int32.toInt (ajV12 1 8 rfl)
      have r15 : 0 ≤ ((V 1 8)).toInt ∧ ((V 1 8)).toInt ≤ 999999999 := hMV 1 8
      exact W.zret (v := z8) hx hb hr (nb_ok (by omega)) (fun t ht hW => ⟨⟨z8, (V12, L), rfl, ⟨hMV12, agV12, alL, (show 0 ≤ z8.toInt ∧ z8.toInt ≤ 1 from by (first | exact om_641b3f05f166 rgz8.1 rgz8.2 | omega)), (Imp.mk (fun hp => have hp : z8.toInt = 1 := hp; (show p0.toInt ≤ (V12 1 8).toInt ∧ (V12 1 8).toInt ≤ p1.toInt from by omega))), (Imp.mk (fun hp => have hp : z8.toInt = 0 := hp; (show 1 ≤ (V12 1 3).toInt from by (first | exact om_f8d8213eda45 t11 | omega))))⟩, by rw [ht]; exact hP, va_K.moved hW.alike hK, hD⟩, hS.F ht⟩) hS.2.2 dX1_takeNumber_48
    · skip
      have f16 : 0 ≤ z4.toInt := b_nlt rfl (by decide) c5
      refine lv_aload_n hx hb dX1_takeNumber_30 rfl (lv_at hl 0 rfl) ?_
      refine va_get (D := D) (ci := 1) (v := .ref (ad 6)) (fs := (xfReader ad V L Z)) (C := RX1) (T := TX1) (N := 9) hx hb hg inX1 hown hK hP 1 xgReader rfl 0 (by decide) (hg _ w304) (fun _ h9 => h9) rfl dX1_takeNumber_31 ?_
      refine va_getN (D := D) (ci := 9) (v := .long (L 6 11)) (fs := (xfTape ad V L Z)) (C := RX9) (T := TX9) (N := 12) hx hb hg inX9 hown hK hP 6 xgTape rfl 11 (by decide) (hnw.use 269 n269 rfl) (fun _ h9 => h9) rfl dX1_takeNumber_34 ?_
      refine lv_iload_n hx hb dX1_takeNumber_37 rfl (lv_at hl 2 rfl) ?_
      refine lv_i2l hx hb dX1_takeNumber_38 rfl ?_
      refine lv_topl (fun w17 ew17 => ?_)
      have hw17 : w17.toInt = p1.toInt := i2l_f ew17 rfl
      refine W.lcmp hx hb dX1_takeNumber_39 ?_
      refine lv_topi (fun z18 ez18 => ?_)
      have hz18 := lcmp_f ez18
      refine lv_if_le (tgt := 49) hx hb dX1_takeNumber_40 (by decide) (fun c19 => ?_) (fun c19 => ?_)
      · skip
        have f20 : z18.toInt ≤ 0 := b_le rfl (by decide) c19
        refine lv_aload_n hx hb dX1_takeNumber_49 rfl (lv_at hl 0 rfl) ?_
        refine lv_aload_n hx hb dX1_takeNumber_50 rfl (lv_at hl 0 rfl) ?_
        refine va_get (D := D) (ci := 1) (v := .ref (ad 6)) (fs := (xfReader ad V L Z)) (C := RX1) (T := TX1) (N := 9) hx hb hg inX1 hown hK hP 1 xgReader rfl 0 (by decide) (hg _ w304) (fun _ h9 => h9) rfl dX1_takeNumber_51 ?_
        refine va_getN (D := D) (ci := 9) (v := .long (L 6 11)) (fs := (xfTape ad V L Z)) (C := RX9) (T := TX9) (N := 12) hx hb hg inX9 hown hK hP 6 xgTape rfl 11 (by decide) (hnw.use 269 n269 rfl) (fun _ h9 => h9) rfl dX1_takeNumber_54 ?_
        refine lv_l2i hx hb dX1_takeNumber_57 rfl ?_
        refine lv_topi (fun z21 ez21 => ?_)
        have hz21 := l2i_f ez21
        refine va_put (D := D) (ci := 1) (v := .int z21) (ty := tyX1 8) (fs := (xfReader ad V L Z)) (C := RX1) (T := TX1) (N := 9) hx hb hg inX1 tyX1 tyX1_ok nmX1 hown hK hP hD hS 1 xgReader rfl 8 (by decide) (hg _ w312) (fun _ h9 => h9) rfl (tyX1_ok 8 (by decide)) rfl rfl (Nat.le_of_ble_eq_true rfl) dX1_takeNumber_58 (fun H locs hP hD hS => ?_)
        obtain ⟨V22, hV22⟩ : ∃ z, z = up2 V 1 8 z21 := ⟨_, rfl⟩
        have ew23 : (xw ad kk V L Z).set 1 ((ad 1), .inr (1, (xfReader ad V L Z).set 8 (.int z21))) = xw ad kk V22 L Z := by rw [hV22]; exact xw_ss (by decide) rfl (xb_si (by decide))
        have hP : va_P D vwCl (xw ad kk V22 L Z) H := by rw [← ew23]; exact hP
        have hD : va_D A (xw ad kk V22 L Z) := by rw [← ew23]; exact hD
        have hMV22 : rgd bX V22 := hMV.put hV22 (show 0 ≤ z21.toInt ∧ z21.toInt ≤ 999999999 from by first | omega | ((try (have i_hz21 := Imp.go hz21 (by omega))); omega))
        have agV22 : agr [(1, 3), (1, 8), (6, 8), (6, 9), (6, 10)] [] V V22 := agV.up hV22 rfl
        refine lv_aload_n hx hb dX1_takeNumber_61 rfl (lv_at hl 0 rfl) ?_
        refine va_get (D := D) (ci := 1) (v := .ref (ad 6)) (fs := (xfReader ad V22 L Z)) (C := RX1) (T := TX1) (N := 9) hx hb hg inX1 hown hK hP 1 xgReader rfl 0 (by decide) (hg _ w304) (fun _ h9 => h9) rfl dX1_takeNumber_62 ?_
        refine gA_void (gA_runV (As := []) (rest := []) (ci := 9) (q0 := 6) hx hb hml hown hg hP hD hK hS hA hnw hgk (x_next l D ks H.size ad kk V22 L Z  hMV22 ) w871 w852 w853 w157 w854 rfl xgTape hdV_yX9_next ⟨Nat.le_of_ble_eq_true rfl, Nat.le_of_ble_eq_true rfl⟩ rfl hl.1 rfl (Nat.le_of_ble_eq_true rfl) dX1_takeNumber_65 ⟨Nat.le_of_ble_eq_true rfl, Nat.le_of_ble_eq_true rfl⟩) hP hD hK hS hA (fun u25 H locs w26 hP hD hK hS => ?_)
        obtain ⟨V27, L28⟩ := u25
        obtain ⟨hMV27, ajV27, axL28⟩ := w26
        have alL28 : agL [6] L L28 := agL.tr alL axL28 (by decide)
        have hP : va_P D vwCl (xw ad kk V27 L28 Z) H := hP
        have hD : va_D A (xw ad kk V27 L28 Z) := hD
        have hMV27 : rgd bX V27 := hMV27
        have ajV27 : agr [(6, 8), (6, 9), (6, 10)] [] V22 V27 := ajV27
        have agV27 : agr [(1, 3), (1, 8), (6, 8), (6, 9), (6, 10)] [] V V27 := agV22.tr ajV27 (by decide) (by decide)
        refine lv_iconst (v := 1) hx hb dX1_takeNumber_68 (by decide) ?_
        have pq29 : (V27 1 8).toInt = z21.toInt := congrArg Int32.toInt ((ajV27 1 8 rfl).trans (up2_s hV22))
        have pq30 : (V27 1 3).toInt = ((V 1 3)).toInt := congrArg Int32.toInt ((ajV27 1 3 rfl).trans (up2_k hV22 (by decide)))
        exact W.zret (v := 1) hx hb hr rfl (fun t ht hW => ⟨⟨1, (V27, L28), rfl, ⟨hMV27, agV27, alL28, (by decide), (Imp.mk (fun _ => (show p0.toInt ≤ (V27 1 8).toInt ∧ (V27 1 8).toInt ≤ p1.toInt from by first | omega | ((try (have i_hz21 := Imp.go hz21 (by omega))); omega)))), (Imp.mk (fun hp => absurd hp (by decide)))⟩, by rw [ht]; exact hP, va_K.moved hW.alike hK, hD⟩, hS.F ht⟩) hS.2.2 dX1_takeNumber_69
      · skip
        have f31 : 0 < z18.toInt := b_nle rfl (by decide) c19
        refine lv_aload_n hx hb dX1_takeNumber_43 rfl (lv_at hl 0 rfl) ?_
        refine lv_iconst (v := 4) hx hb dX1_takeNumber_44 (by decide) ?_
        have r32 : Int32.toInt 4 = 4 := by decide
        refine gA_int (gA_runV (As := [.int 4]) (rest := []) (ci := 1) (q0 := 1) hx hb hml hown hg hP hD hK hS hA hnw hgk (x_wrong l D ks H.size ad kk V L Z 4 hMV (by decide)) w867 w869 w6 w162 w870 rfl xgReader hdV_yX1_wrong ⟨Nat.le_of_ble_eq_true rfl, Nat.le_of_ble_eq_true rfl⟩ rfl hl.1 rfl (Nat.le_of_ble_eq_true rfl) dX1_takeNumber_45 ⟨Nat.le_of_ble_eq_true rfl, Nat.le_of_ble_eq_true rfl⟩) hP hD hK hS hA (fun z33 u34 H locs w35 hP hD hK hS => ?_)
        obtain ⟨V37, L38⟩ := u34
        obtain ⟨hMV37, ajV37, axL38, rgz33, t36⟩ := w35
        have axL38 : L = L38 := Eq.symm axL38
        subst axL38
        have hP : va_P D vwCl (xw ad kk V37 L Z) H := hP
        have hD : va_D A (xw ad kk V37 L Z) := hD
        have hMV37 : rgd bX V37 := hMV37
        have ajV37 : agr [(1, 3)] [] V V37 := ajV37
        have agV37 : agr [(1, 3), (1, 8), (6, 8), (6, 9), (6, 10)] [] V V37 := agV.tr ajV37 (by decide) (by decide)
        have rgz33 : 0 ≤ z33.toInt ∧ z33.toInt ≤ 0 := rgz33
        have t36 : 1 ≤ (V37 1 3).toInt := t36
        have pq39 : (V37 1 8).toInt = ((V 1 8)).toInt := congrArg Int32.toInt (ajV37 1 8 rfl)
        have r40 : 0 ≤ ((V 1 8)).toInt ∧ ((V 1 8)).toInt ≤ 999999999 := hMV 1 8
        exact W.zret (v := z33) hx hb hr (nb_ok (by omega)) (fun t ht hW => ⟨⟨z33, (V37, L), rfl, ⟨hMV37, agV37, alL, (show 0 ≤ z33.toInt ∧ z33.toInt ≤ 1 from by (first | exact om_641b3f05f166 rgz33.1 rgz33.2 | omega)), (Imp.mk (fun hp => have hp : z33.toInt = 1 := hp; (show p0.toInt ≤ (V37 1 8).toInt ∧ (V37 1 8).toInt ≤ p1.toInt from by omega))), (Imp.mk (fun hp => have hp : z33.toInt = 0 := hp; (show 1 ≤ (V37 1 3).toInt from by (first | exact om_f8d8213eda45 t36 | omega))))⟩, by rw [ht]; exact hP, va_K.moved hW.alike hK, hD⟩, hS.F ht⟩) hS.2.2 dX1_takeNumber_48
  · skip
    have f41 : ((V 6 9)).toInt ≠ 2 := b_neq rfl (by decide) c1
    refine lv_aload_n hx hb dX1_takeNumber_11 rfl (lv_at hl 0 rfl) ?_
    refine lv_iconst (v := 1) hx hb dX1_takeNumber_12 (by decide) ?_
    have r42 : Int32.toInt 1 = 1 := by decide
    refine gA_int (gA_runV (As := [.int 1]) (rest := []) (ci := 1) (q0 := 1) hx hb hml hown hg hP hD hK hS hA hnw hgk (x_wrong l D ks H.size ad kk V L Z 1 hMV (by decide)) w867 w869 w6 w162 w870 rfl xgReader hdV_yX1_wrong ⟨Nat.le_of_ble_eq_true rfl, Nat.le_of_ble_eq_true rfl⟩ rfl hl.1 rfl (Nat.le_of_ble_eq_true rfl) dX1_takeNumber_13 ⟨Nat.le_of_ble_eq_true rfl, Nat.le_of_ble_eq_true rfl⟩) hP hD hK hS hA (fun z43 u44 H locs w45 hP hD hK hS => ?_)
    obtain ⟨V47, L48⟩ := u44
    obtain ⟨hMV47, ajV47, axL48, rgz43, t46⟩ := w45
    have axL48 : L = L48 := Eq.symm axL48
    subst axL48
    have hP : va_P D vwCl (xw ad kk V47 L Z) H := hP
    have hD : va_D A (xw ad kk V47 L Z) := hD
    have hMV47 : rgd bX V47 := hMV47
    have ajV47 : agr [(1, 3)] [] V V47 := ajV47
    have agV47 : agr [(1, 3), (1, 8), (6, 8), (6, 9), (6, 10)] [] V V47 := agV.tr ajV47 (by decide) (by decide)
    have rgz43 : 0 ≤ z43.toInt ∧ z43.toInt ≤ 0 := rgz43
    have t46 : 1 ≤ (V47 1 3).toInt := t46
    have pq49 : (V47 1 8).toInt = ((V 1 8)).toInt := congrArg Int32.toInt (ajV47 1 8 rfl)
    have r50 : 0 ≤ ((V 1 8)).toInt ∧ ((V 1 8)).toInt ≤ 999999999 := hMV 1 8
    exact W.zret (v := z43) hx hb hr (nb_ok (by omega)) (fun t ht hW => ⟨⟨z43, (V47, L), rfl, ⟨hMV47, agV47, alL, (show 0 ≤ z43.toInt ∧ z43.toInt ≤ 1 from by (first | exact om_641b3f05f166 rgz43.1 rgz43.2 | omega)), (Imp.mk (fun hp => have hp : z43.toInt = 1 := hp; (show p0.toInt ≤ (V47 1 8).toInt ∧ (V47 1 8).toInt ≤ p1.toInt from by omega))), (Imp.mk (fun hp => have hp : z43.toInt = 0 := hp; (show 1 ≤ (V47 1 3).toInt from by (first | exact om_f8d8213eda45 t46 | omega))))⟩, by rw [ht]; exact hP, va_K.moved hW.alike hK, hD⟩, hS.F ht⟩) hS.2.2 dX1_takeNumber_16
abbrev r_x_takeNewName : Room := { frames := 2, cells := 0, slots := 0, locals := 45 }
abbrev q_x_takeNewName (D : va_G) (ks : KS) (ad : Nat → Nat) (kk : Nat → ClassId) (V : Vf) (L : Lf) (Z : XZ) (b : Nat) (A : Nat → Prop) : Array Value → State → Outcome → State → Prop := va_Qi (fun (r : Int32) (u : Vf × Lf) => rgd bX u.1 ∧ agr [(1, 3), (6, 8), (6, 9), (6, 10)] [] V u.1 ∧ agL [1, 6] L u.2 ∧ (0 ≤ r.toInt ∧ r.toInt ≤ 1) ∧ (Imp (r.toInt = 0) (1 ≤ (u.1 1 3).toInt))) (fun u t => gq D A (xw ad kk u.1 u.2 Z) (xty kk Z) t) A
set_option maxHeartbeats 4000000 in
set_option maxRecDepth 100000 in
theorem x_takeNewName (l : Launch) (D : va_G) (ks : KS) (sz : Nat) (ad : Nat → Nat) (kk : Nat → ClassId) (V : Vf) (L : Lf) (Z : XZ) (b : Nat) (hMV : rgd bX V) (hb2 : b < 2) (rbk : (V 1 1).toInt = (b : Int))  : Met l yX1_takeNewName (Cond.code yX1_takeNewName cX1_takeNewName 1 (some .boolean) :: GW) r_x_takeNewName (va_Pc [.ref (ad 1)] (gp D ks (xw ad kk V L Z) (xty kk Z) sz)) (q_x_takeNewName D ks ad kk V L Z  b (va_A (xw ad kk V L Z) sz)) 0 0 (va_A (xw ad kk V L Z) sz) := by
  refine g_met (q_x_takeNewName D ks ad kk V L Z  b) (by decide) (Nat.le_of_ble_eq_true rfl) ?_
  intro p e s m below meth c A ls H locs hx hb hr hml hown hg hlocks hin hnw hgk hP hK hD hS hA hl
  have hown : s.vm.findClass RX1 = some m.cls := hown
  have hl : lv_has ls 1 [(0, .ref (ad 1))] := hl
  have hP : va_P D vwCl (xw ad kk V L Z) H := hP
  have hD : va_D A (xw ad kk V L Z) := hD
  have hK : va_K D vwCl (xty kk Z) s := hK
  have agV : agr [(1, 3), (6, 8), (6, 9), (6, 10)] [] V V := agr.rf
  have alL : agL [1, 6] L L := agL.rf
  have r1 : (-1) ≤ ((V 1 1)).toInt ∧ ((V 1 1)).toInt ≤ 1 := hMV 1 1
  refine lv_aload_n hx hb dX1_takeNewName_0 rfl (lv_at hl 0 rfl) ?_
  refine va_get (D := D) (ci := 1) (v := .ref (ad 6)) (fs := (xfReader ad V L Z)) (C := RX1) (T := TX1) (N := 9) hx hb hg inX1 hown hK hP 1 xgReader rfl 0 (by decide) (hg _ w304) (fun _ h9 => h9) rfl dX1_takeNewName_1 ?_
  refine va_getN (D := D) (ci := 9) (v := .int (V 6 9)) (fs := (xfTape ad V L Z)) (C := RX9) (T := TX9) (N := 12) hx hb hg inX9 hown hK hP 6 xgTape rfl 9 (by decide) (hnw.use 262 n262 rfl) (fun _ h9 => h9) rfl dX1_takeNewName_4 ?_
  refine lv_iconst (v := 3) hx hb dX1_takeNewName_7 (by decide) ?_
  refine lv_icmp_eq (tgt := 17) hx hb dX1_takeNewName_8 (by decide) (fun c2 => ?_) (fun c2 => ?_)
  · skip
    have f3 : ((V 6 9)).toInt = 3 := b_eq rfl (by decide) c2
    refine lv_aload_n hx hb dX1_takeNewName_17 rfl (lv_at hl 0 rfl) ?_
    refine va_get (D := D) (ci := 1) (v := rfN ad 38 (V 1 1)) (fs := (xfReader ad V L Z)) (C := RX1) (T := TX1) (N := 9) hx hb hg inX1 hown hK hP 1 xgReader rfl 1 (by decide) (hg _ w305) (fun _ h9 => h9) rfl dX1_takeNewName_18 ?_
    refine g_topv (v := .ref (ad (38 + b))) (rfN_r (by omega)) ?_
    refine lv_aload_n hx hb dX1_takeNewName_21 rfl (lv_at hl 0 rfl) ?_
    refine va_get (D := D) (ci := 1) (v := .ref (ad 6)) (fs := (xfReader ad V L Z)) (C := RX1) (T := TX1) (N := 9) hx hb hg inX1 hown hK hP 1 xgReader rfl 0 (by decide) (hg _ w304) (fun _ h9 => h9) rfl dX1_takeNewName_22 ?_
    refine va_getN (D := D) (ci := 9) (v := .long (L 6 11)) (fs := (xfTape ad V L Z)) (C := RX9) (T := TX9) (N := 12) hx hb hg inX9 hown hK hP 6 xgTape rfl 11 (by decide) (hnw.use 269 n269 rfl) (fun _ h9 => h9) rfl dX1_takeNewName_25 ?_
    refine lv_topl (fun w4 ew4 => ?_)
    refine gA_int (gA_runV (As := [.long w4]) (rest := []) (ci := 0) (q0 := (38 + b)) hx hb hml hown hg hP hD hK hS hA hnw hgk (x_isTold l D ks H.size ad kk V L Z w4 (b) hMV (show b < 2 from by (first | exact om_f940a4667dd6 hb2 | omega))) w876 w877 w878 w167 w879 rfl (xgBook hb2) hdV_yX0_isTold ⟨Nat.le_of_ble_eq_true rfl, Nat.le_of_ble_eq_true rfl⟩ rfl hl.1 rfl (Nat.le_of_ble_eq_true rfl) dX1_takeNewName_28 ⟨Nat.le_of_ble_eq_true rfl, Nat.le_of_ble_eq_true rfl⟩) hP hD hK hS hA (fun z5 u6 H locs w7 hP hD hK hS => ?_)
    have rgz5 := w7
    have rgz5 : 0 ≤ z5.toInt ∧ z5.toInt ≤ 1 := rgz5
    refine lv_if_eq (tgt := 40) hx hb dX1_takeNewName_31 (by decide) (fun c8 => ?_) (fun c8 => ?_)
    · skip
      have f9 : z5.toInt = 0 := b_eq rfl (by decide) c8
      refine lv_aload_n hx hb dX1_takeNewName_40 rfl (lv_at hl 0 rfl) ?_
      refine lv_aload_n hx hb dX1_takeNewName_41 rfl (lv_at hl 0 rfl) ?_
      refine va_get (D := D) (ci := 1) (v := .ref (ad 6)) (fs := (xfReader ad V L Z)) (C := RX1) (T := TX1) (N := 9) hx hb hg inX1 hown hK hP 1 xgReader rfl 0 (by decide) (hg _ w304) (fun _ h9 => h9) rfl dX1_takeNewName_42 ?_
      refine va_getN (D := D) (ci := 9) (v := .long (L 6 11)) (fs := (xfTape ad V L Z)) (C := RX9) (T := TX9) (N := 12) hx hb hg inX9 hown hK hP 6 xgTape rfl 11 (by decide) (hnw.use 269 n269 rfl) (fun _ h9 => h9) rfl dX1_takeNewName_45 ?_
      refine lv_topl (fun w10 ew10 => ?_)
      refine va_put (D := D) (ci := 1) (v := .long w10) (ty := tyX1 5) (fs := (xfReader ad V L Z)) (C := RX1) (T := TX1) (N := 9) hx hb hg inX1 tyX1 tyX1_ok nmX1 hown hK hP hD hS 1 xgReader rfl 5 (by decide) (hg _ w309) (fun _ h9 => h9) rfl (tyX1_ok 5 (by decide)) rfl rfl (Nat.le_of_ble_eq_true rfl) dX1_takeNewName_48 (fun H locs hP hD hS => ?_)
      obtain ⟨L11, hL11⟩ : ∃ z, z = upL L 1 5 w10 := ⟨_, rfl⟩
      have ew12 : (xw ad kk V L Z).set 1 ((ad 1), .inr (1, (xfReader ad V L Z).set 5 (.long w10))) = xw ad kk V L11 Z := by rw [hL11]; exact xw_ss (by decide) rfl (fun j => xe_L (fun a => absurd a.1 (by decide)))
      have hP : va_P D vwCl (xw ad kk V L11 Z) H := by rw [← ew12]; exact hP
      have hD : va_D A (xw ad kk V L11 Z) := by rw [← ew12]; exact hD
      have alL11 : agL [1, 6] L L11 := agL.up alL hL11 rfl
      refine lv_aload_n hx hb dX1_takeNewName_51 rfl (lv_at hl 0 rfl) ?_
      refine va_get (D := D) (ci := 1) (v := .ref (ad 6)) (fs := (xfReader ad V L11 Z)) (C := RX1) (T := TX1) (N := 9) hx hb hg inX1 hown hK hP 1 xgReader rfl 0 (by decide) (hg _ w304) (fun _ h9 => h9) rfl dX1_takeNewName_52 ?_
      refine gA_void (gA_runV (As := []) (rest := []) (ci := 9) (q0 := 6) hx hb hml hown hg hP hD hK hS hA hnw hgk (x_next l D ks H.size ad kk V L11 Z  hMV ) w871 w852 w853 w157 w854 rfl xgTape hdV_yX9_next ⟨Nat.le_of_ble_eq_true rfl, Nat.le_of_ble_eq_true rfl⟩ rfl hl.1 rfl (Nat.le_of_ble_eq_true rfl) dX1_takeNewName_55 ⟨Nat.le_of_ble_eq_true rfl, Nat.le_of_ble_eq_true rfl⟩) hP hD hK hS hA (fun u14 H locs w15 hP hD hK hS => ?_)
      obtain ⟨V16, L17⟩ := u14
      obtain ⟨hMV16, ajV16, axL17⟩ := w15
      have alL17 : agL [1, 6] L L17 := agL.tr alL11 axL17 (by decide)
      have hP : va_P D vwCl (xw ad kk V16 L17 Z) H := hP
      have hD : va_D A (xw ad kk V16 L17 Z) := hD
      have hMV16 : rgd bX V16 := hMV16
      have ajV16 : agr [(6, 8), (6, 9), (6, 10)] [] V V16 := ajV16
      have agV16 : agr [(1, 3), (6, 8), (6, 9), (6, 10)] [] V V16 := agV.tr ajV16 (by decide) (by decide)
      refine lv_iconst (v := 1) hx hb dX1_takeNewName_58 (by decide) ?_
      have pq18 : (V16 1 3).toInt = ((V 1 3)).toInt := congrArg Int32.toInt (ajV16 1 3 rfl)
      exact W.zret (v := 1) hx hb hr rfl (fun t ht hW => ⟨⟨1, (V16, L17), rfl, ⟨hMV16, agV16, alL17, (by decide), (Imp.mk (fun hp => absurd hp (by decide)))⟩, by rw [ht]; exact hP, va_K.moved hW.alike hK, hD⟩, hS.F ht⟩) hS.2.2 dX1_takeNewName_59
    · skip
      have f19 : z5.toInt ≠ 0 := b_neq rfl (by decide) c8
      refine lv_aload_n hx hb dX1_takeNewName_34 rfl (lv_at hl 0 rfl) ?_
      refine lv_iconst (v := 3) hx hb dX1_takeNewName_35 (by decide) ?_
      have r20 : Int32.toInt 3 = 3 := by decide
      refine gA_int (gA_runV (As := [.int 3]) (rest := []) (ci := 1) (q0 := 1) hx hb hml hown hg hP hD hK hS hA hnw hgk (x_wrong l D ks H.size ad kk V L Z 3 hMV (by decide)) w867 w869 w6 w162 w870 rfl xgReader hdV_yX1_wrong ⟨Nat.le_of_ble_eq_true rfl, Nat.le_of_ble_eq_true rfl⟩ rfl hl.1 rfl (Nat.le_of_ble_eq_true rfl) dX1_takeNewName_36 ⟨Nat.le_of_ble_eq_true rfl, Nat.le_of_ble_eq_true rfl⟩) hP hD hK hS hA (fun z21 u22 H locs w23 hP hD hK hS => ?_)
      obtain ⟨V25, L26⟩ := u22
      obtain ⟨hMV25, ajV25, axL26, rgz21, t24⟩ := w23
      have axL26 : L = L26 := Eq.symm axL26
      subst axL26
      have hP : va_P D vwCl (xw ad kk V25 L Z) H := hP
      have hD : va_D A (xw ad kk V25 L Z) := hD
      have hMV25 : rgd bX V25 := hMV25
      have ajV25 : agr [(1, 3)] [] V V25 := ajV25
      have agV25 : agr [(1, 3), (6, 8), (6, 9), (6, 10)] [] V V25 := agV.tr ajV25 (by decide) (by decide)
      have rgz21 : 0 ≤ z21.toInt ∧ z21.toInt ≤ 0 := rgz21
      have t24 : 1 ≤ (V25 1 3).toInt := t24
      exact W.zret (v := z21) hx hb hr (nb_ok (by omega)) (fun t ht hW => ⟨⟨z21, (V25, L), rfl, ⟨hMV25, agV25, alL, (show 0 ≤ z21.toInt ∧ z21.toInt ≤ 1 from by (first | exact om_641b3f05f166 rgz21.1 rgz21.2 | omega)), (Imp.mk (fun hp => have hp : z21.toInt = 0 := hp; (show 1 ≤ (V25 1 3).toInt from by (first | exact om_f8d8213eda45 t24 | omega))))⟩, by rw [ht]; exact hP, va_K.moved hW.alike hK, hD⟩, hS.F ht⟩) hS.2.2 dX1_takeNewName_39
  · skip
    have f27 : ((V 6 9)).toInt ≠ 3 := b_neq rfl (by decide) c2
    refine lv_aload_n hx hb dX1_takeNewName_11 rfl (lv_at hl 0 rfl) ?_
    refine lv_iconst (v := 1) hx hb dX1_takeNewName_12 (by decide) ?_
    have r28 : Int32.toInt 1 = 1 := by decide
    refine gA_int (gA_runV (As := [.int 1]) (rest := []) (ci := 1) (q0 := 1) hx hb hml hown hg hP hD hK hS hA hnw hgk (x_wrong l D ks H.size ad kk V L Z 1 hMV (by decide)) w867 w869 w6 w162 w870 rfl xgReader hdV_yX1_wrong ⟨Nat.le_of_ble_eq_true rfl, Nat.le_of_ble_eq_true rfl⟩ rfl hl.1 rfl (Nat.le_of_ble_eq_true rfl) dX1_takeNewName_13 ⟨Nat.le_of_ble_eq_true rfl, Nat.le_of_ble_eq_true rfl⟩) hP hD hK hS hA (fun z29 u30 H locs w31 hP hD hK hS => ?_)
    obtain ⟨V33, L34⟩ := u30
    obtain ⟨hMV33, ajV33, axL34, rgz29, t32⟩ := w31
    have axL34 : L = L34 := Eq.symm axL34
    subst axL34
    have hP : va_P D vwCl (xw ad kk V33 L Z) H := hP
    have hD : va_D A (xw ad kk V33 L Z) := hD
    have hMV33 : rgd bX V33 := hMV33
    have ajV33 : agr [(1, 3)] [] V V33 := ajV33
    have agV33 : agr [(1, 3), (6, 8), (6, 9), (6, 10)] [] V V33 := agV.tr ajV33 (by decide) (by decide)
    have rgz29 : 0 ≤ z29.toInt ∧ z29.toInt ≤ 0 := rgz29
    have t32 : 1 ≤ (V33 1 3).toInt := t32
    exact W.zret (v := z29) hx hb hr (nb_ok (by omega)) (fun t ht hW => ⟨⟨z29, (V33, L), rfl, ⟨hMV33, agV33, alL, (show 0 ≤ z29.toInt ∧ z29.toInt ≤ 1 from by (first | exact om_641b3f05f166 rgz29.1 rgz29.2 | omega)), (Imp.mk (fun hp => have hp : z29.toInt = 0 := hp; (show 1 ≤ (V33 1 3).toInt from by (first | exact om_f8d8213eda45 t32 | omega))))⟩, by rw [ht]; exact hP, va_K.moved hW.alike hK, hD⟩, hS.F ht⟩) hS.2.2 dX1_takeNewName_16
abbrev r_x_isToldType : Room := { frames := 1, cells := 0, slots := 0, locals := 23 }
abbrev q_x_isToldType (D : va_G) (ks : KS) (ad : Nat → Nat) (kk : Nat → ClassId) (V : Vf) (L : Lf) (Z : XZ) (b : Nat) (A : Nat → Prop) : Array Value → State → Outcome → State → Prop := va_Qi (fun (r : Int32) (u : Vf × Lf) => rgd bX u.1 ∧ agr [(1, 3), (1, 6)] [] V u.1 ∧ u.2 = L ∧ (0 ≤ r.toInt ∧ r.toInt ≤ 1) ∧ (Imp (r.toInt = 1) (0 ≤ (u.1 1 6).toInt ∧ (u.1 1 6).toInt ≤ 23)) ∧ (Imp (r.toInt = 0) (1 ≤ (u.1 1 3).toInt))) (fun u t => gq D A (xw ad kk u.1 u.2 Z) (xty kk Z) t) A
set_option maxHeartbeats 4000000 in
set_option maxRecDepth 100000 in
theorem x_isToldType (l : Launch) (D : va_G) (ks : KS) (sz : Nat) (ad : Nat → Nat) (kk : Nat → ClassId) (V : Vf) (L : Lf) (Z : XZ) (b : Nat) (hMV : rgd bX V) (hb2 : b < 2) (rbk : (V 1 1).toInt = (b : Int))  : Met l yX1_isToldType (Cond.code yX1_isToldType cX1_isToldType 1 (some .boolean) :: GW) r_x_isToldType (va_Pc [.ref (ad 1)] (gp D ks (xw ad kk V L Z) (xty kk Z) sz)) (q_x_isToldType D ks ad kk V L Z  b (va_A (xw ad kk V L Z) sz)) 0 0 (va_A (xw ad kk V L Z) sz) := by
  refine g_met (q_x_isToldType D ks ad kk V L Z  b) (by decide) (Nat.le_of_ble_eq_true rfl) ?_
  intro p e s m below meth c A ls H locs hx hb hr hml hown hg hlocks hin hnw hgk hP hK hD hS hA hl
  have hown : s.vm.findClass RX1 = some m.cls := hown
  have hl : lv_has ls 1 [(0, .ref (ad 1))] := hl
  have hP : va_P D vwCl (xw ad kk V L Z) H := hP
  have hD : va_D A (xw ad kk V L Z) := hD
  have hK : va_K D vwCl (xty kk Z) s := hK
  have agV : agr [(1, 3), (1, 6)] [] V V := agr.rf
  have r1 : (-1) ≤ ((V 1 1)).toInt ∧ ((V 1 1)).toInt ≤ 1 := hMV 1 1
  refine lv_aload_n hx hb dX1_isToldType_0 rfl (lv_at hl 0 rfl) ?_
  refine va_get (D := D) (ci := 1) (v := .ref (ad 6)) (fs := (xfReader ad V L Z)) (C := RX1) (T := TX1) (N := 9) hx hb hg inX1 hown hK hP 1 xgReader rfl 0 (by decide) (hg _ w304) (fun _ h9 => h9) rfl dX1_isToldType_1 ?_
  refine va_getN (D := D) (ci := 9) (v := .int (V 6 9)) (fs := (xfTape ad V L Z)) (C := RX9) (T := TX9) (N := 12) hx hb hg inX9 hown hK hP 6 xgTape rfl 9 (by decide) (hnw.use 262 n262 rfl) (fun _ h9 => h9) rfl dX1_isToldType_4 ?_
  refine lv_iconst (v := 3) hx hb dX1_isToldType_7 (by decide) ?_
  refine lv_icmp_eq (tgt := 17) hx hb dX1_isToldType_8 (by decide) (fun c2 => ?_) (fun c2 => ?_)
  · skip
    have f3 : ((V 6 9)).toInt = 3 := b_eq rfl (by decide) c2
    refine lv_aload_n hx hb dX1_isToldType_17 rfl (lv_at hl 0 rfl) ?_
    refine lv_aload_n hx hb dX1_isToldType_18 rfl (lv_at hl 0 rfl) ?_
    refine va_get (D := D) (ci := 1) (v := rfN ad 38 (V 1 1)) (fs := (xfReader ad V L Z)) (C := RX1) (T := TX1) (N := 9) hx hb hg inX1 hown hK hP 1 xgReader rfl 1 (by decide) (hg _ w305) (fun _ h9 => h9) rfl dX1_isToldType_19 ?_
    refine g_topv (v := .ref (ad (38 + b))) (rfN_r (by omega)) ?_
    refine va_getN (D := D) (ci := 0) (v := .ref (ad (40 + (5 * b + 0)))) (fs := (xfBook ad V b)) (C := RX0) (T := TX0) (N := 13) hx hb hg inX0 hown hK hP (38 + b) (xgBook hb2) rfl 0 (by decide) (hnw.use 594 n594 rfl) (fun _ h9 => h9) rfl dX1_isToldType_22 ?_
    refine lv_aload_n hx hb dX1_isToldType_25 rfl (lv_at hl 0 rfl) ?_
    refine va_get (D := D) (ci := 1) (v := .ref (ad 6)) (fs := (xfReader ad V L Z)) (C := RX1) (T := TX1) (N := 9) hx hb hg inX1 hown hK hP 1 xgReader rfl 0 (by decide) (hg _ w304) (fun _ h9 => h9) rfl dX1_isToldType_26 ?_
    refine va_getN (D := D) (ci := 9) (v := .long (L 6 11)) (fs := (xfTape ad V L Z)) (C := RX9) (T := TX9) (N := 12) hx hb hg inX9 hown hK hP 6 xgTape rfl 11 (by decide) (hnw.use 269 n269 rfl) (fun _ h9 => h9) rfl dX1_isToldType_29 ?_
    refine lv_topl (fun w4 ew4 => ?_)
    have il5 : (5 * b + 0) < 10 := by (first | exact om_99c4753a5d76 hb2 | omega)
    refine gA_int (gA_runV (As := [.long w4]) (rest := [.ref (ad 1)]) (ci := 6) (q0 := (40 + (5 * b + 0))) hx hb hml hown hg hP hD hK hS hA hnw hgk (x_find l D ks H.size ad kk V L Z w4 ((5 * b + 0)) hMV (show (5 * b + 0) < 10 from by (first | exact om_99c4753a5d76 hb2 | omega))) w892 w881 w882 w168 w883 rfl (xgNames il5) hdV_yX6_find ⟨Nat.le_of_ble_eq_true rfl, Nat.le_of_ble_eq_true rfl⟩ rfl hl.1 rfl (Nat.le_of_ble_eq_true rfl) dX1_isToldType_32 ⟨Nat.le_of_ble_eq_true rfl, Nat.le_of_ble_eq_true rfl⟩) hP hD hK hS hA (fun z6 u7 H locs w8 hP hD hK hS => ?_)
    obtain ⟨rgz6, t9⟩ := w8
    have rgz6 : (-1) ≤ z6.toInt ∧ z6.toInt ≤ 23 := rgz6
    have t9 : z6.toInt < (V 43 (5 * b + 0)).toInt := t9
    refine va_put (D := D) (ci := 1) (v := .int z6) (ty := tyX1 6) (fs := (xfReader ad V L Z)) (C := RX1) (T := TX1) (N := 9) hx hb hg inX1 tyX1 tyX1_ok nmX1 hown hK hP hD hS 1 xgReader rfl 6 (by decide) (hg _ w310) (fun _ h9 => h9) rfl (tyX1_ok 6 (by decide)) rfl rfl (Nat.le_of_ble_eq_true rfl) dX1_isToldType_35 (fun H locs hP hD hS => ?_)
    obtain ⟨V10, hV10⟩ : ∃ z, z = up2 V 1 6 z6 := ⟨_, rfl⟩
    have ew11 : (xw ad kk V L Z).set 1 ((ad 1), .inr (1, (xfReader ad V L Z).set 6 (.int z6))) = xw ad kk V10 L Z := by rw [hV10]; exact xw_ss (by decide) rfl (xb_si (by decide))
    have hP : va_P D vwCl (xw ad kk V10 L Z) H := by rw [← ew11]; exact hP
    have hD : va_D A (xw ad kk V10 L Z) := by rw [← ew11]; exact hD
    have hMV10 : rgd bX V10 := hMV.put hV10 (show (-1) ≤ z6.toInt ∧ z6.toInt ≤ 23 from by (first | exact om_b5ea211f5a81 rgz6.1 rgz6.2 | omega))
    have agV10 : agr [(1, 3), (1, 6)] [] V V10 := agV.up hV10 rfl
    refine lv_aload_n hx hb dX1_isToldType_38 rfl (lv_at hl 0 rfl) ?_
    refine va_get (D := D) (ci := 1) (v := .int (V10 1 6)) (fs := (xfReader ad V10 L Z)) (C := RX1) (T := TX1) (N := 9) hx hb hg inX1 hown hK hP 1 xgReader rfl 6 (by decide) (hg _ w310) (fun _ h9 => h9) rfl dX1_isToldType_39 ?_
    refine g_top (v := z6) (up2_s hV10) ?_
    refine lv_iconst (v := (-1)) hx hb dX1_isToldType_42 (by decide) ?_
    refine lv_icmp_ne (tgt := 54) hx hb dX1_isToldType_43 (by decide) (fun c12 => ?_) (fun c12 => ?_)
    · skip
      have f13 : z6.toInt ≠ (-1) := b_neq rfl (by decide) c12
      refine lv_iconst (v := 1) hx hb dX1_isToldType_54 (by decide) ?_
      refine lv_goto (tgt := 59) hx hb dX1_isToldType_55 (by decide) ?_
      have pq14 : (V10 1 6).toInt = z6.toInt := congrArg Int32.toInt (up2_s hV10)
      have pq15 : (V10 1 3).toInt = ((V 1 3)).toInt := congrArg Int32.toInt (up2_k hV10 (by decide))
      exact W.zret (v := 1) hx hb hr rfl (fun t ht hW => ⟨⟨1, (V10, L), rfl, ⟨hMV10, agV10, rfl, (by decide), (Imp.mk (fun _ => (show 0 ≤ (V10 1 6).toInt ∧ (V10 1 6).toInt ≤ 23 from by (first | exact om_96de561837e0 rgz6.1 rgz6.2 f13 pq14 | omega)))), (Imp.mk (fun hp => absurd hp (by decide)))⟩, by rw [ht]; exact hP, va_K.moved hW.alike hK, hD⟩, hS.F ht⟩) hS.2.2 dX1_isToldType_59
    · skip
      have f16 : z6.toInt = (-1) := b_eq rfl (by decide) c12
      refine lv_aload_n hx hb dX1_isToldType_46 rfl (lv_at hl 0 rfl) ?_
      refine lv_iconst (v := 2) hx hb dX1_isToldType_47 (by decide) ?_
      have r17 : Int32.toInt 2 = 2 := by decide
      refine gA_int (gA_runV (As := [.int 2]) (rest := []) (ci := 1) (q0 := 1) hx hb hml hown hg hP hD hK hS hA hnw hgk (x_wrong l D ks H.size ad kk V10 L Z 2 hMV10 (by decide)) w867 w869 w6 w162 w870 rfl xgReader hdV_yX1_wrong ⟨Nat.le_of_ble_eq_true rfl, Nat.le_of_ble_eq_true rfl⟩ rfl hl.1 rfl (Nat.le_of_ble_eq_true rfl) dX1_isToldType_48 ⟨Nat.le_of_ble_eq_true rfl, Nat.le_of_ble_eq_true rfl⟩) hP hD hK hS hA (fun z18 u19 H locs w20 hP hD hK hS => ?_)
      obtain ⟨V22, L23⟩ := u19
      obtain ⟨hMV22, ajV22, axL23, rgz18, t21⟩ := w20
      have axL23 : L = L23 := Eq.symm axL23
      subst axL23
      have hP : va_P D vwCl (xw ad kk V22 L Z) H := hP
      have hD : va_D A (xw ad kk V22 L Z) := hD
      have hMV22 : rgd bX V22 := hMV22
      have ajV22 : agr [(1, 3)] [] V10 V22 := ajV22
      have agV22 : agr [(1, 3), (1, 6)] [] V V22 := agV10.tr ajV22 (by decide) (by decide)
      have rgz18 : 0 ≤ z18.toInt ∧ z18.toInt ≤ 0 := rgz18
      have t21 : 1 ≤ (V22 1 3).toInt := t21
      refine lv_if_eq (tgt := 58) hx hb dX1_isToldType_51 (by decide) (fun c24 => ?_) (fun c24 => ?_)
      · skip
        have f25 : z18.toInt = 0 := b_eq rfl (by decide) c24
        refine lv_iconst (v := 0) hx hb dX1_isToldType_58 (by decide) ?_
        have pq26 : (V22 1 6).toInt = z6.toInt := congrArg Int32.toInt ((ajV22 1 6 rfl).trans (up2_s hV10))
        exact W.zret (v := 0) hx hb hr rfl (fun t ht hW => ⟨⟨0, (V22, L), rfl, ⟨hMV22, agV22, rfl, (by decide), (Imp.mk (fun hp => absurd hp (by decide))), (Imp.mk (fun _ => (show 1 ≤ (V22 1 3).toInt from by (first | exact om_f8d8213eda45 t21 | omega))))⟩, by rw [ht]; exact hP, va_K.moved hW.alike hK, hD⟩, hS.F ht⟩) hS.2.2 dX1_isToldType_59
      · skip
        have f27 : z18.toInt ≠ 0 := b_neq rfl (by decide) c24
        exfalso; (first | exact om_0e608cc4b4f6 rgz18.1 rgz18.2 f27 | omega)
  · skip
    have f28 : ((V 6 9)).toInt ≠ 3 := b_neq rfl (by decide) c2
    refine lv_aload_n hx hb dX1_isToldType_11 rfl (lv_at hl 0 rfl) ?_
    refine lv_iconst (v := 1) hx hb dX1_isToldType_12 (by decide) ?_
    have r29 : Int32.toInt 1 = 1 := by decide
    refine gA_int (gA_runV (As := [.int 1]) (rest := []) (ci := 1) (q0 := 1) hx hb hml hown hg hP hD hK hS hA hnw hgk (x_wrong l D ks H.size ad kk V L Z 1 hMV (by decide)) w867 w869 w6 w162 w870 rfl xgReader hdV_yX1_wrong ⟨Nat.le_of_ble_eq_true rfl, Nat.le_of_ble_eq_true rfl⟩ rfl hl.1 rfl (Nat.le_of_ble_eq_true rfl) dX1_isToldType_13 ⟨Nat.le_of_ble_eq_true rfl, Nat.le_of_ble_eq_true rfl⟩) hP hD hK hS hA (fun z30 u31 H locs w32 hP hD hK hS => ?_)
    obtain ⟨V34, L35⟩ := u31
    obtain ⟨hMV34, ajV34, axL35, rgz30, t33⟩ := w32
    have axL35 : L = L35 := Eq.symm axL35
    subst axL35
    have hP : va_P D vwCl (xw ad kk V34 L Z) H := hP
    have hD : va_D A (xw ad kk V34 L Z) := hD
    have hMV34 : rgd bX V34 := hMV34
    have ajV34 : agr [(1, 3)] [] V V34 := ajV34
    have agV34 : agr [(1, 3), (1, 6)] [] V V34 := agV.tr ajV34 (by decide) (by decide)
    have rgz30 : 0 ≤ z30.toInt ∧ z30.toInt ≤ 0 := rgz30
    have t33 : 1 ≤ (V34 1 3).toInt := t33
    have pq36 : (V34 1 6).toInt = ((V 1 6)).toInt := congrArg Int32.toInt (ajV34 1 6 rfl)
    have r37 : (-1) ≤ ((V 1 6)).toInt ∧ ((V 1 6)).toInt ≤ 23 := hMV 1 6
    exact W.zret (v := z30) hx hb hr (nb_ok (by omega)) (fun t ht hW => ⟨⟨z30, (V34, L), rfl, ⟨hMV34, agV34, rfl, (show 0 ≤ z30.toInt ∧ z30.toInt ≤ 1 from by (first | exact om_641b3f05f166 rgz30.1 rgz30.2 | omega)), (Imp.mk (fun hp => have hp : z30.toInt = 1 := hp; (show 0 ≤ (V34 1 6).toInt ∧ (V34 1 6).toInt ≤ 23 from by omega))), (Imp.mk (fun hp => have hp : z30.toInt = 0 := hp; (show 1 ≤ (V34 1 3).toInt from by (first | exact om_f8d8213eda45 t33 | omega))))⟩, by rw [ht]; exact hP, va_K.moved hW.alike hK, hD⟩, hS.F ht⟩) hS.2.2 dX1_isToldType_16
abbrev r_x_takeSetting : Room := { frames := 1, cells := 0, slots := 0, locals := 23 }
abbrev q_x_takeSetting (D : va_G) (ks : KS) (ad : Nat → Nat) (kk : Nat → ClassId) (V : Vf) (L : Lf) (Z : XZ) (b : Nat) (A : Nat → Prop) : Array Value → State → Outcome → State → Prop := va_Qi (fun (r : Int32) (u : Vf × Lf) => rgd bX u.1 ∧ agr [(1, 3), (1, 6), (6, 8), (6, 9), (6, 10)] [] V u.1 ∧ agL [6] L u.2 ∧ (0 ≤ r.toInt ∧ r.toInt ≤ 1) ∧ (Imp (r.toInt = 1) (0 ≤ (u.1 1 6).toInt ∧ (u.1 1 6).toInt ≤ 11)) ∧ (Imp (r.toInt = 0) (1 ≤ (u.1 1 3).toInt))) (fun u t => gq D A (xw ad kk u.1 u.2 Z) (xty kk Z) t) A
set_option maxHeartbeats 4000000 in
set_option maxRecDepth 100000 in
theorem x_takeSetting (l : Launch) (D : va_G) (ks : KS) (sz : Nat) (ad : Nat → Nat) (kk : Nat → ClassId) (V : Vf) (L : Lf) (Z : XZ) (b : Nat) (hMV : rgd bX V) (hb2 : b < 2) (rbk : (V 1 1).toInt = (b : Int))  : Met l yX1_takeSetting (Cond.code yX1_takeSetting cX1_takeSetting 1 (some .boolean) :: GW) r_x_takeSetting (va_Pc [.ref (ad 1)] (gp D ks (xw ad kk V L Z) (xty kk Z) sz)) (q_x_takeSetting D ks ad kk V L Z  b (va_A (xw ad kk V L Z) sz)) 0 0 (va_A (xw ad kk V L Z) sz) := by
  refine g_met (q_x_takeSetting D ks ad kk V L Z  b) (by decide) (Nat.le_of_ble_eq_true rfl) ?_
  intro p e s m below meth c A ls H locs hx hb hr hml hown hg hlocks hin hnw hgk hP hK hD hS hA hl
  have hown : s.vm.findClass RX1 = some m.cls := hown
  have hl : lv_has ls 1 [(0, .ref (ad 1))] := hl
  have hP : va_P D vwCl (xw ad kk V L Z) H := hP
  have hD : va_D A (xw ad kk V L Z) := hD
  have hK : va_K D vwCl (xty kk Z) s := hK
  have agV : agr [(1, 3), (1, 6), (6, 8), (6, 9), (6, 10)] [] V V := agr.rf
  have alL : agL [6] L L := agL.rf
  have r1 : (-1) ≤ ((V 1 1)).toInt ∧ ((V 1 1)).toInt ≤ 1 := hMV 1 1
  refine lv_aload_n hx hb dX1_takeSetting_0 rfl (lv_at hl 0 rfl) ?_
  refine va_get (D := D) (ci := 1) (v := .ref (ad 6)) (fs := (xfReader ad V L Z)) (C := RX1) (T := TX1) (N := 9) hx hb hg inX1 hown hK hP 1 xgReader rfl 0 (by decide) (hg _ w304) (fun _ h9 => h9) rfl dX1_takeSetting_1 ?_
  refine va_getN (D := D) (ci := 9) (v := .int (V 6 9)) (fs := (xfTape ad V L Z)) (C := RX9) (T := TX9) (N := 12) hx hb hg inX9 hown hK hP 6 xgTape rfl 9 (by decide) (hnw.use 262 n262 rfl) (fun _ h9 => h9) rfl dX1_takeSetting_4 ?_
  refine lv_iconst (v := 3) hx hb dX1_takeSetting_7 (by decide) ?_
  refine lv_icmp_eq (tgt := 17) hx hb dX1_takeSetting_8 (by decide) (fun c2 => ?_) (fun c2 => ?_)
  · skip
    have f3 : ((V 6 9)).toInt = 3 := b_eq rfl (by decide) c2
    refine lv_aload_n hx hb dX1_takeSetting_17 rfl (lv_at hl 0 rfl) ?_
    refine lv_aload_n hx hb dX1_takeSetting_18 rfl (lv_at hl 0 rfl) ?_
    refine va_get (D := D) (ci := 1) (v := rfN ad 38 (V 1 1)) (fs := (xfReader ad V L Z)) (C := RX1) (T := TX1) (N := 9) hx hb hg inX1 hown hK hP 1 xgReader rfl 1 (by decide) (hg _ w305) (fun _ h9 => h9) rfl dX1_takeSetting_19 ?_
    refine g_topv (v := .ref (ad (38 + b))) (rfN_r (by omega)) ?_
    refine va_getN (D := D) (ci := 0) (v := .ref (ad (40 + (5 * b + 1)))) (fs := (xfBook ad V b)) (C := RX0) (T := TX0) (N := 13) hx hb hg inX0 hown hK hP (38 + b) (xgBook hb2) rfl 1 (by decide) (hnw.use 597 n597 rfl) (fun _ h9 => h9) rfl dX1_takeSetting_22 ?_
    refine lv_aload_n hx hb dX1_takeSetting_25 rfl (lv_at hl 0 rfl) ?_
    refine va_get (D := D) (ci := 1) (v := .ref (ad 6)) (fs := (xfReader ad V L Z)) (C := RX1) (T := TX1) (N := 9) hx hb hg inX1 hown hK hP 1 xgReader rfl 0 (by decide) (hg _ w304) (fun _ h9 => h9) rfl dX1_takeSetting_26 ?_
    refine va_getN (D := D) (ci := 9) (v := .long (L 6 11)) (fs := (xfTape ad V L Z)) (C := RX9) (T := TX9) (N := 12) hx hb hg inX9 hown hK hP 6 xgTape rfl 11 (by decide) (hnw.use 269 n269 rfl) (fun _ h9 => h9) rfl dX1_takeSetting_29 ?_
    refine lv_topl (fun w4 ew4 => ?_)
    have il5 : (5 * b + 1) < 10 := by (first | exact om_3891d7acfde9 hb2 | omega)
    refine gA_int (gA_runV (As := [.long w4]) (rest := [.ref (ad 1)]) (ci := 6) (q0 := (40 + (5 * b + 1))) hx hb hml hown hg hP hD hK hS hA hnw hgk (x_find l D ks H.size ad kk V L Z w4 ((5 * b + 1)) hMV (show (5 * b + 1) < 10 from by (first | exact om_3891d7acfde9 hb2 | omega))) w892 w881 w882 w168 w883 rfl (xgNames il5) hdV_yX6_find ⟨Nat.le_of_ble_eq_true rfl, Nat.le_of_ble_eq_true rfl⟩ rfl hl.1 rfl (Nat.le_of_ble_eq_true rfl) dX1_takeSetting_32 ⟨Nat.le_of_ble_eq_true rfl, Nat.le_of_ble_eq_true rfl⟩) hP hD hK hS hA (fun z6 u7 H locs w8 hP hD hK hS => ?_)
    obtain ⟨rgz6, t9⟩ := w8
    have rgz6 : (-1) ≤ z6.toInt ∧ z6.toInt ≤ 23 := rgz6
    have t9 : z6.toInt < (V 43 (5 * b + 1)).toInt := t9
    have r10 : 0 ≤ ((V 43 (5 * b + 1))).toInt ∧ ((V 43 (5 * b + 1))).toInt ≤ ((xcap (5 * b + 1) : Nat) : Int) := hMV 43 (5 * b + 1)
    have r11 : xcap (5 * b + 1) = 12 := xcap_1
    refine va_put (D := D) (ci := 1) (v := .int z6) (ty := tyX1 6) (fs := (xfReader ad V L Z)) (C := RX1) (T := TX1) (N := 9) hx hb hg inX1 tyX1 tyX1_ok nmX1 hown hK hP hD hS 1 xgReader rfl 6 (by decide) (hg _ w310) (fun _ h9 => h9) rfl (tyX1_ok 6 (by decide)) rfl rfl (Nat.le_of_ble_eq_true rfl) dX1_takeSetting_35 (fun H locs hP hD hS => ?_)
    obtain ⟨V12, hV12⟩ : ∃ z, z = up2 V 1 6 z6 := ⟨_, rfl⟩
    have ew13 : (xw ad kk V L Z).set 1 ((ad 1), .inr (1, (xfReader ad V L Z).set 6 (.int z6))) = xw ad kk V12 L Z := by rw [hV12]; exact xw_ss (by decide) rfl (xb_si (by decide))
    have hP : va_P D vwCl (xw ad kk V12 L Z) H := by rw [← ew13]; exact hP
    have hD : va_D A (xw ad kk V12 L Z) := by rw [← ew13]; exact hD
    have hMV12 : rgd bX V12 := hMV.put hV12 (show (-1) ≤ z6.toInt ∧ z6.toInt ≤ 23 from by (first | exact om_764b853ca1c3 rgz6.1 t9 r10.2 r11 | omega))
    have agV12 : agr [(1, 3), (1, 6), (6, 8), (6, 9), (6, 10)] [] V V12 := agV.up hV12 rfl
    refine lv_aload_n hx hb dX1_takeSetting_38 rfl (lv_at hl 0 rfl) ?_
    refine va_get (D := D) (ci := 1) (v := .int (V12 1 6)) (fs := (xfReader ad V12 L Z)) (C := RX1) (T := TX1) (N := 9) hx hb hg inX1 hown hK hP 1 xgReader rfl 6 (by decide) (hg _ w310) (fun _ h9 => h9) rfl dX1_takeSetting_39 ?_
    refine g_top (v := z6) (up2_s hV12) ?_
    refine lv_iconst (v := (-1)) hx hb dX1_takeSetting_42 (by decide) ?_
    refine lv_icmp_ne (tgt := 52) hx hb dX1_takeSetting_43 (by decide) (fun c14 => ?_) (fun c14 => ?_)
    · skip
      have f15 : z6.toInt ≠ (-1) := b_neq rfl (by decide) c14
      refine lv_aload_n hx hb dX1_takeSetting_52 rfl (lv_at hl 0 rfl) ?_
      refine va_get (D := D) (ci := 1) (v := .ref (ad 6)) (fs := (xfReader ad V12 L Z)) (C := RX1) (T := TX1) (N := 9) hx hb hg inX1 hown hK hP 1 xgReader rfl 0 (by decide) (hg _ w304) (fun _ h9 => h9) rfl dX1_takeSetting_53 ?_
      refine gA_void (gA_runV (As := []) (rest := []) (ci := 9) (q0 := 6) hx hb hml hown hg hP hD hK hS hA hnw hgk (x_next l D ks H.size ad kk V12 L Z  hMV12 ) w871 w852 w853 w157 w854 rfl xgTape hdV_yX9_next ⟨Nat.le_of_ble_eq_true rfl, Nat.le_of_ble_eq_true rfl⟩ rfl hl.1 rfl (Nat.le_of_ble_eq_true rfl) dX1_takeSetting_56 ⟨Nat.le_of_ble_eq_true rfl, Nat.le_of_ble_eq_true rfl⟩) hP hD hK hS hA (fun u17 H locs w18 hP hD hK hS => ?_)
      obtain ⟨V19, L20⟩ := u17
      obtain ⟨hMV19, ajV19, axL20⟩ := w18
      have alL20 : agL [6] L L20 := agL.tr alL axL20 (by decide)
      have hP : va_P D vwCl (xw ad kk V19 L20 Z) H := hP
      have hD : va_D A (xw ad kk V19 L20 Z) := hD
      have hMV19 : rgd bX V19 := hMV19
      have ajV19 : agr [(6, 8), (6, 9), (6, 10)] [] V12 V19 := ajV19
      have agV19 : agr [(1, 3), (1, 6), (6, 8), (6, 9), (6, 10)] [] V V19 := agV12.tr ajV19 (by decide) (by decide)
      refine lv_iconst (v := 1) hx hb dX1_takeSetting_59 (by decide) ?_
      have pq21 : (V19 1 6).toInt = z6.toInt := congrArg Int32.toInt ((ajV19 1 6 rfl).trans (up2_s hV12))
      have pq22 : (V19 1 3).toInt = ((V 1 3)).toInt := congrArg Int32.toInt ((ajV19 1 3 rfl).trans (up2_k hV12 (by decide)))
      exact W.zret (v := 1) hx hb hr rfl (fun t ht hW => ⟨⟨1, (V19, L20), rfl, ⟨hMV19, agV19, alL20, (by decide), (Imp.mk (fun _ => (show 0 ≤ (V19 1 6).toInt ∧ (V19 1 6).toInt ≤ 11 from by (first | exact om_6f5d237d9957 rgz6.1 t9 r10.2 r11 f15 pq21 | omega)))), (Imp.mk (fun hp => absurd hp (by decide)))⟩, by rw [ht]; exact hP, va_K.moved hW.alike hK, hD⟩, hS.F ht⟩) hS.2.2 dX1_takeSetting_60
    · skip
      have f23 : z6.toInt = (-1) := b_eq rfl (by decide) c14
      refine lv_aload_n hx hb dX1_takeSetting_46 rfl (lv_at hl 0 rfl) ?_
      refine lv_iconst (v := 2) hx hb dX1_takeSetting_47 (by decide) ?_
      have r24 : Int32.toInt 2 = 2 := by decide
      refine gA_int (gA_runV (As := [.int 2]) (rest := []) (ci := 1) (q0 := 1) hx hb hml hown hg hP hD hK hS hA hnw hgk (x_wrong l D ks H.size ad kk V12 L Z 2 hMV12 (by decide)) w867 w869 w6 w162 w870 rfl xgReader hdV_yX1_wrong ⟨Nat.le_of_ble_eq_true rfl, Nat.le_of_ble_eq_true rfl⟩ rfl hl.1 rfl (Nat.le_of_ble_eq_true rfl) dX1_takeSetting_48 ⟨Nat.le_of_ble_eq_true rfl, Nat.le_of_ble_eq_true rfl⟩) hP hD hK hS hA (fun z25 u26 H locs w27 hP hD hK hS => ?_)
      obtain ⟨V29, L30⟩ := u26
      obtain ⟨hMV29, ajV29, axL30, rgz25, t28⟩ := w27
      have axL30 : L = L30 := Eq.symm axL30
      subst axL30
      have hP : va_P D vwCl (xw ad kk V29 L Z) H := hP
      have hD : va_D A (xw ad kk V29 L Z) := hD
      have hMV29 : rgd bX V29 := hMV29
      have ajV29 : agr [(1, 3)] [] V12 V29 := ajV29
      have agV29 : agr [(1, 3), (1, 6), (6, 8), (6, 9), (6, 10)] [] V V29 := agV12.tr ajV29 (by decide) (by decide)
      have rgz25 : 0 ≤ z25.toInt ∧ z25.toInt ≤ 0 := rgz25
      have t28 : 1 ≤ (V29 1 3).toInt := t28
      have pq31 : (V29 1 6).toInt = z6.toInt := congrArg Int32.toInt ((ajV29 1 6 rfl).trans (up2_s hV12))
      exact W.zret (v := z25) hx hb hr (nb_ok (by omega)) (fun t ht hW => ⟨⟨z25, (V29, L), rfl, ⟨hMV29, agV29, alL, (show 0 ≤ z25.toInt ∧ z25.toInt ≤ 1 from by (first | exact om_641b3f05f166 rgz25.1 rgz25.2 | omega)), (Imp.mk (fun hp => have hp : z25.toInt = 1 := hp; (show 0 ≤ (V29 1 6).toInt ∧ (V29 1 6).toInt ≤ 11 from by omega))), (Imp.mk (fun hp => have hp : z25.toInt = 0 := hp; (show 1 ≤ (V29 1 3).toInt from by (first | exact om_f8d8213eda45 t28 | omega))))⟩, by rw [ht]; exact hP, va_K.moved hW.alike hK, hD⟩, hS.F ht⟩) hS.2.2 dX1_takeSetting_51
  · skip
    have f32 : ((V 6 9)).toInt ≠ 3 := b_neq rfl (by decide) c2
    refine lv_aload_n hx hb dX1_takeSetting_11 rfl (lv_at hl 0 rfl) ?_
    refine lv_iconst (v := 1) hx hb dX1_takeSetting_12 (by decide) ?_
    have r33 : Int32.toInt 1 = 1 := by decide
    refine gA_int (gA_runV (As := [.int 1]) (rest := []) (ci := 1) (q0 := 1) hx hb hml hown hg hP hD hK hS hA hnw hgk (x_wrong l D ks H.size ad kk V L Z 1 hMV (by decide)) w867 w869 w6 w162 w870 rfl xgReader hdV_yX1_wrong ⟨Nat.le_of_ble_eq_true rfl, Nat.le_of_ble_eq_true rfl⟩ rfl hl.1 rfl (Nat.le_of_ble_eq_true rfl) dX1_takeSetting_13 ⟨Nat.le_of_ble_eq_true rfl, Nat.le_of_ble_eq_true rfl⟩) hP hD hK hS hA (fun z34 u35 H locs w36 hP hD hK hS => ?_)
    obtain ⟨V38, L39⟩ := u35
    obtain ⟨hMV38, ajV38, axL39, rgz34, t37⟩ := w36
    have axL39 : L = L39 := Eq.symm axL39
    subst axL39
    have hP : va_P D vwCl (xw ad kk V38 L Z) H := hP
    have hD : va_D A (xw ad kk V38 L Z) := hD
    have hMV38 : rgd bX V38 := hMV38
    have ajV38 : agr [(1, 3)] [] V V38 := ajV38
    have agV38 : agr [(1, 3), (1, 6), (6, 8), (6, 9), (6, 10)] [] V V38 := agV.tr ajV38 (by decide) (by decide)
    have rgz34 : 0 ≤ z34.toInt ∧ z34.toInt ≤ 0 := rgz34
    have t37 : 1 ≤ (V38 1 3).toInt := t37
    have pq40 : (V38 1 6).toInt = ((V 1 6)).toInt := congrArg Int32.toInt (ajV38 1 6 rfl)
    have r41 : (-1) ≤ ((V 1 6)).toInt ∧ ((V 1 6)).toInt ≤ 23 := hMV 1 6
    exact W.zret (v := z34) hx hb hr (nb_ok (by omega)) (fun t ht hW => ⟨⟨z34, (V38, L), rfl, ⟨hMV38, agV38, alL, (show 0 ≤ z34.toInt ∧ z34.toInt ≤ 1 from by (first | exact om_641b3f05f166 rgz34.1 rgz34.2 | omega)), (Imp.mk (fun hp => have hp : z34.toInt = 1 := hp; (show 0 ≤ (V38 1 6).toInt ∧ (V38 1 6).toInt ≤ 11 from by omega))), (Imp.mk (fun hp => have hp : z34.toInt = 0 := hp; (show 1 ≤ (V38 1 3).toInt from by (first | exact om_f8d8213eda45 t37 | omega))))⟩, by rw [ht]; exact hP, va_K.moved hW.alike hK, hD⟩, hS.F ht⟩) hS.2.2 dX1_takeSetting_16
end
section
theorem w900 : Cond.code yX6_add cX6_add 3 (some .int) ∈ GW := gw_k tk9_4 25 (rfl) rfl
theorem w897 : Cond.methodLink RX1 91 yX6_add ∈ GW := gw_k tk9_4 22 (by decide +kernel) rfl
theorem w898 : Cond.instanceMethod yX6_add ∈ GW := gw_k tk9_4 23 (by decide +kernel) rfl
theorem w899 : Cond.selects RX6 yX6_add yX6_add ∈ GW := gw_k tk9_4 24 (by decide +kernel) rfl
theorem hdV_yX6_add : yX6_add.cls = RX6 ∧ yX6_add.cls ≠ "java/lang/invoke/MethodHandle" ∧ yX6_add.cls ≠ "java/lang/invoke/VarHandle" ∧ (parseMethodDescriptor yX6_add.desc).map (fun d => d.parameters.length) = some 1 := by decide +kernel
theorem n605 : lw_tbl[605]? = some (Cond.fieldLinkNest RX1 251 "WiringHouse$Book" "methods" "LWiringHouse$Names;" "WiringHouse") := la9 (n := 155) (i := 450) lz9 (la9 (n := 240) (i := 210) ln9_1 (lb9 (i := 210) (by decide +kernel)))
theorem w930 : Cond.code yX1_takeNumbered cX1_takeNumbered 3 (some .boolean) ∈ GW := gw_k tk9_4 55 (rfl) rfl
theorem w927 : Cond.methodLink RX1 254 yX1_takeNumbered ∈ GW := gw_k tk9_4 52 (by decide +kernel) rfl
theorem w929 : Cond.instanceMethod yX1_takeNumbered ∈ GW := gw_k tk9_4 54 (by decide +kernel) rfl
theorem w16 : Cond.selects RX1 yX1_takeNumbered yX1_takeNumbered ∈ GW := gw_mem 16 (by decide +kernel) rfl
theorem hdV_yX1_takeNumbered : yX1_takeNumbered.cls = RX1 ∧ yX1_takeNumbered.cls ≠ "java/lang/invoke/MethodHandle" ∧ yX1_takeNumbered.cls ≠ "java/lang/invoke/VarHandle" ∧ (parseMethodDescriptor yX1_takeNumbered.desc).map (fun d => d.parameters.length) = some 2 := by decide +kernel
theorem n508 : lw_tbl[508]? = some (Cond.fieldLinkNest RX1 197 "WiringHouse$Component" "methodStarts" "[I" "WiringHouse") := la9 (n := 155) (i := 353) lz9 (la9 (n := 240) (i := 113) ln9_1 (lb9 (i := 113) (by decide +kernel)))
theorem n607 : lw_tbl[607]? = some (Cond.fieldLinkNest RX1 258 "WiringHouse$Book" "words" "LWiringHouse$Names;" "WiringHouse") := la9 (n := 155) (i := 452) lz9 (la9 (n := 240) (i := 212) ln9_1 (lb9 (i := 212) (by decide +kernel)))
theorem w311 : Cond.fieldLink RX1 82 "WiringHouse$BookReader" "under" "I" ∈ GW := gw_k tk9_1 156 (by decide +kernel) rfl
theorem w891 : Cond.code yX1_isToldType cX1_isToldType 1 (some .boolean) ∈ GW := gw_k tk9_4 16 (rfl) rfl
theorem w888 : Cond.methodLink RX1 158 yX1_isToldType ∈ GW := gw_k tk9_4 13 (by decide +kernel) rfl
theorem w890 : Cond.instanceMethod yX1_isToldType ∈ GW := gw_k tk9_4 15 (by decide +kernel) rfl
theorem w9 : Cond.selects RX1 yX1_isToldType yX1_isToldType ∈ GW := gw_mem 9 (by decide +kernel) rfl
theorem hdV_yX1_isToldType : yX1_isToldType.cls = RX1 ∧ yX1_isToldType.cls ≠ "java/lang/invoke/MethodHandle" ∧ yX1_isToldType.cls ≠ "java/lang/invoke/VarHandle" ∧ (parseMethodDescriptor yX1_isToldType.desc).map (fun d => d.parameters.length) = some 0 := by decide +kernel
theorem n609 : lw_tbl[609]? = some (Cond.fieldLinkNest RX1 95 "WiringHouse$Book" "typeUnder" "[I" "WiringHouse") := la9 (n := 155) (i := 454) lz9 (la9 (n := 240) (i := 214) ln9_1 (lb9 (i := 214) (by decide +kernel)))
theorem w308 : Cond.fieldLink RX1 200 "WiringHouse$BookReader" "where" "I" ∈ GW := gw_k tk9_1 153 (by decide +kernel) rfl
theorem w974 : Cond.code yX0_emit cX0_emit 2 none ∈ GW := gw_k tk9_4 99 (rfl) rfl
theorem w971 : Cond.methodLink RX1 206 yX0_emit ∈ GW := gw_k tk9_4 96 (by decide +kernel) rfl
theorem w972 : Cond.instanceMethod yX0_emit ∈ GW := gw_k tk9_4 97 (by decide +kernel) rfl
theorem w973 : Cond.selects RX0 yX0_emit yX0_emit ∈ GW := gw_k tk9_4 98 (by decide +kernel) rfl
theorem hdV_yX0_emit : yX0_emit.cls = RX0 ∧ yX0_emit.cls ≠ "java/lang/invoke/MethodHandle" ∧ yX0_emit.cls ≠ "java/lang/invoke/VarHandle" ∧ (parseMethodDescriptor yX0_emit.desc).map (fun d => d.parameters.length) = some 1 := by decide +kernel
theorem dk9_dX1_takeNumbered_0_0 : dOk cX1_takeNumbered [(0, .aload_n 0, 1), (1, .iload_n 2, 1), (2, .iconst (-1), 1), (3, .if_icmp .eq 7, 3), (10, .aload_n 1, 1), (11, .aload_n 0, 1), (12, .getfield 9, 3), (15, .getfield 222, 3), (18, .invokevirtual 91, 3), (21, .putfield 137, 3), (24, .aload_n 0, 1), (25, .getfield 137, 3), (28, .iconst (-1), 1), (29, .if_icmp .ne 9, 3), (38, .aload_n 0, 1), (39, .getfield 9, 3), (42, .invokevirtual 72, 3), (45, .iconst 1, 1), (46, .ireturn, 1), (32, .aload_n 0, 1), (33, .iconst 5, 1), (34, .invokevirtual 47, 3), (37, .ireturn, 1), (6, .iload_n 2, 1)] = true ∧ dOk cX1_takeNumbered [(7, .goto 14, 3)] = true := by decide +kernel
theorem dX1_takeNumbered_0 : decode cX1_takeNumbered 0 = .ok (.aload_n 0, 1) := dr9 dk9_dX1_takeNumbered_0_0.1 0 (0, .aload_n 0, 1) rfl
theorem dX1_takeNumbered_1 : decode cX1_takeNumbered 1 = .ok (.iload_n 2, 1) := dr9 dk9_dX1_takeNumbered_0_0.1 1 (1, .iload_n 2, 1) rfl
theorem dX1_takeNumbered_2 : decode cX1_takeNumbered 2 = .ok (.iconst (-1), 1) := dr9 dk9_dX1_takeNumbered_0_0.1 2 (2, .iconst (-1), 1) rfl
theorem dX1_takeNumbered_3 : decode cX1_takeNumbered 3 = .ok (.if_icmp .eq 7, 3) := dr9 dk9_dX1_takeNumbered_0_0.1 3 (3, .if_icmp .eq 7, 3) rfl
theorem dX1_takeNumbered_10 : decode cX1_takeNumbered 10 = .ok (.aload_n 1, 1) := dr9 dk9_dX1_takeNumbered_0_0.1 4 (10, .aload_n 1, 1) rfl
theorem dX1_takeNumbered_11 : decode cX1_takeNumbered 11 = .ok (.aload_n 0, 1) := dr9 dk9_dX1_takeNumbered_0_0.1 5 (11, .aload_n 0, 1) rfl
theorem dX1_takeNumbered_12 : decode cX1_takeNumbered 12 = .ok (.getfield 9, 3) := dr9 dk9_dX1_takeNumbered_0_0.1 6 (12, .getfield 9, 3) rfl
theorem dX1_takeNumbered_15 : decode cX1_takeNumbered 15 = .ok (.getfield 222, 3) := dr9 dk9_dX1_takeNumbered_0_0.1 7 (15, .getfield 222, 3) rfl
theorem dX1_takeNumbered_18 : decode cX1_takeNumbered 18 = .ok (.invokevirtual 91, 3) := dr9 dk9_dX1_takeNumbered_0_0.1 8 (18, .invokevirtual 91, 3) rfl
theorem dX1_takeNumbered_21 : decode cX1_takeNumbered 21 = .ok (.putfield 137, 3) := dr9 dk9_dX1_takeNumbered_0_0.1 9 (21, .putfield 137, 3) rfl
theorem dX1_takeNumbered_24 : decode cX1_takeNumbered 24 = .ok (.aload_n 0, 1) := dr9 dk9_dX1_takeNumbered_0_0.1 10 (24, .aload_n 0, 1) rfl
theorem dX1_takeNumbered_25 : decode cX1_takeNumbered 25 = .ok (.getfield 137, 3) := dr9 dk9_dX1_takeNumbered_0_0.1 11 (25, .getfield 137, 3) rfl
theorem dX1_takeNumbered_28 : decode cX1_takeNumbered 28 = .ok (.iconst (-1), 1) := dr9 dk9_dX1_takeNumbered_0_0.1 12 (28, .iconst (-1), 1) rfl
theorem dX1_takeNumbered_29 : decode cX1_takeNumbered 29 = .ok (.if_icmp .ne 9, 3) := dr9 dk9_dX1_takeNumbered_0_0.1 13 (29, .if_icmp .ne 9, 3) rfl
theorem dX1_takeNumbered_38 : decode cX1_takeNumbered 38 = .ok (.aload_n 0, 1) := dr9 dk9_dX1_takeNumbered_0_0.1 14 (38, .aload_n 0, 1) rfl
theorem dX1_takeNumbered_39 : decode cX1_takeNumbered 39 = .ok (.getfield 9, 3) := dr9 dk9_dX1_takeNumbered_0_0.1 15 (39, .getfield 9, 3) rfl
theorem dX1_takeNumbered_42 : decode cX1_takeNumbered 42 = .ok (.invokevirtual 72, 3) := dr9 dk9_dX1_takeNumbered_0_0.1 16 (42, .invokevirtual 72, 3) rfl
theorem dX1_takeNumbered_45 : decode cX1_takeNumbered 45 = .ok (.iconst 1, 1) := dr9 dk9_dX1_takeNumbered_0_0.1 17 (45, .iconst 1, 1) rfl
theorem dX1_takeNumbered_46 : decode cX1_takeNumbered 46 = .ok (.ireturn, 1) := dr9 dk9_dX1_takeNumbered_0_0.1 18 (46, .ireturn, 1) rfl
theorem dX1_takeNumbered_32 : decode cX1_takeNumbered 32 = .ok (.aload_n 0, 1) := dr9 dk9_dX1_takeNumbered_0_0.1 19 (32, .aload_n 0, 1) rfl
theorem dX1_takeNumbered_33 : decode cX1_takeNumbered 33 = .ok (.iconst 5, 1) := dr9 dk9_dX1_takeNumbered_0_0.1 20 (33, .iconst 5, 1) rfl
theorem dX1_takeNumbered_34 : decode cX1_takeNumbered 34 = .ok (.invokevirtual 47, 3) := dr9 dk9_dX1_takeNumbered_0_0.1 21 (34, .invokevirtual 47, 3) rfl
theorem dX1_takeNumbered_37 : decode cX1_takeNumbered 37 = .ok (.ireturn, 1) := dr9 dk9_dX1_takeNumbered_0_0.1 22 (37, .ireturn, 1) rfl
theorem dX1_takeNumbered_6 : decode cX1_takeNumbered 6 = .ok (.iload_n 2, 1) := dr9 dk9_dX1_takeNumbered_0_0.1 23 (6, .iload_n 2, 1) rfl
theorem dX1_takeNumbered_7 : decode cX1_takeNumbered 7 = .ok (.goto 14, 3) := dr9 dk9_dX1_takeNumbered_0_0.2 0 (7, .goto 14, 3) rfl
theorem dk9_dX1_takeMethod_0_0 : dOk cX1_takeMethod [(0, .aload_n 0, 1), (1, .getfield 9, 3), (4, .getfield 37, 3), (7, .iconst 3, 1), (8, .if_icmp .eq 9, 3), (17, .aload_n 0, 1), (18, .getfield 15, 3), (21, .getfield 251, 3), (24, .aload_n 0, 1), (25, .getfield 9, 3), (28, .getfield 222, 3), (31, .invokevirtual 248, 3), (34, .istore_n 2, 1), (35, .iload_n 2, 1), (36, .iconst (-1), 1), (37, .if_icmp .eq 23, 3), (60, .aload_n 0, 1), (61, .aload_n 0, 1), (62, .getfield 15, 3), (65, .getfield 251, 3), (68, .iload_n 2, 1), (69, .invokevirtual 254, 3), (72, .ireturn, 1), (40, .aload_n 1, 1)] = true ∧ dOk cX1_takeMethod [(41, .ifnull 19, 3), (11, .aload_n 0, 1), (12, .iconst 1, 1), (13, .invokevirtual 47, 3), (16, .ireturn, 1), (44, .aload_n 1, 1), (45, .getfield 197, 3), (48, .iload_n 2, 1), (49, .iaload, 1), (50, .iconst (-1), 1), (51, .if_icmp .eq 9, 3), (54, .aload_n 0, 1), (55, .iconst 3, 1), (56, .invokevirtual 47, 3), (59, .ireturn, 1)] = true := by decide +kernel
theorem dX1_takeMethod_0 : decode cX1_takeMethod 0 = .ok (.aload_n 0, 1) := dr9 dk9_dX1_takeMethod_0_0.1 0 (0, .aload_n 0, 1) rfl
theorem dX1_takeMethod_1 : decode cX1_takeMethod 1 = .ok (.getfield 9, 3) := dr9 dk9_dX1_takeMethod_0_0.1 1 (1, .getfield 9, 3) rfl
theorem dX1_takeMethod_4 : decode cX1_takeMethod 4 = .ok (.getfield 37, 3) := dr9 dk9_dX1_takeMethod_0_0.1 2 (4, .getfield 37, 3) rfl
theorem dX1_takeMethod_7 : decode cX1_takeMethod 7 = .ok (.iconst 3, 1) := dr9 dk9_dX1_takeMethod_0_0.1 3 (7, .iconst 3, 1) rfl
theorem dX1_takeMethod_8 : decode cX1_takeMethod 8 = .ok (.if_icmp .eq 9, 3) := dr9 dk9_dX1_takeMethod_0_0.1 4 (8, .if_icmp .eq 9, 3) rfl
theorem dX1_takeMethod_17 : decode cX1_takeMethod 17 = .ok (.aload_n 0, 1) := dr9 dk9_dX1_takeMethod_0_0.1 5 (17, .aload_n 0, 1) rfl
theorem dX1_takeMethod_18 : decode cX1_takeMethod 18 = .ok (.getfield 15, 3) := dr9 dk9_dX1_takeMethod_0_0.1 6 (18, .getfield 15, 3) rfl
theorem dX1_takeMethod_21 : decode cX1_takeMethod 21 = .ok (.getfield 251, 3) := dr9 dk9_dX1_takeMethod_0_0.1 7 (21, .getfield 251, 3) rfl
theorem dX1_takeMethod_24 : decode cX1_takeMethod 24 = .ok (.aload_n 0, 1) := dr9 dk9_dX1_takeMethod_0_0.1 8 (24, .aload_n 0, 1) rfl
theorem dX1_takeMethod_25 : decode cX1_takeMethod 25 = .ok (.getfield 9, 3) := dr9 dk9_dX1_takeMethod_0_0.1 9 (25, .getfield 9, 3) rfl
theorem dX1_takeMethod_28 : decode cX1_takeMethod 28 = .ok (.getfield 222, 3) := dr9 dk9_dX1_takeMethod_0_0.1 10 (28, .getfield 222, 3) rfl
theorem dX1_takeMethod_31 : decode cX1_takeMethod 31 = .ok (.invokevirtual 248, 3) := dr9 dk9_dX1_takeMethod_0_0.1 11 (31, .invokevirtual 248, 3) rfl
theorem dX1_takeMethod_34 : decode cX1_takeMethod 34 = .ok (.istore_n 2, 1) := dr9 dk9_dX1_takeMethod_0_0.1 12 (34, .istore_n 2, 1) rfl
theorem dX1_takeMethod_35 : decode cX1_takeMethod 35 = .ok (.iload_n 2, 1) := dr9 dk9_dX1_takeMethod_0_0.1 13 (35, .iload_n 2, 1) rfl
theorem dX1_takeMethod_36 : decode cX1_takeMethod 36 = .ok (.iconst (-1), 1) := dr9 dk9_dX1_takeMethod_0_0.1 14 (36, .iconst (-1), 1) rfl
theorem dX1_takeMethod_37 : decode cX1_takeMethod 37 = .ok (.if_icmp .eq 23, 3) := dr9 dk9_dX1_takeMethod_0_0.1 15 (37, .if_icmp .eq 23, 3) rfl
theorem dX1_takeMethod_60 : decode cX1_takeMethod 60 = .ok (.aload_n 0, 1) := dr9 dk9_dX1_takeMethod_0_0.1 16 (60, .aload_n 0, 1) rfl
theorem dX1_takeMethod_61 : decode cX1_takeMethod 61 = .ok (.aload_n 0, 1) := dr9 dk9_dX1_takeMethod_0_0.1 17 (61, .aload_n 0, 1) rfl
theorem dX1_takeMethod_62 : decode cX1_takeMethod 62 = .ok (.getfield 15, 3) := dr9 dk9_dX1_takeMethod_0_0.1 18 (62, .getfield 15, 3) rfl
theorem dX1_takeMethod_65 : decode cX1_takeMethod 65 = .ok (.getfield 251, 3) := dr9 dk9_dX1_takeMethod_0_0.1 19 (65, .getfield 251, 3) rfl
theorem dX1_takeMethod_68 : decode cX1_takeMethod 68 = .ok (.iload_n 2, 1) := dr9 dk9_dX1_takeMethod_0_0.1 20 (68, .iload_n 2, 1) rfl
theorem dX1_takeMethod_69 : decode cX1_takeMethod 69 = .ok (.invokevirtual 254, 3) := dr9 dk9_dX1_takeMethod_0_0.1 21 (69, .invokevirtual 254, 3) rfl
theorem dX1_takeMethod_72 : decode cX1_takeMethod 72 = .ok (.ireturn, 1) := dr9 dk9_dX1_takeMethod_0_0.1 22 (72, .ireturn, 1) rfl
theorem dX1_takeMethod_40 : decode cX1_takeMethod 40 = .ok (.aload_n 1, 1) := dr9 dk9_dX1_takeMethod_0_0.1 23 (40, .aload_n 1, 1) rfl
theorem dX1_takeMethod_41 : decode cX1_takeMethod 41 = .ok (.ifnull 19, 3) := dr9 dk9_dX1_takeMethod_0_0.2 0 (41, .ifnull 19, 3) rfl
theorem dX1_takeMethod_11 : decode cX1_takeMethod 11 = .ok (.aload_n 0, 1) := dr9 dk9_dX1_takeMethod_0_0.2 1 (11, .aload_n 0, 1) rfl
theorem dX1_takeMethod_12 : decode cX1_takeMethod 12 = .ok (.iconst 1, 1) := dr9 dk9_dX1_takeMethod_0_0.2 2 (12, .iconst 1, 1) rfl
theorem dX1_takeMethod_13 : decode cX1_takeMethod 13 = .ok (.invokevirtual 47, 3) := dr9 dk9_dX1_takeMethod_0_0.2 3 (13, .invokevirtual 47, 3) rfl
theorem dX1_takeMethod_16 : decode cX1_takeMethod 16 = .ok (.ireturn, 1) := dr9 dk9_dX1_takeMethod_0_0.2 4 (16, .ireturn, 1) rfl
theorem dX1_takeMethod_44 : decode cX1_takeMethod 44 = .ok (.aload_n 1, 1) := dr9 dk9_dX1_takeMethod_0_0.2 5 (44, .aload_n 1, 1) rfl
theorem dX1_takeMethod_45 : decode cX1_takeMethod 45 = .ok (.getfield 197, 3) := dr9 dk9_dX1_takeMethod_0_0.2 6 (45, .getfield 197, 3) rfl
theorem dX1_takeMethod_48 : decode cX1_takeMethod 48 = .ok (.iload_n 2, 1) := dr9 dk9_dX1_takeMethod_0_0.2 7 (48, .iload_n 2, 1) rfl
theorem dX1_takeMethod_49 : decode cX1_takeMethod 49 = .ok (.iaload, 1) := dr9 dk9_dX1_takeMethod_0_0.2 8 (49, .iaload, 1) rfl
theorem dX1_takeMethod_50 : decode cX1_takeMethod 50 = .ok (.iconst (-1), 1) := dr9 dk9_dX1_takeMethod_0_0.2 9 (50, .iconst (-1), 1) rfl
theorem dX1_takeMethod_51 : decode cX1_takeMethod 51 = .ok (.if_icmp .eq 9, 3) := dr9 dk9_dX1_takeMethod_0_0.2 10 (51, .if_icmp .eq 9, 3) rfl
theorem dX1_takeMethod_54 : decode cX1_takeMethod 54 = .ok (.aload_n 0, 1) := dr9 dk9_dX1_takeMethod_0_0.2 11 (54, .aload_n 0, 1) rfl
theorem dX1_takeMethod_55 : decode cX1_takeMethod 55 = .ok (.iconst 3, 1) := dr9 dk9_dX1_takeMethod_0_0.2 12 (55, .iconst 3, 1) rfl
theorem dX1_takeMethod_56 : decode cX1_takeMethod 56 = .ok (.invokevirtual 47, 3) := dr9 dk9_dX1_takeMethod_0_0.2 13 (56, .invokevirtual 47, 3) rfl
theorem dX1_takeMethod_59 : decode cX1_takeMethod 59 = .ok (.ireturn, 1) := dr9 dk9_dX1_takeMethod_0_0.2 14 (59, .ireturn, 1) rfl
theorem dk9_dX1_takeCalled_0_0 : dOk cX1_takeCalled [(0, .aload_n 0, 1), (1, .getfield 9, 3), (4, .invokevirtual 72, 3), (7, .aload_n 0, 1), (8, .getfield 9, 3), (11, .getfield 37, 3), (14, .iconst 3, 1), (15, .if_icmp .eq 9, 3), (24, .aload_n 0, 1), (25, .aload_n 0, 1), (26, .getfield 15, 3), (29, .getfield 258, 3), (32, .aload_n 0, 1), (33, .getfield 15, 3), (36, .getfield 258, 3), (39, .aload_n 0, 1), (40, .getfield 9, 3), (43, .getfield 222, 3), (46, .invokevirtual 248, 3), (49, .invokevirtual 254, 3), (52, .ireturn, 1), (18, .aload_n 0, 1), (19, .iconst 1, 1), (20, .invokevirtual 47, 3)] = true ∧ dOk cX1_takeCalled [(23, .ireturn, 1)] = true := by decide +kernel
theorem dX1_takeCalled_0 : decode cX1_takeCalled 0 = .ok (.aload_n 0, 1) := dr9 dk9_dX1_takeCalled_0_0.1 0 (0, .aload_n 0, 1) rfl
theorem dX1_takeCalled_1 : decode cX1_takeCalled 1 = .ok (.getfield 9, 3) := dr9 dk9_dX1_takeCalled_0_0.1 1 (1, .getfield 9, 3) rfl
theorem dX1_takeCalled_4 : decode cX1_takeCalled 4 = .ok (.invokevirtual 72, 3) := dr9 dk9_dX1_takeCalled_0_0.1 2 (4, .invokevirtual 72, 3) rfl
theorem dX1_takeCalled_7 : decode cX1_takeCalled 7 = .ok (.aload_n 0, 1) := dr9 dk9_dX1_takeCalled_0_0.1 3 (7, .aload_n 0, 1) rfl
theorem dX1_takeCalled_8 : decode cX1_takeCalled 8 = .ok (.getfield 9, 3) := dr9 dk9_dX1_takeCalled_0_0.1 4 (8, .getfield 9, 3) rfl
theorem dX1_takeCalled_11 : decode cX1_takeCalled 11 = .ok (.getfield 37, 3) := dr9 dk9_dX1_takeCalled_0_0.1 5 (11, .getfield 37, 3) rfl
theorem dX1_takeCalled_14 : decode cX1_takeCalled 14 = .ok (.iconst 3, 1) := dr9 dk9_dX1_takeCalled_0_0.1 6 (14, .iconst 3, 1) rfl
theorem dX1_takeCalled_15 : decode cX1_takeCalled 15 = .ok (.if_icmp .eq 9, 3) := dr9 dk9_dX1_takeCalled_0_0.1 7 (15, .if_icmp .eq 9, 3) rfl
theorem dX1_takeCalled_24 : decode cX1_takeCalled 24 = .ok (.aload_n 0, 1) := dr9 dk9_dX1_takeCalled_0_0.1 8 (24, .aload_n 0, 1) rfl
theorem dX1_takeCalled_25 : decode cX1_takeCalled 25 = .ok (.aload_n 0, 1) := dr9 dk9_dX1_takeCalled_0_0.1 9 (25, .aload_n 0, 1) rfl
theorem dX1_takeCalled_26 : decode cX1_takeCalled 26 = .ok (.getfield 15, 3) := dr9 dk9_dX1_takeCalled_0_0.1 10 (26, .getfield 15, 3) rfl
theorem dX1_takeCalled_29 : decode cX1_takeCalled 29 = .ok (.getfield 258, 3) := dr9 dk9_dX1_takeCalled_0_0.1 11 (29, .getfield 258, 3) rfl
theorem dX1_takeCalled_32 : decode cX1_takeCalled 32 = .ok (.aload_n 0, 1) := dr9 dk9_dX1_takeCalled_0_0.1 12 (32, .aload_n 0, 1) rfl
theorem dX1_takeCalled_33 : decode cX1_takeCalled 33 = .ok (.getfield 15, 3) := dr9 dk9_dX1_takeCalled_0_0.1 13 (33, .getfield 15, 3) rfl
theorem dX1_takeCalled_36 : decode cX1_takeCalled 36 = .ok (.getfield 258, 3) := dr9 dk9_dX1_takeCalled_0_0.1 14 (36, .getfield 258, 3) rfl
theorem dX1_takeCalled_39 : decode cX1_takeCalled 39 = .ok (.aload_n 0, 1) := dr9 dk9_dX1_takeCalled_0_0.1 15 (39, .aload_n 0, 1) rfl
theorem dX1_takeCalled_40 : decode cX1_takeCalled 40 = .ok (.getfield 9, 3) := dr9 dk9_dX1_takeCalled_0_0.1 16 (40, .getfield 9, 3) rfl
theorem dX1_takeCalled_43 : decode cX1_takeCalled 43 = .ok (.getfield 222, 3) := dr9 dk9_dX1_takeCalled_0_0.1 17 (43, .getfield 222, 3) rfl
theorem dX1_takeCalled_46 : decode cX1_takeCalled 46 = .ok (.invokevirtual 248, 3) := dr9 dk9_dX1_takeCalled_0_0.1 18 (46, .invokevirtual 248, 3) rfl
theorem dX1_takeCalled_49 : decode cX1_takeCalled 49 = .ok (.invokevirtual 254, 3) := dr9 dk9_dX1_takeCalled_0_0.1 19 (49, .invokevirtual 254, 3) rfl
theorem dX1_takeCalled_52 : decode cX1_takeCalled 52 = .ok (.ireturn, 1) := dr9 dk9_dX1_takeCalled_0_0.1 20 (52, .ireturn, 1) rfl
theorem dX1_takeCalled_18 : decode cX1_takeCalled 18 = .ok (.aload_n 0, 1) := dr9 dk9_dX1_takeCalled_0_0.1 21 (18, .aload_n 0, 1) rfl
theorem dX1_takeCalled_19 : decode cX1_takeCalled 19 = .ok (.iconst 1, 1) := dr9 dk9_dX1_takeCalled_0_0.1 22 (19, .iconst 1, 1) rfl
theorem dX1_takeCalled_20 : decode cX1_takeCalled 20 = .ok (.invokevirtual 47, 3) := dr9 dk9_dX1_takeCalled_0_0.1 23 (20, .invokevirtual 47, 3) rfl
theorem dX1_takeCalled_23 : decode cX1_takeCalled 23 = .ok (.ireturn, 1) := dr9 dk9_dX1_takeCalled_0_0.2 0 (23, .ireturn, 1) rfl
theorem dk9_dX1_takeTypes_0_0 : dOk cX1_takeTypes [(0, .iconst 0, 1), (1, .istore_n 1, 1), (2, .aload_n 0, 1), (3, .iconst 0, 1), (4, .putfield 82, 3), (7, .iconst 0, 1), (8, .istore_n 2, 1), (9, .iload_n 2, 1), (10, .bipush 6, 2), (12, .if_icmp .gt 105, 3), (15, .aload_n 0, 1), (16, .invokevirtual 158, 3), (19, .ifCond .ne 5, 3), (24, .iload_n 1, 1), (25, .aload_n 0, 1), (26, .getfield 137, 3), (29, .ishr, 1), (30, .iconst 1, 1), (31, .iand, 1), (32, .ifCond .eq 9, 3), (41, .iload_n 2, 1), (42, .bipush 6, 2), (44, .if_icmp .ne 9, 3), (53, .iload_n 1, 1)] = true ∧ dOk cX1_takeTypes [(54, .iconst 1, 1), (55, .aload_n 0, 1), (56, .getfield 137, 3), (59, .ishl, 1), (60, .ior, 1), (61, .istore_n 1, 1), (62, .aload_n 0, 1), (63, .dup, 1), (64, .getfield 82, 3), (67, .aload_n 0, 1), (68, .getfield 15, 3), (71, .getfield 95, 3), (74, .aload_n 0, 1), (75, .getfield 137, 3), (78, .iaload, 1), (79, .ior, 1), (80, .putfield 82, 3), (83, .aload_n 0, 1), (84, .getfield 9, 3), (87, .invokevirtual 72, 3), (90, .aload_n 0, 1), (91, .getfield 9, 3), (94, .getfield 37, 3), (97, .bipush 44, 2)] = true ∧ dOk cX1_takeTypes [(99, .if_icmp .eq 5, 3), (104, .aload_n 0, 1), (105, .getfield 9, 3), (108, .invokevirtual 72, 3), (111, .iinc 2 1, 3), (114, .goto (-105), 3), (102, .iconst 1, 1), (103, .ireturn, 1), (47, .aload_n 0, 1), (48, .iconst 5, 1), (49, .invokevirtual 47, 3), (52, .ireturn, 1), (35, .aload_n 0, 1), (36, .iconst 3, 1), (37, .invokevirtual 47, 3), (40, .ireturn, 1), (22, .iconst 0, 1), (23, .ireturn, 1)] = true := by decide +kernel
theorem dX1_takeTypes_0 : decode cX1_takeTypes 0 = .ok (.iconst 0, 1) := dr9 dk9_dX1_takeTypes_0_0.1 0 (0, .iconst 0, 1) rfl
theorem dX1_takeTypes_1 : decode cX1_takeTypes 1 = .ok (.istore_n 1, 1) := dr9 dk9_dX1_takeTypes_0_0.1 1 (1, .istore_n 1, 1) rfl
theorem dX1_takeTypes_2 : decode cX1_takeTypes 2 = .ok (.aload_n 0, 1) := dr9 dk9_dX1_takeTypes_0_0.1 2 (2, .aload_n 0, 1) rfl
theorem dX1_takeTypes_3 : decode cX1_takeTypes 3 = .ok (.iconst 0, 1) := dr9 dk9_dX1_takeTypes_0_0.1 3 (3, .iconst 0, 1) rfl
theorem dX1_takeTypes_4 : decode cX1_takeTypes 4 = .ok (.putfield 82, 3) := dr9 dk9_dX1_takeTypes_0_0.1 4 (4, .putfield 82, 3) rfl
theorem dX1_takeTypes_7 : decode cX1_takeTypes 7 = .ok (.iconst 0, 1) := dr9 dk9_dX1_takeTypes_0_0.1 5 (7, .iconst 0, 1) rfl
theorem dX1_takeTypes_8 : decode cX1_takeTypes 8 = .ok (.istore_n 2, 1) := dr9 dk9_dX1_takeTypes_0_0.1 6 (8, .istore_n 2, 1) rfl
theorem dX1_takeTypes_9 : decode cX1_takeTypes 9 = .ok (.iload_n 2, 1) := dr9 dk9_dX1_takeTypes_0_0.1 7 (9, .iload_n 2, 1) rfl
theorem dX1_takeTypes_10 : decode cX1_takeTypes 10 = .ok (.bipush 6, 2) := dr9 dk9_dX1_takeTypes_0_0.1 8 (10, .bipush 6, 2) rfl
theorem dX1_takeTypes_12 : decode cX1_takeTypes 12 = .ok (.if_icmp .gt 105, 3) := dr9 dk9_dX1_takeTypes_0_0.1 9 (12, .if_icmp .gt 105, 3) rfl
theorem dX1_takeTypes_15 : decode cX1_takeTypes 15 = .ok (.aload_n 0, 1) := dr9 dk9_dX1_takeTypes_0_0.1 10 (15, .aload_n 0, 1) rfl
theorem dX1_takeTypes_16 : decode cX1_takeTypes 16 = .ok (.invokevirtual 158, 3) := dr9 dk9_dX1_takeTypes_0_0.1 11 (16, .invokevirtual 158, 3) rfl
theorem dX1_takeTypes_19 : decode cX1_takeTypes 19 = .ok (.ifCond .ne 5, 3) := dr9 dk9_dX1_takeTypes_0_0.1 12 (19, .ifCond .ne 5, 3) rfl
theorem dX1_takeTypes_24 : decode cX1_takeTypes 24 = .ok (.iload_n 1, 1) := dr9 dk9_dX1_takeTypes_0_0.1 13 (24, .iload_n 1, 1) rfl
theorem dX1_takeTypes_25 : decode cX1_takeTypes 25 = .ok (.aload_n 0, 1) := dr9 dk9_dX1_takeTypes_0_0.1 14 (25, .aload_n 0, 1) rfl
theorem dX1_takeTypes_26 : decode cX1_takeTypes 26 = .ok (.getfield 137, 3) := dr9 dk9_dX1_takeTypes_0_0.1 15 (26, .getfield 137, 3) rfl
theorem dX1_takeTypes_29 : decode cX1_takeTypes 29 = .ok (.ishr, 1) := dr9 dk9_dX1_takeTypes_0_0.1 16 (29, .ishr, 1) rfl
theorem dX1_takeTypes_30 : decode cX1_takeTypes 30 = .ok (.iconst 1, 1) := dr9 dk9_dX1_takeTypes_0_0.1 17 (30, .iconst 1, 1) rfl
theorem dX1_takeTypes_31 : decode cX1_takeTypes 31 = .ok (.iand, 1) := dr9 dk9_dX1_takeTypes_0_0.1 18 (31, .iand, 1) rfl
theorem dX1_takeTypes_32 : decode cX1_takeTypes 32 = .ok (.ifCond .eq 9, 3) := dr9 dk9_dX1_takeTypes_0_0.1 19 (32, .ifCond .eq 9, 3) rfl
theorem dX1_takeTypes_41 : decode cX1_takeTypes 41 = .ok (.iload_n 2, 1) := dr9 dk9_dX1_takeTypes_0_0.1 20 (41, .iload_n 2, 1) rfl
theorem dX1_takeTypes_42 : decode cX1_takeTypes 42 = .ok (.bipush 6, 2) := dr9 dk9_dX1_takeTypes_0_0.1 21 (42, .bipush 6, 2) rfl
theorem dX1_takeTypes_44 : decode cX1_takeTypes 44 = .ok (.if_icmp .ne 9, 3) := dr9 dk9_dX1_takeTypes_0_0.1 22 (44, .if_icmp .ne 9, 3) rfl
theorem dX1_takeTypes_53 : decode cX1_takeTypes 53 = .ok (.iload_n 1, 1) := dr9 dk9_dX1_takeTypes_0_0.1 23 (53, .iload_n 1, 1) rfl
theorem dX1_takeTypes_54 : decode cX1_takeTypes 54 = .ok (.iconst 1, 1) := dr9 dk9_dX1_takeTypes_0_0.2.1 0 (54, .iconst 1, 1) rfl
theorem dX1_takeTypes_55 : decode cX1_takeTypes 55 = .ok (.aload_n 0, 1) := dr9 dk9_dX1_takeTypes_0_0.2.1 1 (55, .aload_n 0, 1) rfl
theorem dX1_takeTypes_56 : decode cX1_takeTypes 56 = .ok (.getfield 137, 3) := dr9 dk9_dX1_takeTypes_0_0.2.1 2 (56, .getfield 137, 3) rfl
theorem dX1_takeTypes_59 : decode cX1_takeTypes 59 = .ok (.ishl, 1) := dr9 dk9_dX1_takeTypes_0_0.2.1 3 (59, .ishl, 1) rfl
theorem dX1_takeTypes_60 : decode cX1_takeTypes 60 = .ok (.ior, 1) := dr9 dk9_dX1_takeTypes_0_0.2.1 4 (60, .ior, 1) rfl
theorem dX1_takeTypes_61 : decode cX1_takeTypes 61 = .ok (.istore_n 1, 1) := dr9 dk9_dX1_takeTypes_0_0.2.1 5 (61, .istore_n 1, 1) rfl
theorem dX1_takeTypes_62 : decode cX1_takeTypes 62 = .ok (.aload_n 0, 1) := dr9 dk9_dX1_takeTypes_0_0.2.1 6 (62, .aload_n 0, 1) rfl
theorem dX1_takeTypes_63 : decode cX1_takeTypes 63 = .ok (.dup, 1) := dr9 dk9_dX1_takeTypes_0_0.2.1 7 (63, .dup, 1) rfl
theorem dX1_takeTypes_64 : decode cX1_takeTypes 64 = .ok (.getfield 82, 3) := dr9 dk9_dX1_takeTypes_0_0.2.1 8 (64, .getfield 82, 3) rfl
theorem dX1_takeTypes_67 : decode cX1_takeTypes 67 = .ok (.aload_n 0, 1) := dr9 dk9_dX1_takeTypes_0_0.2.1 9 (67, .aload_n 0, 1) rfl
theorem dX1_takeTypes_68 : decode cX1_takeTypes 68 = .ok (.getfield 15, 3) := dr9 dk9_dX1_takeTypes_0_0.2.1 10 (68, .getfield 15, 3) rfl
theorem dX1_takeTypes_71 : decode cX1_takeTypes 71 = .ok (.getfield 95, 3) := dr9 dk9_dX1_takeTypes_0_0.2.1 11 (71, .getfield 95, 3) rfl
theorem dX1_takeTypes_74 : decode cX1_takeTypes 74 = .ok (.aload_n 0, 1) := dr9 dk9_dX1_takeTypes_0_0.2.1 12 (74, .aload_n 0, 1) rfl
theorem dX1_takeTypes_75 : decode cX1_takeTypes 75 = .ok (.getfield 137, 3) := dr9 dk9_dX1_takeTypes_0_0.2.1 13 (75, .getfield 137, 3) rfl
theorem dX1_takeTypes_78 : decode cX1_takeTypes 78 = .ok (.iaload, 1) := dr9 dk9_dX1_takeTypes_0_0.2.1 14 (78, .iaload, 1) rfl
theorem dX1_takeTypes_79 : decode cX1_takeTypes 79 = .ok (.ior, 1) := dr9 dk9_dX1_takeTypes_0_0.2.1 15 (79, .ior, 1) rfl
theorem dX1_takeTypes_80 : decode cX1_takeTypes 80 = .ok (.putfield 82, 3) := dr9 dk9_dX1_takeTypes_0_0.2.1 16 (80, .putfield 82, 3) rfl
theorem dX1_takeTypes_83 : decode cX1_takeTypes 83 = .ok (.aload_n 0, 1) := dr9 dk9_dX1_takeTypes_0_0.2.1 17 (83, .aload_n 0, 1) rfl
theorem dX1_takeTypes_84 : decode cX1_takeTypes 84 = .ok (.getfield 9, 3) := dr9 dk9_dX1_takeTypes_0_0.2.1 18 (84, .getfield 9, 3) rfl
theorem dX1_takeTypes_87 : decode cX1_takeTypes 87 = .ok (.invokevirtual 72, 3) := dr9 dk9_dX1_takeTypes_0_0.2.1 19 (87, .invokevirtual 72, 3) rfl
theorem dX1_takeTypes_90 : decode cX1_takeTypes 90 = .ok (.aload_n 0, 1) := dr9 dk9_dX1_takeTypes_0_0.2.1 20 (90, .aload_n 0, 1) rfl
theorem dX1_takeTypes_91 : decode cX1_takeTypes 91 = .ok (.getfield 9, 3) := dr9 dk9_dX1_takeTypes_0_0.2.1 21 (91, .getfield 9, 3) rfl
theorem dX1_takeTypes_94 : decode cX1_takeTypes 94 = .ok (.getfield 37, 3) := dr9 dk9_dX1_takeTypes_0_0.2.1 22 (94, .getfield 37, 3) rfl
theorem dX1_takeTypes_97 : decode cX1_takeTypes 97 = .ok (.bipush 44, 2) := dr9 dk9_dX1_takeTypes_0_0.2.1 23 (97, .bipush 44, 2) rfl
theorem dX1_takeTypes_99 : decode cX1_takeTypes 99 = .ok (.if_icmp .eq 5, 3) := dr9 dk9_dX1_takeTypes_0_0.2.2 0 (99, .if_icmp .eq 5, 3) rfl
theorem dX1_takeTypes_104 : decode cX1_takeTypes 104 = .ok (.aload_n 0, 1) := dr9 dk9_dX1_takeTypes_0_0.2.2 1 (104, .aload_n 0, 1) rfl
theorem dX1_takeTypes_105 : decode cX1_takeTypes 105 = .ok (.getfield 9, 3) := dr9 dk9_dX1_takeTypes_0_0.2.2 2 (105, .getfield 9, 3) rfl
theorem dX1_takeTypes_108 : decode cX1_takeTypes 108 = .ok (.invokevirtual 72, 3) := dr9 dk9_dX1_takeTypes_0_0.2.2 3 (108, .invokevirtual 72, 3) rfl
theorem dX1_takeTypes_111 : decode cX1_takeTypes 111 = .ok (.iinc 2 1, 3) := dr9 dk9_dX1_takeTypes_0_0.2.2 4 (111, .iinc 2 1, 3) rfl
theorem dX1_takeTypes_114 : decode cX1_takeTypes 114 = .ok (.goto (-105), 3) := dr9 dk9_dX1_takeTypes_0_0.2.2 5 (114, .goto (-105), 3) rfl
theorem dX1_takeTypes_102 : decode cX1_takeTypes 102 = .ok (.iconst 1, 1) := dr9 dk9_dX1_takeTypes_0_0.2.2 6 (102, .iconst 1, 1) rfl
theorem dX1_takeTypes_103 : decode cX1_takeTypes 103 = .ok (.ireturn, 1) := dr9 dk9_dX1_takeTypes_0_0.2.2 7 (103, .ireturn, 1) rfl
theorem dX1_takeTypes_47 : decode cX1_takeTypes 47 = .ok (.aload_n 0, 1) := dr9 dk9_dX1_takeTypes_0_0.2.2 8 (47, .aload_n 0, 1) rfl
theorem dX1_takeTypes_48 : decode cX1_takeTypes 48 = .ok (.iconst 5, 1) := dr9 dk9_dX1_takeTypes_0_0.2.2 9 (48, .iconst 5, 1) rfl
theorem dX1_takeTypes_49 : decode cX1_takeTypes 49 = .ok (.invokevirtual 47, 3) := dr9 dk9_dX1_takeTypes_0_0.2.2 10 (49, .invokevirtual 47, 3) rfl
theorem dX1_takeTypes_52 : decode cX1_takeTypes 52 = .ok (.ireturn, 1) := dr9 dk9_dX1_takeTypes_0_0.2.2 11 (52, .ireturn, 1) rfl
theorem dX1_takeTypes_35 : decode cX1_takeTypes 35 = .ok (.aload_n 0, 1) := dr9 dk9_dX1_takeTypes_0_0.2.2 12 (35, .aload_n 0, 1) rfl
theorem dX1_takeTypes_36 : decode cX1_takeTypes 36 = .ok (.iconst 3, 1) := dr9 dk9_dX1_takeTypes_0_0.2.2 13 (36, .iconst 3, 1) rfl
theorem dX1_takeTypes_37 : decode cX1_takeTypes 37 = .ok (.invokevirtual 47, 3) := dr9 dk9_dX1_takeTypes_0_0.2.2 14 (37, .invokevirtual 47, 3) rfl
theorem dX1_takeTypes_40 : decode cX1_takeTypes 40 = .ok (.ireturn, 1) := dr9 dk9_dX1_takeTypes_0_0.2.2 15 (40, .ireturn, 1) rfl
theorem dX1_takeTypes_22 : decode cX1_takeTypes 22 = .ok (.iconst 0, 1) := dr9 dk9_dX1_takeTypes_0_0.2.2 16 (22, .iconst 0, 1) rfl
theorem dX1_takeTypes_23 : decode cX1_takeTypes 23 = .ok (.ireturn, 1) := dr9 dk9_dX1_takeTypes_0_0.2.2 17 (23, .ireturn, 1) rfl
theorem dk9_dX1_beginsPart_0_0 : dOk cX1_beginsPart [(0, .aload_n 0, 1), (1, .getfield 9, 3), (4, .getfield 37, 3), (7, .lookupswitch 110 #[(2, 81), (40, 81), (45, 81), (130, 81), (143, 81), (144, 81), (145, 81), (146, 83), (147, 96)], 81), (88, .iconst 1, 1), (89, .ireturn, 1), (90, .aload_n 0, 1), (91, .getfield 200, 3), (94, .ifCond .ne 7, 3), (101, .iconst 0, 1), (102, .ireturn, 1), (97, .iconst 1, 1), (98, .goto 4, 3), (103, .aload_n 0, 1), (104, .getfield 200, 3), (107, .iconst 2, 1), (108, .if_icmp .ne 7, 3), (115, .iconst 0, 1), (116, .ireturn, 1), (111, .iconst 1, 1), (112, .goto 4, 3), (117, .iconst 0, 1), (118, .ireturn, 1)] = true := by decide +kernel
theorem dX1_beginsPart_0 : decode cX1_beginsPart 0 = .ok (.aload_n 0, 1) := dr9 dk9_dX1_beginsPart_0_0 0 (0, .aload_n 0, 1) rfl
theorem dX1_beginsPart_1 : decode cX1_beginsPart 1 = .ok (.getfield 9, 3) := dr9 dk9_dX1_beginsPart_0_0 1 (1, .getfield 9, 3) rfl
theorem dX1_beginsPart_4 : decode cX1_beginsPart 4 = .ok (.getfield 37, 3) := dr9 dk9_dX1_beginsPart_0_0 2 (4, .getfield 37, 3) rfl
theorem dX1_beginsPart_7 : decode cX1_beginsPart 7 = .ok (.lookupswitch 110 #[(2, 81), (40, 81), (45, 81), (130, 81), (143, 81), (144, 81), (145, 81), (146, 83), (147, 96)], 81) := dr9 dk9_dX1_beginsPart_0_0 3 (7, .lookupswitch 110 #[(2, 81), (40, 81), (45, 81), (130, 81), (143, 81), (144, 81), (145, 81), (146, 83), (147, 96)], 81) rfl
theorem dX1_beginsPart_88 : decode cX1_beginsPart 88 = .ok (.iconst 1, 1) := dr9 dk9_dX1_beginsPart_0_0 4 (88, .iconst 1, 1) rfl
theorem dX1_beginsPart_89 : decode cX1_beginsPart 89 = .ok (.ireturn, 1) := dr9 dk9_dX1_beginsPart_0_0 5 (89, .ireturn, 1) rfl
theorem dX1_beginsPart_90 : decode cX1_beginsPart 90 = .ok (.aload_n 0, 1) := dr9 dk9_dX1_beginsPart_0_0 6 (90, .aload_n 0, 1) rfl
theorem dX1_beginsPart_91 : decode cX1_beginsPart 91 = .ok (.getfield 200, 3) := dr9 dk9_dX1_beginsPart_0_0 7 (91, .getfield 200, 3) rfl
theorem dX1_beginsPart_94 : decode cX1_beginsPart 94 = .ok (.ifCond .ne 7, 3) := dr9 dk9_dX1_beginsPart_0_0 8 (94, .ifCond .ne 7, 3) rfl
theorem dX1_beginsPart_101 : decode cX1_beginsPart 101 = .ok (.iconst 0, 1) := dr9 dk9_dX1_beginsPart_0_0 9 (101, .iconst 0, 1) rfl
theorem dX1_beginsPart_102 : decode cX1_beginsPart 102 = .ok (.ireturn, 1) := dr9 dk9_dX1_beginsPart_0_0 10 (102, .ireturn, 1) rfl
theorem dX1_beginsPart_97 : decode cX1_beginsPart 97 = .ok (.iconst 1, 1) := dr9 dk9_dX1_beginsPart_0_0 11 (97, .iconst 1, 1) rfl
theorem dX1_beginsPart_98 : decode cX1_beginsPart 98 = .ok (.goto 4, 3) := dr9 dk9_dX1_beginsPart_0_0 12 (98, .goto 4, 3) rfl
theorem dX1_beginsPart_103 : decode cX1_beginsPart 103 = .ok (.aload_n 0, 1) := dr9 dk9_dX1_beginsPart_0_0 13 (103, .aload_n 0, 1) rfl
theorem dX1_beginsPart_104 : decode cX1_beginsPart 104 = .ok (.getfield 200, 3) := dr9 dk9_dX1_beginsPart_0_0 14 (104, .getfield 200, 3) rfl
theorem dX1_beginsPart_107 : decode cX1_beginsPart 107 = .ok (.iconst 2, 1) := dr9 dk9_dX1_beginsPart_0_0 15 (107, .iconst 2, 1) rfl
theorem dX1_beginsPart_108 : decode cX1_beginsPart 108 = .ok (.if_icmp .ne 7, 3) := dr9 dk9_dX1_beginsPart_0_0 16 (108, .if_icmp .ne 7, 3) rfl
theorem dX1_beginsPart_115 : decode cX1_beginsPart 115 = .ok (.iconst 0, 1) := dr9 dk9_dX1_beginsPart_0_0 17 (115, .iconst 0, 1) rfl
theorem dX1_beginsPart_116 : decode cX1_beginsPart 116 = .ok (.ireturn, 1) := dr9 dk9_dX1_beginsPart_0_0 18 (116, .ireturn, 1) rfl
theorem dX1_beginsPart_111 : decode cX1_beginsPart 111 = .ok (.iconst 1, 1) := dr9 dk9_dX1_beginsPart_0_0 19 (111, .iconst 1, 1) rfl
theorem dX1_beginsPart_112 : decode cX1_beginsPart 112 = .ok (.goto 4, 3) := dr9 dk9_dX1_beginsPart_0_0 20 (112, .goto 4, 3) rfl
theorem dX1_beginsPart_117 : decode cX1_beginsPart 117 = .ok (.iconst 0, 1) := dr9 dk9_dX1_beginsPart_0_0 21 (117, .iconst 0, 1) rfl
theorem dX1_beginsPart_118 : decode cX1_beginsPart 118 = .ok (.ireturn, 1) := dr9 dk9_dX1_beginsPart_0_0 22 (118, .ireturn, 1) rfl
theorem dk9_dX1_putAlone_0_0 : dOk cX1_putAlone [(0, .aload_n 0, 1), (1, .getfield 15, 3), (4, .iload_n 1, 1), (5, .invokevirtual 206, 3), (8, .iconst 1, 1), (9, .ireturn, 1)] = true := by decide +kernel
theorem dX1_putAlone_0 : decode cX1_putAlone 0 = .ok (.aload_n 0, 1) := dr9 dk9_dX1_putAlone_0_0 0 (0, .aload_n 0, 1) rfl
theorem dX1_putAlone_1 : decode cX1_putAlone 1 = .ok (.getfield 15, 3) := dr9 dk9_dX1_putAlone_0_0 1 (1, .getfield 15, 3) rfl
theorem dX1_putAlone_4 : decode cX1_putAlone 4 = .ok (.iload_n 1, 1) := dr9 dk9_dX1_putAlone_0_0 2 (4, .iload_n 1, 1) rfl
theorem dX1_putAlone_5 : decode cX1_putAlone 5 = .ok (.invokevirtual 206, 3) := dr9 dk9_dX1_putAlone_0_0 3 (5, .invokevirtual 206, 3) rfl
theorem dX1_putAlone_8 : decode cX1_putAlone 8 = .ok (.iconst 1, 1) := dr9 dk9_dX1_putAlone_0_0 4 (8, .iconst 1, 1) rfl
theorem dX1_putAlone_9 : decode cX1_putAlone 9 = .ok (.ireturn, 1) := dr9 dk9_dX1_putAlone_0_0 5 (9, .ireturn, 1) rfl
theorem dk9_dX1_put_0_0 : dOk cX1_put [(0, .aload_n 0, 1), (1, .getfield 15, 3), (4, .iload_n 1, 1), (5, .invokevirtual 206, 3), (8, .aload_n 0, 1), (9, .getfield 15, 3), (12, .iload_n 2, 1), (13, .invokevirtual 206, 3), (16, .iconst 1, 1), (17, .ireturn, 1)] = true := by decide +kernel
theorem dX1_put_0 : decode cX1_put 0 = .ok (.aload_n 0, 1) := dr9 dk9_dX1_put_0_0 0 (0, .aload_n 0, 1) rfl
theorem dX1_put_1 : decode cX1_put 1 = .ok (.getfield 15, 3) := dr9 dk9_dX1_put_0_0 1 (1, .getfield 15, 3) rfl
theorem dX1_put_4 : decode cX1_put 4 = .ok (.iload_n 1, 1) := dr9 dk9_dX1_put_0_0 2 (4, .iload_n 1, 1) rfl
theorem dX1_put_5 : decode cX1_put 5 = .ok (.invokevirtual 206, 3) := dr9 dk9_dX1_put_0_0 3 (5, .invokevirtual 206, 3) rfl
theorem dX1_put_8 : decode cX1_put 8 = .ok (.aload_n 0, 1) := dr9 dk9_dX1_put_0_0 4 (8, .aload_n 0, 1) rfl
theorem dX1_put_9 : decode cX1_put 9 = .ok (.getfield 15, 3) := dr9 dk9_dX1_put_0_0 5 (9, .getfield 15, 3) rfl
theorem dX1_put_12 : decode cX1_put 12 = .ok (.iload_n 2, 1) := dr9 dk9_dX1_put_0_0 6 (12, .iload_n 2, 1) rfl
theorem dX1_put_13 : decode cX1_put 13 = .ok (.invokevirtual 206, 3) := dr9 dk9_dX1_put_0_0 7 (13, .invokevirtual 206, 3) rfl
theorem dX1_put_16 : decode cX1_put 16 = .ok (.iconst 1, 1) := dr9 dk9_dX1_put_0_0 8 (16, .iconst 1, 1) rfl
theorem dX1_put_17 : decode cX1_put 17 = .ok (.ireturn, 1) := dr9 dk9_dX1_put_0_0 9 (17, .ireturn, 1) rfl
abbrev r_x_takeNumbered : Room := { frames := 1, cells := 0, slots := 0, locals := 22 }
abbrev q_x_takeNumbered (D : va_G) (ks : KS) (ad : Nat → Nat) (kk : Nat → ClassId) (V : Vf) (L : Lf) (Z : XZ) (p1 : Int32) (gn : Nat) (A : Nat → Prop) : Array Value → State → Outcome → State → Prop := va_Qi (fun (r : Int32) (u : Vf × Lf) => rgd bX u.1 ∧ agr [(1, 3), (1, 6), (6, 8), (6, 9), (6, 10)] [43, 44] V u.1 ∧ agL [6, 44] L u.2 ∧ frX (xN gn) V u.1 ∧ (0 ≤ r.toInt ∧ r.toInt ≤ 1) ∧ (Imp (r.toInt = 1) (0 ≤ (u.1 1 6).toInt ∧ (u.1 1 6).toInt < ((xcap gn : Nat) : Int))) ∧ ((∀ n : Nat, ¬ n = gn → u.1 43 n = V 43 n)) ∧ (Imp (r.toInt = 0) (1 ≤ (u.1 1 3).toInt))) (fun u t => gq D A (xw ad kk u.1 u.2 Z) (xty kk Z) t) A
set_option maxHeartbeats 4000000 in
set_option maxRecDepth 100000 in
theorem x_takeNumbered (l : Launch) (D : va_G) (ks : KS) (sz : Nat) (ad : Nat → Nat) (kk : Nat → ClassId) (V : Vf) (L : Lf) (Z : XZ) (p1 : Int32) (gn : Nat) (hMV : rgd bX V) (rg_p1 : (-1) ≤ p1.toInt ∧ p1.toInt ≤ 23) (hgn : gn < 10) (y1 : p1.toInt < (V 43 gn).toInt)  : Met l yX1_takeNumbered (Cond.code yX1_takeNumbered cX1_takeNumbered 3 (some .boolean) :: GW) r_x_takeNumbered (va_Pc [.ref (ad 1), .ref (ad (40 + gn)), .int p1] (gp D ks (xw ad kk V L Z) (xty kk Z) sz)) (q_x_takeNumbered D ks ad kk V L Z p1 gn (va_A (xw ad kk V L Z) sz)) 0 0 (va_A (xw ad kk V L Z) sz) := by
  refine g_met (q_x_takeNumbered D ks ad kk V L Z p1 gn) (by decide) (Nat.le_of_ble_eq_true rfl) ?_
  intro p e s m below meth c A ls H locs hx hb hr hml hown hg hlocks hin hnw hgk hP hK hD hS hA hl
  have hown : s.vm.findClass RX1 = some m.cls := hown
  have hl : lv_has ls 3 [(0, .ref (ad 1)), (1, .ref (ad (40 + gn))), (2, .int p1)] := hl
  have hP : va_P D vwCl (xw ad kk V L Z) H := hP
  have hD : va_D A (xw ad kk V L Z) := hD
  have hK : va_K D vwCl (xty kk Z) s := hK
  have agV : agr [(1, 3), (1, 6), (6, 8), (6, 9), (6, 10)] [43, 44] V V := agr.rf
  have alL : agL [6, 44] L L := agL.rf
  have fwV : frX (xN gn) V V := frX.rf
  have r1 : 0 ≤ ((V 43 gn)).toInt ∧ ((V 43 gn)).toInt ≤ ((xcap gn : Nat) : Int) := hMV 43 gn
  have r2 := xcap_le gn
  have sz0 : (V 43 gn).toInt ≤ ((xcap gn : Nat) : Int) := (hMV 43 gn).2
  refine lv_aload_n hx hb dX1_takeNumbered_0 rfl (lv_at hl 0 rfl) ?_
  refine lv_iload_n hx hb dX1_takeNumbered_1 rfl (lv_at hl 2 rfl) ?_
  refine lv_iconst (v := (-1)) hx hb dX1_takeNumbered_2 (by decide) ?_
  refine lv_icmp_eq (tgt := 10) hx hb dX1_takeNumbered_3 (by decide) (fun c3 => ?_) (fun c3 => ?_)
  · skip
    have f4 : p1.toInt = (-1) := b_eq rfl (by decide) c3
    refine lv_aload_n hx hb dX1_takeNumbered_10 rfl (lv_at hl 1 rfl) ?_
    refine lv_aload_n hx hb dX1_takeNumbered_11 rfl (lv_at hl 0 rfl) ?_
    refine va_get (D := D) (ci := 1) (v := .ref (ad 6)) (fs := (xfReader ad V L Z)) (C := RX1) (T := TX1) (N := 9) hx hb hg inX1 hown hK hP 1 xgReader rfl 0 (by decide) (hg _ w304) (fun _ h9 => h9) rfl dX1_takeNumbered_12 ?_
    refine va_getN (D := D) (ci := 9) (v := .long (L 6 11)) (fs := (xfTape ad V L Z)) (C := RX9) (T := TX9) (N := 12) hx hb hg inX9 hown hK hP 6 xgTape rfl 11 (by decide) (hnw.use 269 n269 rfl) (fun _ h9 => h9) rfl dX1_takeNumbered_15 ?_
    refine lv_topl (fun w5 ew5 => ?_)
    refine gA_int (gA_runV (As := [.long w5]) (rest := [.ref (ad 1)]) (ci := 6) (q0 := (40 + gn)) hx hb hml hown hg hP hD hK hS hA hnw hgk (x_add l D ks H.size ad kk V L Z w5 (gn) hMV (show gn < 10 from by (first | exact om_b899e50cee0d hgn | omega))) w897 w898 w899 w168 w900 rfl (xgNames hgn) hdV_yX6_add ⟨Nat.le_of_ble_eq_true rfl, Nat.le_of_ble_eq_true rfl⟩ rfl hl.1 rfl (Nat.le_of_ble_eq_true rfl) dX1_takeNumbered_18 ⟨Nat.le_of_ble_eq_true rfl, Nat.le_of_ble_eq_true rfl⟩) hP hD hK hS hA (fun z6 u7 H locs w8 hP hD hK hS => ?_)
    obtain ⟨V12, L13⟩ := u7
    obtain ⟨hMV12, ajV12, axL13, fyV12, rgz6, t9, t10, t11⟩ := w8
    have alL13 : agL [6, 44] L L13 := agL.tr alL axL13 (by decide)
    have hP : va_P D vwCl (xw ad kk V12 L13 Z) H := hP
    have hD : va_D A (xw ad kk V12 L13 Z) := hD
    have hMV12 : rgd bX V12 := hMV12
    have ajV12 : agr [] [43, 44] V V12 := ajV12
    have agV12 : agr [(1, 3), (1, 6), (6, 8), (6, 9), (6, 10)] [43, 44] V V12 := agV.tr ajV12 (by decide) (by decide)
    have fwV12 : frX (xN gn) V V12 := frX.tr fwV (fyV12)
    have rgz6 : (-1) ≤ z6.toInt ∧ z6.toInt ≤ 23 := rgz6
    have t9 : z6.toInt < (V12 43 gn).toInt := t9
    have t10 : Imp ((V 43 gn).toInt < ((xcap gn : Nat) : Int)) (z6.toInt = (V 43 gn).toInt ∧ (V12 43 gn).toInt = (V 43 gn).toInt + 1) := t10
    have t11 : (∀ n : Nat, ¬ n = gn → V12 43 n = V 43 n) := t11
    have sz1 : (V12 43 gn).toInt ≤ ((xcap gn : Nat) : Int) := (hMV12 43 gn).2
    refine va_put (D := D) (ci := 1) (v := .int z6) (ty := tyX1 6) (fs := (xfReader ad V12 L13 Z)) (C := RX1) (T := TX1) (N := 9) hx hb hg inX1 tyX1 tyX1_ok nmX1 hown hK hP hD hS 1 xgReader rfl 6 (by decide) (hg _ w310) (fun _ h9 => h9) rfl (tyX1_ok 6 (by decide)) rfl rfl (Nat.le_of_ble_eq_true rfl) dX1_takeNumbered_21 (fun H locs hP hD hS => ?_)
    obtain ⟨V14, hV14⟩ : ∃ z, z = up2 V12 1 6 z6 := ⟨_, rfl⟩
    have ew15 : (xw ad kk V12 L13 Z).set 1 ((ad 1), .inr (1, (xfReader ad V12 L13 Z).set 6 (.int z6))) = xw ad kk V14 L13 Z := by rw [hV14]; exact xw_ss (by decide) rfl (xb_si (by decide))
    have hP : va_P D vwCl (xw ad kk V14 L13 Z) H := by rw [← ew15]; exact hP
    have hD : va_D A (xw ad kk V14 L13 Z) := by rw [← ew15]; exact hD
    have hMV14 : rgd bX V14 := hMV12.put hV14 (show (-1) ≤ z6.toInt ∧ z6.toInt ≤ 23 from by first | exact om_b5ea211f5a81 rgz6.1 rgz6.2 | first | omega | ((try (have i_t10 := Imp.go t10 (by omega))); omega))
    have agV14 : agr [(1, 3), (1, 6), (6, 8), (6, 9), (6, 10)] [43, 44] V V14 := agV12.up hV14 rfl
    have fwV14 : frX (xN gn) V V14 := frX.up fwV12 hV14 (Or.inl (by decide))
    refine lv_aload_n hx hb dX1_takeNumbered_24 rfl (lv_at hl 0 rfl) ?_
    refine va_get (D := D) (ci := 1) (v := .int (V14 1 6)) (fs := (xfReader ad V14 L13 Z)) (C := RX1) (T := TX1) (N := 9) hx hb hg inX1 hown hK hP 1 xgReader rfl 6 (by decide) (hg _ w310) (fun _ h9 => h9) rfl dX1_takeNumbered_25 ?_
    refine g_top (v := z6) (up2_s hV14) ?_
    refine lv_iconst (v := (-1)) hx hb dX1_takeNumbered_28 (by decide) ?_
    refine lv_icmp_ne (tgt := 38) hx hb dX1_takeNumbered_29 (by decide) (fun c16 => ?_) (fun c16 => ?_)
    · skip
      have f17 : z6.toInt ≠ (-1) := b_neq rfl (by decide) c16
      refine lv_aload_n hx hb dX1_takeNumbered_38 rfl (lv_at hl 0 rfl) ?_
      refine va_get (D := D) (ci := 1) (v := .ref (ad 6)) (fs := (xfReader ad V14 L13 Z)) (C := RX1) (T := TX1) (N := 9) hx hb hg inX1 hown hK hP 1 xgReader rfl 0 (by decide) (hg _ w304) (fun _ h9 => h9) rfl dX1_takeNumbered_39 ?_
      refine gA_void (gA_runV (As := []) (rest := []) (ci := 9) (q0 := 6) hx hb hml hown hg hP hD hK hS hA hnw hgk (x_next l D ks H.size ad kk V14 L13 Z  hMV14 ) w871 w852 w853 w157 w854 rfl xgTape hdV_yX9_next ⟨Nat.le_of_ble_eq_true rfl, Nat.le_of_ble_eq_true rfl⟩ rfl hl.1 rfl (Nat.le_of_ble_eq_true rfl) dX1_takeNumbered_42 ⟨Nat.le_of_ble_eq_true rfl, Nat.le_of_ble_eq_true rfl⟩) hP hD hK hS hA (fun u19 H locs w20 hP hD hK hS => ?_)
      obtain ⟨V21, L22⟩ := u19
      obtain ⟨hMV21, ajV21, axL22⟩ := w20
      have alL22 : agL [6, 44] L L22 := agL.tr alL13 axL22 (by decide)
      have hP : va_P D vwCl (xw ad kk V21 L22 Z) H := hP
      have hD : va_D A (xw ad kk V21 L22 Z) := hD
      have hMV21 : rgd bX V21 := hMV21
      have ajV21 : agr [(6, 8), (6, 9), (6, 10)] [] V14 V21 := ajV21
      have agV21 : agr [(1, 3), (1, 6), (6, 8), (6, 9), (6, 10)] [43, 44] V V21 := agV14.tr ajV21 (by decide) (by decide)
      have fwV21 : frX (xN gn) V V21 := frX.tr fwV14 (frX.ag ajV21 (by decide) (by decide))
      refine lv_iconst (v := 1) hx hb dX1_takeNumbered_45 (by decide) ?_
      have pq23 : (V21 1 6).toInt = z6.toInt := congrArg Int32.toInt ((ajV21 1 6 rfl).trans (up2_s hV14))
      have pq24 : (V21 1 3).toInt = ((V 1 3)).toInt := congrArg Int32.toInt ((ajV21 1 3 rfl).trans ((up2_k hV14 (by decide)).trans (ajV12 1 3 rfl)))
      have rp25 : ∀ n : Nat, ¬ n = gn → V21 43 n = V 43 n := fun n hn => ((ajV21 43 n rfl).trans ((up2_o hV14 (by decide)).trans ((t11 n hn).trans rfl)))
      exact W.zret (v := 1) hx hb hr rfl (fun t ht hW => ⟨⟨1, (V21, L22), rfl, ⟨hMV21, agV21, alL22, fwV21, (by decide), (Imp.mk (fun _ => (show 0 ≤ (V21 1 6).toInt ∧ (V21 1 6).toInt < ((xcap gn : Nat) : Int) from by first | exact om_78cee17fc076 rgz6.1 t9 sz1 f17 pq23 | first | omega | ((try (have i_t10 := Imp.go t10 (by omega))); omega)))), rp25, (Imp.mk (fun hp => absurd hp (by decide)))⟩, by rw [ht]; exact hP, va_K.moved hW.alike hK, hD⟩, hS.F ht⟩) hS.2.2 dX1_takeNumbered_46
    · skip
      have f26 : z6.toInt = (-1) := b_eq rfl (by decide) c16
      refine lv_aload_n hx hb dX1_takeNumbered_32 rfl (lv_at hl 0 rfl) ?_
      refine lv_iconst (v := 5) hx hb dX1_takeNumbered_33 (by decide) ?_
      have r27 : Int32.toInt 5 = 5 := by decide
      refine gA_int (gA_runV (As := [.int 5]) (rest := []) (ci := 1) (q0 := 1) hx hb hml hown hg hP hD hK hS hA hnw hgk (x_wrong l D ks H.size ad kk V14 L13 Z 5 hMV14 (by decide)) w867 w869 w6 w162 w870 rfl xgReader hdV_yX1_wrong ⟨Nat.le_of_ble_eq_true rfl, Nat.le_of_ble_eq_true rfl⟩ rfl hl.1 rfl (Nat.le_of_ble_eq_true rfl) dX1_takeNumbered_34 ⟨Nat.le_of_ble_eq_true rfl, Nat.le_of_ble_eq_true rfl⟩) hP hD hK hS hA (fun z28 u29 H locs w30 hP hD hK hS => ?_)
      obtain ⟨V32, L33⟩ := u29
      obtain ⟨hMV32, ajV32, axL33, rgz28, t31⟩ := w30
      have axL33 : L13 = L33 := Eq.symm axL33
      subst axL33
      have hP : va_P D vwCl (xw ad kk V32 L13 Z) H := hP
      have hD : va_D A (xw ad kk V32 L13 Z) := hD
      have hMV32 : rgd bX V32 := hMV32
      have ajV32 : agr [(1, 3)] [] V14 V32 := ajV32
      have agV32 : agr [(1, 3), (1, 6), (6, 8), (6, 9), (6, 10)] [43, 44] V V32 := agV14.tr ajV32 (by decide) (by decide)
      have fwV32 : frX (xN gn) V V32 := frX.tr fwV14 (frX.ag ajV32 (by decide) (by decide))
      have rgz28 : 0 ≤ z28.toInt ∧ z28.toInt ≤ 0 := rgz28
      have t31 : 1 ≤ (V32 1 3).toInt := t31
      have pq34 : (V32 1 6).toInt = z6.toInt := congrArg Int32.toInt ((ajV32 1 6 rfl).trans (up2_s hV14))
      have rp35 : ∀ n : Nat, ¬ n = gn → V32 43 n = V 43 n := fun n hn => ((ajV32 43 n rfl).trans ((up2_o hV14 (by decide)).trans ((t11 n hn).trans rfl)))
      exact W.zret (v := z28) hx hb hr (nb_ok (by omega)) (fun t ht hW => ⟨⟨z28, (V32, L13), rfl, ⟨hMV32, agV32, alL13, fwV32, (show 0 ≤ z28.toInt ∧ z28.toInt ≤ 1 from by first | exact om_641b3f05f166 rgz28.1 rgz28.2 | first | omega | ((try (have i_t10 := Imp.go t10 (by omega))); omega)), (Imp.mk (fun hp => have hp : z28.toInt = 1 := hp; (show 0 ≤ (V32 1 6).toInt ∧ (V32 1 6).toInt < ((xcap gn : Nat) : Int) from by first | omega | ((try (have i_t10 := Imp.go t10 (by omega))); omega)))), rp35, (Imp.mk (fun hp => have hp : z28.toInt = 0 := hp; (show 1 ≤ (V32 1 3).toInt from by first | exact om_f8d8213eda45 t31 | first | omega | ((try (have i_t10 := Imp.go t10 (by omega))); omega))))⟩, by rw [ht]; exact hP, va_K.moved hW.alike hK, hD⟩, hS.F ht⟩) hS.2.2 dX1_takeNumbered_37
  · skip
    have f36 : p1.toInt ≠ (-1) := b_neq rfl (by decide) c3
    refine lv_iload_n hx hb dX1_takeNumbered_6 rfl (lv_at hl 2 rfl) ?_
    refine lv_goto (tgt := 21) hx hb dX1_takeNumbered_7 (by decide) ?_
    have sz1 : (V 43 gn).toInt ≤ ((xcap gn : Nat) : Int) := (hMV 43 gn).2
    refine va_put (D := D) (ci := 1) (v := .int p1) (ty := tyX1 6) (fs := (xfReader ad V L Z)) (C := RX1) (T := TX1) (N := 9) hx hb hg inX1 tyX1 tyX1_ok nmX1 hown hK hP hD hS 1 xgReader rfl 6 (by decide) (hg _ w310) (fun _ h9 => h9) rfl (tyX1_ok 6 (by decide)) rfl rfl (Nat.le_of_ble_eq_true rfl) dX1_takeNumbered_21 (fun H locs hP hD hS => ?_)
    obtain ⟨V37, hV37⟩ : ∃ z, z = up2 V 1 6 p1 := ⟨_, rfl⟩
    have ew38 : (xw ad kk V L Z).set 1 ((ad 1), .inr (1, (xfReader ad V L Z).set 6 (.int p1))) = xw ad kk V37 L Z := by rw [hV37]; exact xw_ss (by decide) rfl (xb_si (by decide))
    have hP : va_P D vwCl (xw ad kk V37 L Z) H := by rw [← ew38]; exact hP
    have hD : va_D A (xw ad kk V37 L Z) := by rw [← ew38]; exact hD
    have hMV37 : rgd bX V37 := hMV.put hV37 (show (-1) ≤ p1.toInt ∧ p1.toInt ≤ 23 from by (first | exact om_c82aee070780 rg_p1.1 rg_p1.2 f36 | omega))
    have agV37 : agr [(1, 3), (1, 6), (6, 8), (6, 9), (6, 10)] [43, 44] V V37 := agV.up hV37 rfl
    have fwV37 : frX (xN gn) V V37 := frX.up fwV hV37 (Or.inl (by decide))
    refine lv_aload_n hx hb dX1_takeNumbered_24 rfl (lv_at hl 0 rfl) ?_
    refine va_get (D := D) (ci := 1) (v := .int (V37 1 6)) (fs := (xfReader ad V37 L Z)) (C := RX1) (T := TX1) (N := 9) hx hb hg inX1 hown hK hP 1 xgReader rfl 6 (by decide) (hg _ w310) (fun _ h9 => h9) rfl dX1_takeNumbered_25 ?_
    refine g_top (v := p1) (up2_s hV37) ?_
    refine lv_iconst (v := (-1)) hx hb dX1_takeNumbered_28 (by decide) ?_
    refine lv_icmp_ne (tgt := 38) hx hb dX1_takeNumbered_29 (by decide) (fun c39 => ?_) (fun c39 => ?_)
    · skip
      have f40 : p1.toInt ≠ (-1) := b_neq rfl (by decide) c39
      refine lv_aload_n hx hb dX1_takeNumbered_38 rfl (lv_at hl 0 rfl) ?_
      refine va_get (D := D) (ci := 1) (v := .ref (ad 6)) (fs := (xfReader ad V37 L Z)) (C := RX1) (T := TX1) (N := 9) hx hb hg inX1 hown hK hP 1 xgReader rfl 0 (by decide) (hg _ w304) (fun _ h9 => h9) rfl dX1_takeNumbered_39 ?_
      refine gA_void (gA_runV (As := []) (rest := []) (ci := 9) (q0 := 6) hx hb hml hown hg hP hD hK hS hA hnw hgk (x_next l D ks H.size ad kk V37 L Z  hMV37 ) w871 w852 w853 w157 w854 rfl xgTape hdV_yX9_next ⟨Nat.le_of_ble_eq_true rfl, Nat.le_of_ble_eq_true rfl⟩ rfl hl.1 rfl (Nat.le_of_ble_eq_true rfl) dX1_takeNumbered_42 ⟨Nat.le_of_ble_eq_true rfl, Nat.le_of_ble_eq_true rfl⟩) hP hD hK hS hA (fun u42 H locs w43 hP hD hK hS => ?_)
      obtain ⟨V44, L45⟩ := u42
      obtain ⟨hMV44, ajV44, axL45⟩ := w43
      have alL45 : agL [6, 44] L L45 := agL.tr alL axL45 (by decide)
      have hP : va_P D vwCl (xw ad kk V44 L45 Z) H := hP
      have hD : va_D A (xw ad kk V44 L45 Z) := hD
      have hMV44 : rgd bX V44 := hMV44
      have ajV44 : agr [(6, 8), (6, 9), (6, 10)] [] V37 V44 := ajV44
      have agV44 : agr [(1, 3), (1, 6), (6, 8), (6, 9), (6, 10)] [43, 44] V V44 := agV37.tr ajV44 (by decide) (by decide)
      have fwV44 : frX (xN gn) V V44 := frX.tr fwV37 (frX.ag ajV44 (by decide) (by decide))
      refine lv_iconst (v := 1) hx hb dX1_takeNumbered_45 (by decide) ?_
      have pq46 : (V44 1 6).toInt = p1.toInt := congrArg Int32.toInt ((ajV44 1 6 rfl).trans (up2_s hV37))
      have pq47 : (V44 1 3).toInt = ((V 1 3)).toInt := congrArg Int32.toInt ((ajV44 1 3 rfl).trans (up2_k hV37 (by decide)))
      have rp48 : ∀ n : Nat, ¬ n = gn → V44 43 n = V 43 n := fun n hn => ((ajV44 43 n rfl).trans ((up2_o hV37 (by decide)).trans rfl))
      exact W.zret (v := 1) hx hb hr rfl (fun t ht hW => ⟨⟨1, (V44, L45), rfl, ⟨hMV44, agV44, alL45, fwV44, (by decide), (Imp.mk (fun _ => (show 0 ≤ (V44 1 6).toInt ∧ (V44 1 6).toInt < ((xcap gn : Nat) : Int) from by (first | exact om_39f98b553f9c rg_p1.1 y1 f36 sz1 pq46 | omega)))), rp48, (Imp.mk (fun hp => absurd hp (by decide)))⟩, by rw [ht]; exact hP, va_K.moved hW.alike hK, hD⟩, hS.F ht⟩) hS.2.2 dX1_takeNumbered_46
    · skip
      have f49 : p1.toInt = (-1) := b_eq rfl (by decide) c39
      exfalso; (first | exact om_9038406c8093 rg_p1.1 f36 f49 | omega)
abbrev r_x_takeMethodN : Room := { frames := 2, cells := 0, slots := 0, locals := 44 }
abbrev q_x_takeMethodN (D : va_G) (ks : KS) (ad : Nat → Nat) (kk : Nat → ClassId) (V : Vf) (L : Lf) (Z : XZ) (b : Nat) (A : Nat → Prop) : Array Value → State → Outcome → State → Prop := va_Qi (fun (r : Int32) (u : Vf × Lf) => rgd bX u.1 ∧ agr [(1, 3), (1, 6), (6, 8), (6, 9), (6, 10)] [43, 44] V u.1 ∧ agL [6, 44] L u.2 ∧ frX (xR b) V u.1 ∧ (0 ≤ r.toInt ∧ r.toInt ≤ 1) ∧ (Imp (r.toInt = 1) (0 ≤ (u.1 1 6).toInt ∧ (u.1 1 6).toInt ≤ 19)) ∧ (px V u.1 b) ∧ (Imp (r.toInt = 0) (1 ≤ (u.1 1 3).toInt))) (fun u t => gq D A (xw ad kk u.1 u.2 Z) (xty kk Z) t) A
set_option maxHeartbeats 4000000 in
set_option maxRecDepth 100000 in
theorem x_takeMethodN (l : Launch) (D : va_G) (ks : KS) (sz : Nat) (ad : Nat → Nat) (kk : Nat → ClassId) (V : Vf) (L : Lf) (Z : XZ) (b : Nat) (hMV : rgd bX V) (hb2 : b < 2) (rbk : (V 1 1).toInt = (b : Int))  : Met l yX1_takeMethod (Cond.code yX1_takeMethod cX1_takeMethod 3 (some .boolean) :: GW) r_x_takeMethodN (va_Pc [.ref (ad 1), .null] (gp D ks (xw ad kk V L Z) (xty kk Z) sz)) (q_x_takeMethodN D ks ad kk V L Z  b (va_A (xw ad kk V L Z) sz)) 0 0 (va_A (xw ad kk V L Z) sz) := by
  refine g_met (q_x_takeMethodN D ks ad kk V L Z  b) (by decide) (Nat.le_of_ble_eq_true rfl) ?_
  intro p e s m below meth c A ls H locs hx hb hr hml hown hg hlocks hin hnw hgk hP hK hD hS hA hl
  have hown : s.vm.findClass RX1 = some m.cls := hown
  have hl : lv_has ls 3 [(0, .ref (ad 1)), (1, .null)] := hl
  have hP : va_P D vwCl (xw ad kk V L Z) H := hP
  have hD : va_D A (xw ad kk V L Z) := hD
  have hK : va_K D vwCl (xty kk Z) s := hK
  have agV : agr [(1, 3), (1, 6), (6, 8), (6, 9), (6, 10)] [43, 44] V V := agr.rf
  have alL : agL [6, 44] L L := agL.rf
  have fwV : frX (xR b) V V := frX.rf
  have r1 : (-1) ≤ ((V 1 1)).toInt ∧ ((V 1 1)).toInt ≤ 1 := hMV 1 1
  refine lv_aload_n hx hb dX1_takeMethod_0 rfl (lv_at hl 0 rfl) ?_
  refine va_get (D := D) (ci := 1) (v := .ref (ad 6)) (fs := (xfReader ad V L Z)) (C := RX1) (T := TX1) (N := 9) hx hb hg inX1 hown hK hP 1 xgReader rfl 0 (by decide) (hg _ w304) (fun _ h9 => h9) rfl dX1_takeMethod_1 ?_
  refine va_getN (D := D) (ci := 9) (v := .int (V 6 9)) (fs := (xfTape ad V L Z)) (C := RX9) (T := TX9) (N := 12) hx hb hg inX9 hown hK hP 6 xgTape rfl 9 (by decide) (hnw.use 262 n262 rfl) (fun _ h9 => h9) rfl dX1_takeMethod_4 ?_
  refine lv_iconst (v := 3) hx hb dX1_takeMethod_7 (by decide) ?_
  refine lv_icmp_eq (tgt := 17) hx hb dX1_takeMethod_8 (by decide) (fun c2 => ?_) (fun c2 => ?_)
  · skip
    have f3 : ((V 6 9)).toInt = 3 := b_eq rfl (by decide) c2
    refine lv_aload_n hx hb dX1_takeMethod_17 rfl (lv_at hl 0 rfl) ?_
    refine va_get (D := D) (ci := 1) (v := rfN ad 38 (V 1 1)) (fs := (xfReader ad V L Z)) (C := RX1) (T := TX1) (N := 9) hx hb hg inX1 hown hK hP 1 xgReader rfl 1 (by decide) (hg _ w305) (fun _ h9 => h9) rfl dX1_takeMethod_18 ?_
    refine g_topv (v := .ref (ad (38 + b))) (rfN_r (by omega)) ?_
    refine va_getN (D := D) (ci := 0) (v := .ref (ad (40 + (5 * b + 3)))) (fs := (xfBook ad V b)) (C := RX0) (T := TX0) (N := 13) hx hb hg inX0 hown hK hP (38 + b) (xgBook hb2) rfl 3 (by decide) (hnw.use 605 n605 rfl) (fun _ h9 => h9) rfl dX1_takeMethod_21 ?_
    refine lv_aload_n hx hb dX1_takeMethod_24 rfl (lv_at hl 0 rfl) ?_
    refine va_get (D := D) (ci := 1) (v := .ref (ad 6)) (fs := (xfReader ad V L Z)) (C := RX1) (T := TX1) (N := 9) hx hb hg inX1 hown hK hP 1 xgReader rfl 0 (by decide) (hg _ w304) (fun _ h9 => h9) rfl dX1_takeMethod_25 ?_
    refine va_getN (D := D) (ci := 9) (v := .long (L 6 11)) (fs := (xfTape ad V L Z)) (C := RX9) (T := TX9) (N := 12) hx hb hg inX9 hown hK hP 6 xgTape rfl 11 (by decide) (hnw.use 269 n269 rfl) (fun _ h9 => h9) rfl dX1_takeMethod_28 ?_
    refine lv_topl (fun w4 ew4 => ?_)
    have il5 : (5 * b + 3) < 10 := by (first | exact om_a4f98a710256 hb2 | omega)
    refine gA_int (gA_runV (As := [.long w4]) (rest := []) (ci := 6) (q0 := (40 + (5 * b + 3))) hx hb hml hown hg hP hD hK hS hA hnw hgk (x_find l D ks H.size ad kk V L Z w4 ((5 * b + 3)) hMV (show (5 * b + 3) < 10 from by (first | exact om_a4f98a710256 hb2 | omega))) w892 w881 w882 w168 w883 rfl (xgNames il5) hdV_yX6_find ⟨Nat.le_of_ble_eq_true rfl, Nat.le_of_ble_eq_true rfl⟩ rfl hl.1 rfl (Nat.le_of_ble_eq_true rfl) dX1_takeMethod_31 ⟨Nat.le_of_ble_eq_true rfl, Nat.le_of_ble_eq_true rfl⟩) hP hD hK hS hA (fun z6 u7 H locs w8 hP hD hK hS => ?_)
    obtain ⟨rgz6, t9⟩ := w8
    have rgz6 : (-1) ≤ z6.toInt ∧ z6.toInt ≤ 23 := rgz6
    have t9 : z6.toInt < (V 43 (5 * b + 3)).toInt := t9
    refine lv_istore_n (lv' := [(2, .int z6), (0, .ref (ad 1)), (1, .null)]) hx hb dX1_takeMethod_34 rfl hl (by decide) rfl (fun ls hl => ?_)
    have r10 : xcap (5 * b + 3) = 20 := xcap_3
    refine lv_iload_n hx hb dX1_takeMethod_35 rfl (lv_at hl 0 rfl) ?_
    refine lv_iconst (v := (-1)) hx hb dX1_takeMethod_36 (by decide) ?_
    refine lv_icmp_eq (tgt := 60) hx hb dX1_takeMethod_37 (by decide) (fun c11 => ?_) (fun c11 => ?_)
    · skip
      have f12 : z6.toInt = (-1) := b_eq rfl (by decide) c11
      refine lv_aload_n hx hb dX1_takeMethod_60 rfl (lv_at hl 1 rfl) ?_
      refine lv_aload_n hx hb dX1_takeMethod_61 rfl (lv_at hl 1 rfl) ?_
      refine va_get (D := D) (ci := 1) (v := rfN ad 38 (V 1 1)) (fs := (xfReader ad V L Z)) (C := RX1) (T := TX1) (N := 9) hx hb hg inX1 hown hK hP 1 xgReader rfl 1 (by decide) (hg _ w305) (fun _ h9 => h9) rfl dX1_takeMethod_62 ?_
      refine g_topv (v := .ref (ad (38 + b))) (rfN_r (by omega)) ?_
      refine va_getN (D := D) (ci := 0) (v := .ref (ad (40 + (5 * b + 3)))) (fs := (xfBook ad V b)) (C := RX0) (T := TX0) (N := 13) hx hb hg inX0 hown hK hP (38 + b) (xgBook hb2) rfl 3 (by decide) (hnw.use 605 n605 rfl) (fun _ h9 => h9) rfl dX1_takeMethod_65 ?_
      refine lv_iload_n hx hb dX1_takeMethod_68 rfl (lv_at hl 0 rfl) ?_
      have r13 : 0 ≤ ((V 43 (5 * b + 3))).toInt ∧ ((V 43 (5 * b + 3))).toInt ≤ ((xcap (5 * b + 3) : Nat) : Int) := hMV 43 (5 * b + 3)
      refine gA_int (gA_runV (As := [.ref (ad (40 + (5 * b + 3))), .int z6]) (rest := []) (ci := 1) (q0 := 1) hx hb hml hown hg hP hD hK hS hA hnw hgk (x_takeNumbered l D ks H.size ad kk V L Z z6 ((5 * b + 3)) hMV (by (first | exact om_4802cfc9c446 rgz6.1 f12 | omega)) (show (5 * b + 3) < 10 from by (first | exact om_a4f98a710256 hb2 | omega)) (show z6.toInt < (V 43 (5 * b + 3)).toInt from by (first | exact om_3e9fea077503 f12 r13.1 | omega))) w927 w929 w16 w162 w930 rfl xgReader hdV_yX1_takeNumbered ⟨Nat.le_of_ble_eq_true rfl, Nat.le_of_ble_eq_true rfl⟩ rfl hl.1 rfl (Nat.le_of_ble_eq_true rfl) dX1_takeMethod_69 ⟨Nat.le_of_ble_eq_true rfl, Nat.le_of_ble_eq_true rfl⟩) hP hD hK hS hA (fun z14 u15 H locs w16 hP hD hK hS => ?_)
      obtain ⟨V20, L21⟩ := u15
      obtain ⟨hMV20, ajV20, axL21, fyV20, rgz14, t17, t18, t19⟩ := w16
      have alL21 : agL [6, 44] L L21 := agL.tr alL axL21 (by decide)
      have hP : va_P D vwCl (xw ad kk V20 L21 Z) H := hP
      have hD : va_D A (xw ad kk V20 L21 Z) := hD
      have hMV20 : rgd bX V20 := hMV20
      have ajV20 : agr [(1, 3), (1, 6), (6, 8), (6, 9), (6, 10)] [43, 44] V V20 := ajV20
      have agV20 : agr [(1, 3), (1, 6), (6, 8), (6, 9), (6, 10)] [43, 44] V V20 := agV.tr ajV20 (by decide) (by decide)
      have fwV20 : frX (xR b) V V20 := frX.tr fwV (frX_NB fyV20 (by omega) (by omega))
      have rgz14 : 0 ≤ z14.toInt ∧ z14.toInt ≤ 1 := rgz14
      have t17 : Imp (z14.toInt = 1) (0 ≤ (V20 1 6).toInt ∧ (V20 1 6).toInt < ((xcap (5 * b + 3) : Nat) : Int)) := t17
      have t18 : (∀ n : Nat, ¬ n = (5 * b + 3) → V20 43 n = V 43 n) := t18
      have t19 : Imp (z14.toInt = 0) (1 ≤ (V20 1 3).toInt) := t19
      have r22 : (-1) ≤ ((V20 1 6)).toInt ∧ ((V20 1 6)).toInt ≤ 23 := hMV20 1 6
      have px23 : px V V20 b := px.tr (px.rf : px V V b) ⟨p0x.ag ajV20 (fun _ => rfl) (fun _ => rfl), t18 _ (by omega)⟩
      exact W.zret (v := z14) hx hb hr (nb_ok (by omega)) (fun t ht hW => ⟨⟨z14, (V20, L21), rfl, ⟨hMV20, agV20, alL21, fwV20, (show 0 ≤ z14.toInt ∧ z14.toInt ≤ 1 from by first | exact om_eb7af9d60398 rgz14.1 rgz14.2 | first | omega | ((try (have i_t19 := Imp.go t19 (by omega))); (try (have i_t17 := Imp.go t17 (by omega))); (try (have i_t17 := Imp.go t17 (by omega))); (try (have i_t19 := Imp.go t19 (by omega))); omega)), (Imp.mk (fun hp => have hp : z14.toInt = 1 := hp; (show 0 ≤ (V20 1 6).toInt ∧ (V20 1 6).toInt ≤ 19 from by first | exact om_a812228bf983 r10 ((Imp.go t17 (hp)).1) ((Imp.go t17 (hp)).2) | first | omega | ((try (have i_t19 := Imp.go t19 (by omega))); (try (have i_t17 := Imp.go t17 (by omega))); (try (have i_t17 := Imp.go t17 (by omega))); (try (have i_t19 := Imp.go t19 (by omega))); omega)))), px23, (Imp.mk (fun hp => have hp : z14.toInt = 0 := hp; (show 1 ≤ (V20 1 3).toInt from by first | exact om_f8d8213eda45 ((Imp.go t19 (hp))) | first | omega | ((try (have i_t19 := Imp.go t19 (by omega))); (try (have i_t17 := Imp.go t17 (by omega))); (try (have i_t17 := Imp.go t17 (by omega))); (try (have i_t19 := Imp.go t19 (by omega))); omega))))⟩, by rw [ht]; exact hP, va_K.moved hW.alike hK, hD⟩, hS.F ht⟩) hS.2.2 dX1_takeMethod_72
    · skip
      have f24 : z6.toInt ≠ (-1) := b_neq rfl (by decide) c11
      refine lv_aload_nN hx hb dX1_takeMethod_40 rfl (lv_at hl 2 rfl) ?_
      refine lv_ifnullN (tgt := 60) hx hb dX1_takeMethod_41 (by decide) ?_
      refine lv_aload_n hx hb dX1_takeMethod_60 rfl (lv_at hl 1 rfl) ?_
      refine lv_aload_n hx hb dX1_takeMethod_61 rfl (lv_at hl 1 rfl) ?_
      refine va_get (D := D) (ci := 1) (v := rfN ad 38 (V 1 1)) (fs := (xfReader ad V L Z)) (C := RX1) (T := TX1) (N := 9) hx hb hg inX1 hown hK hP 1 xgReader rfl 1 (by decide) (hg _ w305) (fun _ h9 => h9) rfl dX1_takeMethod_62 ?_
      refine g_topv (v := .ref (ad (38 + b))) (rfN_r (by omega)) ?_
      refine va_getN (D := D) (ci := 0) (v := .ref (ad (40 + (5 * b + 3)))) (fs := (xfBook ad V b)) (C := RX0) (T := TX0) (N := 13) hx hb hg inX0 hown hK hP (38 + b) (xgBook hb2) rfl 3 (by decide) (hnw.use 605 n605 rfl) (fun _ h9 => h9) rfl dX1_takeMethod_65 ?_
      refine lv_iload_n hx hb dX1_takeMethod_68 rfl (lv_at hl 0 rfl) ?_
      have r25 : 0 ≤ ((V 43 (5 * b + 3))).toInt ∧ ((V 43 (5 * b + 3))).toInt ≤ ((xcap (5 * b + 3) : Nat) : Int) := hMV 43 (5 * b + 3)
      refine gA_int (gA_runV (As := [.ref (ad (40 + (5 * b + 3))), .int z6]) (rest := []) (ci := 1) (q0 := 1) hx hb hml hown hg hP hD hK hS hA hnw hgk (x_takeNumbered l D ks H.size ad kk V L Z z6 ((5 * b + 3)) hMV (by (first | exact om_c7228678a303 rgz6.1 t9 r10 f24 r25.2 | omega)) (show (5 * b + 3) < 10 from by (first | exact om_a4f98a710256 hb2 | omega)) (show z6.toInt < (V 43 (5 * b + 3)).toInt from by (first | exact om_0e9116797efb t9 | omega))) w927 w929 w16 w162 w930 rfl xgReader hdV_yX1_takeNumbered ⟨Nat.le_of_ble_eq_true rfl, Nat.le_of_ble_eq_true rfl⟩ rfl hl.1 rfl (Nat.le_of_ble_eq_true rfl) dX1_takeMethod_69 ⟨Nat.le_of_ble_eq_true rfl, Nat.le_of_ble_eq_true rfl⟩) hP hD hK hS hA (fun z26 u27 H locs w28 hP hD hK hS => ?_)
      obtain ⟨V32, L33⟩ := u27
      obtain ⟨hMV32, ajV32, axL33, fyV32, rgz26, t29, t30, t31⟩ := w28
      have alL33 : agL [6, 44] L L33 := agL.tr alL axL33 (by decide)
      have hP : va_P D vwCl (xw ad kk V32 L33 Z) H := hP
      have hD : va_D A (xw ad kk V32 L33 Z) := hD
      have hMV32 : rgd bX V32 := hMV32
      have ajV32 : agr [(1, 3), (1, 6), (6, 8), (6, 9), (6, 10)] [43, 44] V V32 := ajV32
      have agV32 : agr [(1, 3), (1, 6), (6, 8), (6, 9), (6, 10)] [43, 44] V V32 := agV.tr ajV32 (by decide) (by decide)
      have fwV32 : frX (xR b) V V32 := frX.tr fwV (frX_NB fyV32 (by omega) (by omega))
      have rgz26 : 0 ≤ z26.toInt ∧ z26.toInt ≤ 1 := rgz26
      have t29 : Imp (z26.toInt = 1) (0 ≤ (V32 1 6).toInt ∧ (V32 1 6).toInt < ((xcap (5 * b + 3) : Nat) : Int)) := t29
      have t30 : (∀ n : Nat, ¬ n = (5 * b + 3) → V32 43 n = V 43 n) := t30
      have t31 : Imp (z26.toInt = 0) (1 ≤ (V32 1 3).toInt) := t31
      have r34 : (-1) ≤ ((V32 1 6)).toInt ∧ ((V32 1 6)).toInt ≤ 23 := hMV32 1 6
      have px35 : px V V32 b := px.tr (px.rf : px V V b) ⟨p0x.ag ajV32 (fun _ => rfl) (fun _ => rfl), t30 _ (by omega)⟩
      exact W.zret (v := z26) hx hb hr (nb_ok (by omega)) (fun t ht hW => ⟨⟨z26, (V32, L33), rfl, ⟨hMV32, agV32, alL33, fwV32, (show 0 ≤ z26.toInt ∧ z26.toInt ≤ 1 from by first | exact om_eb7af9d60398 rgz26.1 rgz26.2 | first | omega | ((try (have i_t31 := Imp.go t31 (by omega))); (try (have i_t29 := Imp.go t29 (by omega))); (try (have i_t29 := Imp.go t29 (by omega))); (try (have i_t31 := Imp.go t31 (by omega))); omega)), (Imp.mk (fun hp => have hp : z26.toInt = 1 := hp; (show 0 ≤ (V32 1 6).toInt ∧ (V32 1 6).toInt ≤ 19 from by first | exact om_a812228bf983 r10 ((Imp.go t29 (hp)).1) ((Imp.go t29 (hp)).2) | first | omega | ((try (have i_t31 := Imp.go t31 (by omega))); (try (have i_t29 := Imp.go t29 (by omega))); (try (have i_t29 := Imp.go t29 (by omega))); (try (have i_t31 := Imp.go t31 (by omega))); omega)))), px35, (Imp.mk (fun hp => have hp : z26.toInt = 0 := hp; (show 1 ≤ (V32 1 3).toInt from by first | exact om_f8d8213eda45 ((Imp.go t31 (hp))) | first | omega | ((try (have i_t31 := Imp.go t31 (by omega))); (try (have i_t29 := Imp.go t29 (by omega))); (try (have i_t29 := Imp.go t29 (by omega))); (try (have i_t31 := Imp.go t31 (by omega))); omega))))⟩, by rw [ht]; exact hP, va_K.moved hW.alike hK, hD⟩, hS.F ht⟩) hS.2.2 dX1_takeMethod_72
  · skip
    have f36 : ((V 6 9)).toInt ≠ 3 := b_neq rfl (by decide) c2
    refine lv_aload_n hx hb dX1_takeMethod_11 rfl (lv_at hl 0 rfl) ?_
    refine lv_iconst (v := 1) hx hb dX1_takeMethod_12 (by decide) ?_
    have r37 : Int32.toInt 1 = 1 := by decide
    refine gA_int (gA_runV (As := [.int 1]) (rest := []) (ci := 1) (q0 := 1) hx hb hml hown hg hP hD hK hS hA hnw hgk (x_wrong l D ks H.size ad kk V L Z 1 hMV (by decide)) w867 w869 w6 w162 w870 rfl xgReader hdV_yX1_wrong ⟨Nat.le_of_ble_eq_true rfl, Nat.le_of_ble_eq_true rfl⟩ rfl hl.1 rfl (Nat.le_of_ble_eq_true rfl) dX1_takeMethod_13 ⟨Nat.le_of_ble_eq_true rfl, Nat.le_of_ble_eq_true rfl⟩) hP hD hK hS hA (fun z38 u39 H locs w40 hP hD hK hS => ?_)
    obtain ⟨V42, L43⟩ := u39
    obtain ⟨hMV42, ajV42, axL43, rgz38, t41⟩ := w40
    have axL43 : L = L43 := Eq.symm axL43
    subst axL43
    have hP : va_P D vwCl (xw ad kk V42 L Z) H := hP
    have hD : va_D A (xw ad kk V42 L Z) := hD
    have hMV42 : rgd bX V42 := hMV42
    have ajV42 : agr [(1, 3)] [] V V42 := ajV42
    have agV42 : agr [(1, 3), (1, 6), (6, 8), (6, 9), (6, 10)] [43, 44] V V42 := agV.tr ajV42 (by decide) (by decide)
    have fwV42 : frX (xR b) V V42 := frX.tr fwV (frX.ag ajV42 (by decide) (by decide))
    have rgz38 : 0 ≤ z38.toInt ∧ z38.toInt ≤ 0 := rgz38
    have t41 : 1 ≤ (V42 1 3).toInt := t41
    have pq44 : (V42 1 6).toInt = ((V 1 6)).toInt := congrArg Int32.toInt (ajV42 1 6 rfl)
    have r45 : (-1) ≤ ((V 1 6)).toInt ∧ ((V 1 6)).toInt ≤ 23 := hMV 1 6
    have px46 : px V V42 b := px.tr (px.rf : px V V b) (px.ag (show agr [(1, 3)] [] V V42 from (agr.tr agr.rf ajV42 (by decide) (by decide))) (fun _ => rfl) (fun _ => rfl) (fun _ => rfl))
    exact W.zret (v := z38) hx hb hr (nb_ok (by omega)) (fun t ht hW => ⟨⟨z38, (V42, L), rfl, ⟨hMV42, agV42, alL, fwV42, (show 0 ≤ z38.toInt ∧ z38.toInt ≤ 1 from by (first | exact om_641b3f05f166 rgz38.1 rgz38.2 | omega)), (Imp.mk (fun hp => have hp : z38.toInt = 1 := hp; (show 0 ≤ (V42 1 6).toInt ∧ (V42 1 6).toInt ≤ 19 from by omega))), px46, (Imp.mk (fun hp => have hp : z38.toInt = 0 := hp; (show 1 ≤ (V42 1 3).toInt from by (first | exact om_f8d8213eda45 t41 | omega))))⟩, by rw [ht]; exact hP, va_K.moved hW.alike hK, hD⟩, hS.F ht⟩) hS.2.2 dX1_takeMethod_16
abbrev r_x_takeMethodO : Room := { frames := 2, cells := 0, slots := 0, locals := 44 }
abbrev q_x_takeMethodO (D : va_G) (ks : KS) (ad : Nat → Nat) (kk : Nat → ClassId) (V : Vf) (L : Lf) (Z : XZ) (b : Nat) (gi : Nat) (A : Nat → Prop) : Array Value → State → Outcome → State → Prop := va_Qi (fun (r : Int32) (u : Vf × Lf) => rgd bX u.1 ∧ agr [(1, 3), (1, 6), (6, 8), (6, 9), (6, 10)] [43, 44] V u.1 ∧ agL [6, 44] L u.2 ∧ frX (xR b) V u.1 ∧ (0 ≤ r.toInt ∧ r.toInt ≤ 1) ∧ (Imp (r.toInt = 1) (0 ≤ (u.1 1 6).toInt ∧ (u.1 1 6).toInt ≤ 19)) ∧ (px V u.1 b) ∧ (Imp (r.toInt = 0) (1 ≤ (u.1 1 3).toInt))) (fun u t => gq D A (xw ad kk u.1 u.2 Z) (xty kk Z) t) A
set_option maxHeartbeats 4000000 in
set_option maxRecDepth 100000 in
theorem x_takeMethodO (l : Launch) (D : va_G) (ks : KS) (sz : Nat) (ad : Nat → Nat) (kk : Nat → ClassId) (V : Vf) (L : Lf) (Z : XZ) (b : Nat) (gi : Nat) (hMV : rgd bX V) (hb2 : b < 2) (rbk : (V 1 1).toInt = (b : Int)) (hgi : gi < 48)  : Met l yX1_takeMethod (Cond.code yX1_takeMethod cX1_takeMethod 3 (some .boolean) :: GW) r_x_takeMethodO (va_Pc [.ref (ad 1), .ref (ad (72 + gi))] (gp D ks (xw ad kk V L Z) (xty kk Z) sz)) (q_x_takeMethodO D ks ad kk V L Z  b gi (va_A (xw ad kk V L Z) sz)) 0 0 (va_A (xw ad kk V L Z) sz) := by
  refine g_met (q_x_takeMethodO D ks ad kk V L Z  b gi) (by decide) (Nat.le_of_ble_eq_true rfl) ?_
  intro p e s m below meth c A ls H locs hx hb hr hml hown hg hlocks hin hnw hgk hP hK hD hS hA hl
  have hown : s.vm.findClass RX1 = some m.cls := hown
  have hl : lv_has ls 3 [(0, .ref (ad 1)), (1, .ref (ad (72 + gi)))] := hl
  have hP : va_P D vwCl (xw ad kk V L Z) H := hP
  have hD : va_D A (xw ad kk V L Z) := hD
  have hK : va_K D vwCl (xty kk Z) s := hK
  have agV : agr [(1, 3), (1, 6), (6, 8), (6, 9), (6, 10)] [43, 44] V V := agr.rf
  have alL : agL [6, 44] L L := agL.rf
  have fwV : frX (xR b) V V := frX.rf
  have r1 : (-1) ≤ ((V 1 1)).toInt ∧ ((V 1 1)).toInt ≤ 1 := hMV 1 1
  refine lv_aload_n hx hb dX1_takeMethod_0 rfl (lv_at hl 0 rfl) ?_
  refine va_get (D := D) (ci := 1) (v := .ref (ad 6)) (fs := (xfReader ad V L Z)) (C := RX1) (T := TX1) (N := 9) hx hb hg inX1 hown hK hP 1 xgReader rfl 0 (by decide) (hg _ w304) (fun _ h9 => h9) rfl dX1_takeMethod_1 ?_
  refine va_getN (D := D) (ci := 9) (v := .int (V 6 9)) (fs := (xfTape ad V L Z)) (C := RX9) (T := TX9) (N := 12) hx hb hg inX9 hown hK hP 6 xgTape rfl 9 (by decide) (hnw.use 262 n262 rfl) (fun _ h9 => h9) rfl dX1_takeMethod_4 ?_
  refine lv_iconst (v := 3) hx hb dX1_takeMethod_7 (by decide) ?_
  refine lv_icmp_eq (tgt := 17) hx hb dX1_takeMethod_8 (by decide) (fun c2 => ?_) (fun c2 => ?_)
  · skip
    have f3 : ((V 6 9)).toInt = 3 := b_eq rfl (by decide) c2
    refine lv_aload_n hx hb dX1_takeMethod_17 rfl (lv_at hl 0 rfl) ?_
    refine va_get (D := D) (ci := 1) (v := rfN ad 38 (V 1 1)) (fs := (xfReader ad V L Z)) (C := RX1) (T := TX1) (N := 9) hx hb hg inX1 hown hK hP 1 xgReader rfl 1 (by decide) (hg _ w305) (fun _ h9 => h9) rfl dX1_takeMethod_18 ?_
    refine g_topv (v := .ref (ad (38 + b))) (rfN_r (by omega)) ?_
    refine va_getN (D := D) (ci := 0) (v := .ref (ad (40 + (5 * b + 3)))) (fs := (xfBook ad V b)) (C := RX0) (T := TX0) (N := 13) hx hb hg inX0 hown hK hP (38 + b) (xgBook hb2) rfl 3 (by decide) (hnw.use 605 n605 rfl) (fun _ h9 => h9) rfl dX1_takeMethod_21 ?_
    refine lv_aload_n hx hb dX1_takeMethod_24 rfl (lv_at hl 0 rfl) ?_
    refine va_get (D := D) (ci := 1) (v := .ref (ad 6)) (fs := (xfReader ad V L Z)) (C := RX1) (T := TX1) (N := 9) hx hb hg inX1 hown hK hP 1 xgReader rfl 0 (by decide) (hg _ w304) (fun _ h9 => h9) rfl dX1_takeMethod_25 ?_
    refine va_getN (D := D) (ci := 9) (v := .long (L 6 11)) (fs := (xfTape ad V L Z)) (C := RX9) (T := TX9) (N := 12) hx hb hg inX9 hown hK hP 6 xgTape rfl 11 (by decide) (hnw.use 269 n269 rfl) (fun _ h9 => h9) rfl dX1_takeMethod_28 ?_
    refine lv_topl (fun w4 ew4 => ?_)
    have il5 : (5 * b + 3) < 10 := by (first | exact om_a4f98a710256 hb2 | omega)
    refine gA_int (gA_runV (As := [.long w4]) (rest := []) (ci := 6) (q0 := (40 + (5 * b + 3))) hx hb hml hown hg hP hD hK hS hA hnw hgk (x_find l D ks H.size ad kk V L Z w4 ((5 * b + 3)) hMV (show (5 * b + 3) < 10 from by (first | exact om_a4f98a710256 hb2 | omega))) w892 w881 w882 w168 w883 rfl (xgNames il5) hdV_yX6_find ⟨Nat.le_of_ble_eq_true rfl, Nat.le_of_ble_eq_true rfl⟩ rfl hl.1 rfl (Nat.le_of_ble_eq_true rfl) dX1_takeMethod_31 ⟨Nat.le_of_ble_eq_true rfl, Nat.le_of_ble_eq_true rfl⟩) hP hD hK hS hA (fun z6 u7 H locs w8 hP hD hK hS => ?_)
    obtain ⟨rgz6, t9⟩ := w8
    have rgz6 : (-1) ≤ z6.toInt ∧ z6.toInt ≤ 23 := rgz6
    have t9 : z6.toInt < (V 43 (5 * b + 3)).toInt := t9
    have r10 : 0 ≤ ((V 43 (5 * b + 3))).toInt ∧ ((V 43 (5 * b + 3))).toInt ≤ ((xcap (5 * b + 3) : Nat) : Int) := hMV 43 (5 * b + 3)
    have r11 : xcap (5 * b + 3) = 20 := xcap_3
    refine lv_istore_n (lv' := [(2, .int z6), (0, .ref (ad 1)), (1, .ref (ad (72 + gi)))]) hx hb dX1_takeMethod_34 rfl hl (by decide) rfl (fun ls hl => ?_)
    refine lv_iload_n hx hb dX1_takeMethod_35 rfl (lv_at hl 0 rfl) ?_
    refine lv_iconst (v := (-1)) hx hb dX1_takeMethod_36 (by decide) ?_
    refine lv_icmp_eq (tgt := 60) hx hb dX1_takeMethod_37 (by decide) (fun c12 => ?_) (fun c12 => ?_)
    · skip
      have f13 : z6.toInt = (-1) := b_eq rfl (by decide) c12
      refine lv_aload_n hx hb dX1_takeMethod_60 rfl (lv_at hl 1 rfl) ?_
      refine lv_aload_n hx hb dX1_takeMethod_61 rfl (lv_at hl 1 rfl) ?_
      refine va_get (D := D) (ci := 1) (v := rfN ad 38 (V 1 1)) (fs := (xfReader ad V L Z)) (C := RX1) (T := TX1) (N := 9) hx hb hg inX1 hown hK hP 1 xgReader rfl 1 (by decide) (hg _ w305) (fun _ h9 => h9) rfl dX1_takeMethod_62 ?_
      refine g_topv (v := .ref (ad (38 + b))) (rfN_r (by omega)) ?_
      refine va_getN (D := D) (ci := 0) (v := .ref (ad (40 + (5 * b + 3)))) (fs := (xfBook ad V b)) (C := RX0) (T := TX0) (N := 13) hx hb hg inX0 hown hK hP (38 + b) (xgBook hb2) rfl 3 (by decide) (hnw.use 605 n605 rfl) (fun _ h9 => h9) rfl dX1_takeMethod_65 ?_
      refine lv_iload_n hx hb dX1_takeMethod_68 rfl (lv_at hl 0 rfl) ?_
      refine gA_int (gA_runV (As := [.ref (ad (40 + (5 * b + 3))), .int z6]) (rest := []) (ci := 1) (q0 := 1) hx hb hml hown hg hP hD hK hS hA hnw hgk (x_takeNumbered l D ks H.size ad kk V L Z z6 ((5 * b + 3)) hMV (by (first | exact om_4802cfc9c446 rgz6.1 f13 | omega)) (show (5 * b + 3) < 10 from by (first | exact om_a4f98a710256 hb2 | omega)) (show z6.toInt < (V 43 (5 * b + 3)).toInt from by (first | exact om_0520d8737a12 r10.1 f13 | omega))) w927 w929 w16 w162 w930 rfl xgReader hdV_yX1_takeNumbered ⟨Nat.le_of_ble_eq_true rfl, Nat.le_of_ble_eq_true rfl⟩ rfl hl.1 rfl (Nat.le_of_ble_eq_true rfl) dX1_takeMethod_69 ⟨Nat.le_of_ble_eq_true rfl, Nat.le_of_ble_eq_true rfl⟩) hP hD hK hS hA (fun z14 u15 H locs w16 hP hD hK hS => ?_)
      obtain ⟨V20, L21⟩ := u15
      obtain ⟨hMV20, ajV20, axL21, fyV20, rgz14, t17, t18, t19⟩ := w16
      have alL21 : agL [6, 44] L L21 := agL.tr alL axL21 (by decide)
      have hP : va_P D vwCl (xw ad kk V20 L21 Z) H := hP
      have hD : va_D A (xw ad kk V20 L21 Z) := hD
      have hMV20 : rgd bX V20 := hMV20
      have ajV20 : agr [(1, 3), (1, 6), (6, 8), (6, 9), (6, 10)] [43, 44] V V20 := ajV20
      have agV20 : agr [(1, 3), (1, 6), (6, 8), (6, 9), (6, 10)] [43, 44] V V20 := agV.tr ajV20 (by decide) (by decide)
      have fwV20 : frX (xR b) V V20 := frX.tr fwV (frX_NB fyV20 (by omega) (by omega))
      have rgz14 : 0 ≤ z14.toInt ∧ z14.toInt ≤ 1 := rgz14
      have t17 : Imp (z14.toInt = 1) (0 ≤ (V20 1 6).toInt ∧ (V20 1 6).toInt < ((xcap (5 * b + 3) : Nat) : Int)) := t17
      have t18 : (∀ n : Nat, ¬ n = (5 * b + 3) → V20 43 n = V 43 n) := t18
      have t19 : Imp (z14.toInt = 0) (1 ≤ (V20 1 3).toInt) := t19
      have r22 : (-1) ≤ ((V20 1 6)).toInt ∧ ((V20 1 6)).toInt ≤ 23 := hMV20 1 6
      have px23 : px V V20 b := px.tr (px.rf : px V V b) ⟨p0x.ag ajV20 (fun _ => rfl) (fun _ => rfl), t18 _ (by omega)⟩
      exact W.zret (v := z14) hx hb hr (nb_ok (by omega)) (fun t ht hW => ⟨⟨z14, (V20, L21), rfl, ⟨hMV20, agV20, alL21, fwV20, (show 0 ≤ z14.toInt ∧ z14.toInt ≤ 1 from by first | exact om_eb7af9d60398 rgz14.1 rgz14.2 | first | omega | ((try (have i_t19 := Imp.go t19 (by omega))); (try (have i_t17 := Imp.go t17 (by omega))); (try (have i_t17 := Imp.go t17 (by omega))); (try (have i_t19 := Imp.go t19 (by omega))); omega)), (Imp.mk (fun hp => have hp : z14.toInt = 1 := hp; (show 0 ≤ (V20 1 6).toInt ∧ (V20 1 6).toInt ≤ 19 from by first | exact om_a812228bf983 r11 ((Imp.go t17 (hp)).1) ((Imp.go t17 (hp)).2) | first | omega | ((try (have i_t19 := Imp.go t19 (by omega))); (try (have i_t17 := Imp.go t17 (by omega))); (try (have i_t17 := Imp.go t17 (by omega))); (try (have i_t19 := Imp.go t19 (by omega))); omega)))), px23, (Imp.mk (fun hp => have hp : z14.toInt = 0 := hp; (show 1 ≤ (V20 1 3).toInt from by first | exact om_f8d8213eda45 ((Imp.go t19 (hp))) | first | omega | ((try (have i_t19 := Imp.go t19 (by omega))); (try (have i_t17 := Imp.go t17 (by omega))); (try (have i_t17 := Imp.go t17 (by omega))); (try (have i_t19 := Imp.go t19 (by omega))); omega))))⟩, by rw [ht]; exact hP, va_K.moved hW.alike hK, hD⟩, hS.F ht⟩) hS.2.2 dX1_takeMethod_72
    · skip
      have f24 : z6.toInt ≠ (-1) := b_neq rfl (by decide) c12
      refine lv_aload_n hx hb dX1_takeMethod_40 rfl (lv_at hl 2 rfl) ?_
      refine lv_ifnull hx hb dX1_takeMethod_41 ?_
      refine lv_aload_n hx hb dX1_takeMethod_44 rfl (lv_at hl 2 rfl) ?_
      refine va_getN (D := D) (ci := 3) (v := .ref (ad (264 + gi))) (fs := (xfComp ad V gi)) (C := RX3) (T := TX3) (N := 13) hx hb hg inX3 hown hK hP (72 + gi) (xgComp hgi) rfl 3 (by decide) (hnw.use 508 n508 rfl) (fun _ h9 => h9) rfl dX1_takeMethod_45 ?_
      refine lv_iload_n hx hb dX1_takeMethod_48 rfl (lv_at hl 0 rfl) ?_
      refine va_iald (D := D) (i := z6) hx hb hK hP (264 + gi) (257 + gi) (xgmethodStarts hgi) (xtmethodStarts hgi) (i_in (a := z6.toInt) rfl (by (first | exact om_2e6b8401580f rgz6.1 t9 r10.2 r11 f24 | omega))) dX1_takeMethod_49 ?_
      have kc25 := i_clamp (x := z6) rfl (by (first | exact om_e3b1d6ac9ce8 rgz6.1 f24 | omega))
      refine g_top (v := V 61 (20 * gi + (Int32.toNatClampNeg z6))) (if_pos (by omega)) ?_
      have r26 : (-1) ≤ ((V 61 (20 * gi + (Int32.toNatClampNeg z6)))).toInt ∧ ((V 61 (20 * gi + (Int32.toNatClampNeg z6)))).toInt ≤ 8200 := hMV 61 (20 * gi + (Int32.toNatClampNeg z6))
      refine lv_iconst (v := (-1)) hx hb dX1_takeMethod_50 (by decide) ?_
      refine lv_icmp_eq (tgt := 60) hx hb dX1_takeMethod_51 (by decide) (fun c27 => ?_) (fun c27 => ?_)
      · skip
        have f28 : ((V 61 (20 * gi + (Int32.toNatClampNeg z6)))).toInt = (-1) := b_eq rfl (by decide) c27
        refine lv_aload_n hx hb dX1_takeMethod_60 rfl (lv_at hl 1 rfl) ?_
        refine lv_aload_n hx hb dX1_takeMethod_61 rfl (lv_at hl 1 rfl) ?_
        refine va_get (D := D) (ci := 1) (v := rfN ad 38 (V 1 1)) (fs := (xfReader ad V L Z)) (C := RX1) (T := TX1) (N := 9) hx hb hg inX1 hown hK hP 1 xgReader rfl 1 (by decide) (hg _ w305) (fun _ h9 => h9) rfl dX1_takeMethod_62 ?_
        refine g_topv (v := .ref (ad (38 + b))) (rfN_r (by omega)) ?_
        refine va_getN (D := D) (ci := 0) (v := .ref (ad (40 + (5 * b + 3)))) (fs := (xfBook ad V b)) (C := RX0) (T := TX0) (N := 13) hx hb hg inX0 hown hK hP (38 + b) (xgBook hb2) rfl 3 (by decide) (hnw.use 605 n605 rfl) (fun _ h9 => h9) rfl dX1_takeMethod_65 ?_
        refine lv_iload_n hx hb dX1_takeMethod_68 rfl (lv_at hl 0 rfl) ?_
        refine gA_int (gA_runV (As := [.ref (ad (40 + (5 * b + 3))), .int z6]) (rest := []) (ci := 1) (q0 := 1) hx hb hml hown hg hP hD hK hS hA hnw hgk (x_takeNumbered l D ks H.size ad kk V L Z z6 ((5 * b + 3)) hMV (by (first | exact om_3fdfc42d00bb rgz6.1 t9 r10.2 r11 f24 | omega)) (show (5 * b + 3) < 10 from by (first | exact om_a4f98a710256 hb2 | omega)) (show z6.toInt < (V 43 (5 * b + 3)).toInt from by (first | exact om_0e9116797efb t9 | omega))) w927 w929 w16 w162 w930 rfl xgReader hdV_yX1_takeNumbered ⟨Nat.le_of_ble_eq_true rfl, Nat.le_of_ble_eq_true rfl⟩ rfl hl.1 rfl (Nat.le_of_ble_eq_true rfl) dX1_takeMethod_69 ⟨Nat.le_of_ble_eq_true rfl, Nat.le_of_ble_eq_true rfl⟩) hP hD hK hS hA (fun z29 u30 H locs w31 hP hD hK hS => ?_)
        obtain ⟨V35, L36⟩ := u30
        obtain ⟨hMV35, ajV35, axL36, fyV35, rgz29, t32, t33, t34⟩ := w31
        have alL36 : agL [6, 44] L L36 := agL.tr alL axL36 (by decide)
        have hP : va_P D vwCl (xw ad kk V35 L36 Z) H := hP
        have hD : va_D A (xw ad kk V35 L36 Z) := hD
        have hMV35 : rgd bX V35 := hMV35
        have ajV35 : agr [(1, 3), (1, 6), (6, 8), (6, 9), (6, 10)] [43, 44] V V35 := ajV35
        have agV35 : agr [(1, 3), (1, 6), (6, 8), (6, 9), (6, 10)] [43, 44] V V35 := agV.tr ajV35 (by decide) (by decide)
        have fwV35 : frX (xR b) V V35 := frX.tr fwV (frX_NB fyV35 (by omega) (by omega))
        have rgz29 : 0 ≤ z29.toInt ∧ z29.toInt ≤ 1 := rgz29
        have t32 : Imp (z29.toInt = 1) (0 ≤ (V35 1 6).toInt ∧ (V35 1 6).toInt < ((xcap (5 * b + 3) : Nat) : Int)) := t32
        have t33 : (∀ n : Nat, ¬ n = (5 * b + 3) → V35 43 n = V 43 n) := t33
        have t34 : Imp (z29.toInt = 0) (1 ≤ (V35 1 3).toInt) := t34
        have r37 : (-1) ≤ ((V35 1 6)).toInt ∧ ((V35 1 6)).toInt ≤ 23 := hMV35 1 6
        have px38 : px V V35 b := px.tr (px.rf : px V V b) ⟨p0x.ag ajV35 (fun _ => rfl) (fun _ => rfl), t33 _ (by omega)⟩
        exact W.zret (v := z29) hx hb hr (nb_ok (by omega)) (fun t ht hW => ⟨⟨z29, (V35, L36), rfl, ⟨hMV35, agV35, alL36, fwV35, (show 0 ≤ z29.toInt ∧ z29.toInt ≤ 1 from by first | exact om_eb7af9d60398 rgz29.1 rgz29.2 | first | omega | ((try (have i_t34 := Imp.go t34 (by omega))); (try (have i_t32 := Imp.go t32 (by omega))); (try (have i_t32 := Imp.go t32 (by omega))); (try (have i_t34 := Imp.go t34 (by omega))); omega)), (Imp.mk (fun hp => have hp : z29.toInt = 1 := hp; (show 0 ≤ (V35 1 6).toInt ∧ (V35 1 6).toInt ≤ 19 from by first | exact om_a812228bf983 r11 ((Imp.go t32 (hp)).1) ((Imp.go t32 (hp)).2) | first | omega | ((try (have i_t34 := Imp.go t34 (by omega))); (try (have i_t32 := Imp.go t32 (by omega))); (try (have i_t32 := Imp.go t32 (by omega))); (try (have i_t34 := Imp.go t34 (by omega))); omega)))), px38, (Imp.mk (fun hp => have hp : z29.toInt = 0 := hp; (show 1 ≤ (V35 1 3).toInt from by first | exact om_f8d8213eda45 ((Imp.go t34 (hp))) | first | omega | ((try (have i_t34 := Imp.go t34 (by omega))); (try (have i_t32 := Imp.go t32 (by omega))); (try (have i_t32 := Imp.go t32 (by omega))); (try (have i_t34 := Imp.go t34 (by omega))); omega))))⟩, by rw [ht]; exact hP, va_K.moved hW.alike hK, hD⟩, hS.F ht⟩) hS.2.2 dX1_takeMethod_72
      · skip
        have f39 : ((V 61 (20 * gi + (Int32.toNatClampNeg z6)))).toInt ≠ (-1) := b_neq rfl (by decide) c27
        refine lv_aload_n hx hb dX1_takeMethod_54 rfl (lv_at hl 1 rfl) ?_
        refine lv_iconst (v := 3) hx hb dX1_takeMethod_55 (by decide) ?_
        have r40 : Int32.toInt 3 = 3 := by decide
        refine gA_int (gA_runV (As := [.int 3]) (rest := []) (ci := 1) (q0 := 1) hx hb hml hown hg hP hD hK hS hA hnw hgk (x_wrong l D ks H.size ad kk V L Z 3 hMV (by decide)) w867 w869 w6 w162 w870 rfl xgReader hdV_yX1_wrong ⟨Nat.le_of_ble_eq_true rfl, Nat.le_of_ble_eq_true rfl⟩ rfl hl.1 rfl (Nat.le_of_ble_eq_true rfl) dX1_takeMethod_56 ⟨Nat.le_of_ble_eq_true rfl, Nat.le_of_ble_eq_true rfl⟩) hP hD hK hS hA (fun z41 u42 H locs w43 hP hD hK hS => ?_)
        obtain ⟨V45, L46⟩ := u42
        obtain ⟨hMV45, ajV45, axL46, rgz41, t44⟩ := w43
        have axL46 : L = L46 := Eq.symm axL46
        subst axL46
        have hP : va_P D vwCl (xw ad kk V45 L Z) H := hP
        have hD : va_D A (xw ad kk V45 L Z) := hD
        have hMV45 : rgd bX V45 := hMV45
        have ajV45 : agr [(1, 3)] [] V V45 := ajV45
        have agV45 : agr [(1, 3), (1, 6), (6, 8), (6, 9), (6, 10)] [43, 44] V V45 := agV.tr ajV45 (by decide) (by decide)
        have fwV45 : frX (xR b) V V45 := frX.tr fwV (frX.ag ajV45 (by decide) (by decide))
        have rgz41 : 0 ≤ z41.toInt ∧ z41.toInt ≤ 0 := rgz41
        have t44 : 1 ≤ (V45 1 3).toInt := t44
        have pq47 : (V45 1 6).toInt = ((V 1 6)).toInt := congrArg Int32.toInt (ajV45 1 6 rfl)
        have r48 : (-1) ≤ ((V 1 6)).toInt ∧ ((V 1 6)).toInt ≤ 23 := hMV 1 6
        have px49 : px V V45 b := px.tr (px.rf : px V V b) (px.ag (show agr [(1, 3)] [] V V45 from (agr.tr agr.rf ajV45 (by decide) (by decide))) (fun _ => rfl) (fun _ => rfl) (fun _ => rfl))
        exact W.zret (v := z41) hx hb hr (nb_ok (by omega)) (fun t ht hW => ⟨⟨z41, (V45, L), rfl, ⟨hMV45, agV45, alL, fwV45, (show 0 ≤ z41.toInt ∧ z41.toInt ≤ 1 from by (first | exact om_641b3f05f166 rgz41.1 rgz41.2 | omega)), (Imp.mk (fun hp => have hp : z41.toInt = 1 := hp; (show 0 ≤ (V45 1 6).toInt ∧ (V45 1 6).toInt ≤ 19 from by omega))), px49, (Imp.mk (fun hp => have hp : z41.toInt = 0 := hp; (show 1 ≤ (V45 1 3).toInt from by (first | exact om_f8d8213eda45 t44 | omega))))⟩, by rw [ht]; exact hP, va_K.moved hW.alike hK, hD⟩, hS.F ht⟩) hS.2.2 dX1_takeMethod_59
  · skip
    have f50 : ((V 6 9)).toInt ≠ 3 := b_neq rfl (by decide) c2
    refine lv_aload_n hx hb dX1_takeMethod_11 rfl (lv_at hl 0 rfl) ?_
    refine lv_iconst (v := 1) hx hb dX1_takeMethod_12 (by decide) ?_
    have r51 : Int32.toInt 1 = 1 := by decide
    refine gA_int (gA_runV (As := [.int 1]) (rest := []) (ci := 1) (q0 := 1) hx hb hml hown hg hP hD hK hS hA hnw hgk (x_wrong l D ks H.size ad kk V L Z 1 hMV (by decide)) w867 w869 w6 w162 w870 rfl xgReader hdV_yX1_wrong ⟨Nat.le_of_ble_eq_true rfl, Nat.le_of_ble_eq_true rfl⟩ rfl hl.1 rfl (Nat.le_of_ble_eq_true rfl) dX1_takeMethod_13 ⟨Nat.le_of_ble_eq_true rfl, Nat.le_of_ble_eq_true rfl⟩) hP hD hK hS hA (fun z52 u53 H locs w54 hP hD hK hS => ?_)
    obtain ⟨V56, L57⟩ := u53
    obtain ⟨hMV56, ajV56, axL57, rgz52, t55⟩ := w54
    have axL57 : L = L57 := Eq.symm axL57
    subst axL57
    have hP : va_P D vwCl (xw ad kk V56 L Z) H := hP
    have hD : va_D A (xw ad kk V56 L Z) := hD
    have hMV56 : rgd bX V56 := hMV56
    have ajV56 : agr [(1, 3)] [] V V56 := ajV56
    have agV56 : agr [(1, 3), (1, 6), (6, 8), (6, 9), (6, 10)] [43, 44] V V56 := agV.tr ajV56 (by decide) (by decide)
    have fwV56 : frX (xR b) V V56 := frX.tr fwV (frX.ag ajV56 (by decide) (by decide))
    have rgz52 : 0 ≤ z52.toInt ∧ z52.toInt ≤ 0 := rgz52
    have t55 : 1 ≤ (V56 1 3).toInt := t55
    have pq58 : (V56 1 6).toInt = ((V 1 6)).toInt := congrArg Int32.toInt (ajV56 1 6 rfl)
    have r59 : (-1) ≤ ((V 1 6)).toInt ∧ ((V 1 6)).toInt ≤ 23 := hMV 1 6
    have px60 : px V V56 b := px.tr (px.rf : px V V b) (px.ag (show agr [(1, 3)] [] V V56 from (agr.tr agr.rf ajV56 (by decide) (by decide))) (fun _ => rfl) (fun _ => rfl) (fun _ => rfl))
    exact W.zret (v := z52) hx hb hr (nb_ok (by omega)) (fun t ht hW => ⟨⟨z52, (V56, L), rfl, ⟨hMV56, agV56, alL, fwV56, (show 0 ≤ z52.toInt ∧ z52.toInt ≤ 1 from by (first | exact om_641b3f05f166 rgz52.1 rgz52.2 | omega)), (Imp.mk (fun hp => have hp : z52.toInt = 1 := hp; (show 0 ≤ (V56 1 6).toInt ∧ (V56 1 6).toInt ≤ 19 from by omega))), px60, (Imp.mk (fun hp => have hp : z52.toInt = 0 := hp; (show 1 ≤ (V56 1 3).toInt from by (first | exact om_f8d8213eda45 t55 | omega))))⟩, by rw [ht]; exact hP, va_K.moved hW.alike hK, hD⟩, hS.F ht⟩) hS.2.2 dX1_takeMethod_16
abbrev r_x_takeCalled : Room := { frames := 2, cells := 0, slots := 0, locals := 44 }
abbrev q_x_takeCalled (D : va_G) (ks : KS) (ad : Nat → Nat) (kk : Nat → ClassId) (V : Vf) (L : Lf) (Z : XZ) (b : Nat) (A : Nat → Prop) : Array Value → State → Outcome → State → Prop := va_Qi (fun (r : Int32) (u : Vf × Lf) => rgd bX u.1 ∧ agr [(1, 3), (1, 6), (6, 8), (6, 9), (6, 10)] [43, 44] V u.1 ∧ agL [6, 44] L u.2 ∧ frX (xR b) V u.1 ∧ (0 ≤ r.toInt ∧ r.toInt ≤ 1) ∧ (px V u.1 b) ∧ (Imp (r.toInt = 0) (1 ≤ (u.1 1 3).toInt))) (fun u t => gq D A (xw ad kk u.1 u.2 Z) (xty kk Z) t) A
set_option maxHeartbeats 4000000 in
set_option maxRecDepth 100000 in
theorem x_takeCalled (l : Launch) (D : va_G) (ks : KS) (sz : Nat) (ad : Nat → Nat) (kk : Nat → ClassId) (V : Vf) (L : Lf) (Z : XZ) (b : Nat) (hMV : rgd bX V) (hb2 : b < 2) (rbk : (V 1 1).toInt = (b : Int))  : Met l yX1_takeCalled (Cond.code yX1_takeCalled cX1_takeCalled 1 (some .boolean) :: GW) r_x_takeCalled (va_Pc [.ref (ad 1)] (gp D ks (xw ad kk V L Z) (xty kk Z) sz)) (q_x_takeCalled D ks ad kk V L Z  b (va_A (xw ad kk V L Z) sz)) 0 0 (va_A (xw ad kk V L Z) sz) := by
  refine g_met (q_x_takeCalled D ks ad kk V L Z  b) (by decide) (Nat.le_of_ble_eq_true rfl) ?_
  intro p e s m below meth c A ls H locs hx hb hr hml hown hg hlocks hin hnw hgk hP hK hD hS hA hl
  have hown : s.vm.findClass RX1 = some m.cls := hown
  have hl : lv_has ls 1 [(0, .ref (ad 1))] := hl
  have hP : va_P D vwCl (xw ad kk V L Z) H := hP
  have hD : va_D A (xw ad kk V L Z) := hD
  have hK : va_K D vwCl (xty kk Z) s := hK
  have agV : agr [(1, 3), (1, 6), (6, 8), (6, 9), (6, 10)] [43, 44] V V := agr.rf
  have alL : agL [6, 44] L L := agL.rf
  have fwV : frX (xR b) V V := frX.rf
  have r1 : (-1) ≤ ((V 1 1)).toInt ∧ ((V 1 1)).toInt ≤ 1 := hMV 1 1
  refine lv_aload_n hx hb dX1_takeCalled_0 rfl (lv_at hl 0 rfl) ?_
  refine va_get (D := D) (ci := 1) (v := .ref (ad 6)) (fs := (xfReader ad V L Z)) (C := RX1) (T := TX1) (N := 9) hx hb hg inX1 hown hK hP 1 xgReader rfl 0 (by decide) (hg _ w304) (fun _ h9 => h9) rfl dX1_takeCalled_1 ?_
  refine gA_void (gA_runV (As := []) (rest := []) (ci := 9) (q0 := 6) hx hb hml hown hg hP hD hK hS hA hnw hgk (x_next l D ks H.size ad kk V L Z  hMV ) w871 w852 w853 w157 w854 rfl xgTape hdV_yX9_next ⟨Nat.le_of_ble_eq_true rfl, Nat.le_of_ble_eq_true rfl⟩ rfl hl.1 rfl (Nat.le_of_ble_eq_true rfl) dX1_takeCalled_4 ⟨Nat.le_of_ble_eq_true rfl, Nat.le_of_ble_eq_true rfl⟩) hP hD hK hS hA (fun u3 H locs w4 hP hD hK hS => ?_)
  obtain ⟨V5, L6⟩ := u3
  obtain ⟨hMV5, ajV5, axL6⟩ := w4
  have alL6 : agL [6, 44] L L6 := agL.tr alL axL6 (by decide)
  have hP : va_P D vwCl (xw ad kk V5 L6 Z) H := hP
  have hD : va_D A (xw ad kk V5 L6 Z) := hD
  have hMV5 : rgd bX V5 := hMV5
  have ajV5 : agr [(6, 8), (6, 9), (6, 10)] [] V V5 := ajV5
  have agV5 : agr [(1, 3), (1, 6), (6, 8), (6, 9), (6, 10)] [43, 44] V V5 := agV.tr ajV5 (by decide) (by decide)
  have fwV5 : frX (xR b) V V5 := frX.tr fwV (frX.ag ajV5 (by decide) (by decide))
  refine lv_aload_n hx hb dX1_takeCalled_7 rfl (lv_at hl 0 rfl) ?_
  refine va_get (D := D) (ci := 1) (v := .ref (ad 6)) (fs := (xfReader ad V5 L6 Z)) (C := RX1) (T := TX1) (N := 9) hx hb hg inX1 hown hK hP 1 xgReader rfl 0 (by decide) (hg _ w304) (fun _ h9 => h9) rfl dX1_takeCalled_8 ?_
  refine va_getN (D := D) (ci := 9) (v := .int (V5 6 9)) (fs := (xfTape ad V5 L6 Z)) (C := RX9) (T := TX9) (N := 12) hx hb hg inX9 hown hK hP 6 xgTape rfl 9 (by decide) (hnw.use 262 n262 rfl) (fun _ h9 => h9) rfl dX1_takeCalled_11 ?_
  refine lv_iconst (v := 3) hx hb dX1_takeCalled_14 (by decide) ?_
  refine lv_icmp_eq (tgt := 24) hx hb dX1_takeCalled_15 (by decide) (fun c7 => ?_) (fun c7 => ?_)
  · skip
    have f8 : ((V5 6 9)).toInt = 3 := b_eq rfl (by decide) c7
    refine lv_aload_n hx hb dX1_takeCalled_24 rfl (lv_at hl 0 rfl) ?_
    refine lv_aload_n hx hb dX1_takeCalled_25 rfl (lv_at hl 0 rfl) ?_
    refine va_get (D := D) (ci := 1) (v := rfN ad 38 (V5 1 1)) (fs := (xfReader ad V5 L6 Z)) (C := RX1) (T := TX1) (N := 9) hx hb hg inX1 hown hK hP 1 xgReader rfl 1 (by decide) (hg _ w305) (fun _ h9 => h9) rfl dX1_takeCalled_26 ?_
    have pq9 : (V5 1 1).toInt = ((V 1 1)).toInt := congrArg Int32.toInt (ajV5 1 1 rfl)
    refine g_topv (v := .ref (ad (38 + b))) (rfN_r (by omega)) ?_
    refine va_getN (D := D) (ci := 0) (v := .ref (ad (40 + (5 * b + 4)))) (fs := (xfBook ad V5 b)) (C := RX0) (T := TX0) (N := 13) hx hb hg inX0 hown hK hP (38 + b) (xgBook hb2) rfl 4 (by decide) (hnw.use 607 n607 rfl) (fun _ h9 => h9) rfl dX1_takeCalled_29 ?_
    refine lv_aload_n hx hb dX1_takeCalled_32 rfl (lv_at hl 0 rfl) ?_
    refine va_get (D := D) (ci := 1) (v := rfN ad 38 (V5 1 1)) (fs := (xfReader ad V5 L6 Z)) (C := RX1) (T := TX1) (N := 9) hx hb hg inX1 hown hK hP 1 xgReader rfl 1 (by decide) (hg _ w305) (fun _ h9 => h9) rfl dX1_takeCalled_33 ?_
    refine g_topv (v := .ref (ad (38 + b))) (rfN_r (by omega)) ?_
    refine va_getN (D := D) (ci := 0) (v := .ref (ad (40 + (5 * b + 4)))) (fs := (xfBook ad V5 b)) (C := RX0) (T := TX0) (N := 13) hx hb hg inX0 hown hK hP (38 + b) (xgBook hb2) rfl 4 (by decide) (hnw.use 607 n607 rfl) (fun _ h9 => h9) rfl dX1_takeCalled_36 ?_
    refine lv_aload_n hx hb dX1_takeCalled_39 rfl (lv_at hl 0 rfl) ?_
    refine va_get (D := D) (ci := 1) (v := .ref (ad 6)) (fs := (xfReader ad V5 L6 Z)) (C := RX1) (T := TX1) (N := 9) hx hb hg inX1 hown hK hP 1 xgReader rfl 0 (by decide) (hg _ w304) (fun _ h9 => h9) rfl dX1_takeCalled_40 ?_
    refine va_getN (D := D) (ci := 9) (v := .long (L6 6 11)) (fs := (xfTape ad V5 L6 Z)) (C := RX9) (T := TX9) (N := 12) hx hb hg inX9 hown hK hP 6 xgTape rfl 11 (by decide) (hnw.use 269 n269 rfl) (fun _ h9 => h9) rfl dX1_takeCalled_43 ?_
    refine lv_topl (fun w10 ew10 => ?_)
    have il11 : (5 * b + 4) < 10 := by (first | exact om_3aaf7229373d hb2 | omega)
    refine gA_int (gA_runV (As := [.long w10]) (rest := [.ref (ad (40 + (5 * b + 4))), .ref (ad 1)]) (ci := 6) (q0 := (40 + (5 * b + 4))) hx hb hml hown hg hP hD hK hS hA hnw hgk (x_find l D ks H.size ad kk V5 L6 Z w10 ((5 * b + 4)) hMV5 (show (5 * b + 4) < 10 from by (first | exact om_3aaf7229373d hb2 | omega))) w892 w881 w882 w168 w883 rfl (xgNames il11) hdV_yX6_find ⟨Nat.le_of_ble_eq_true rfl, Nat.le_of_ble_eq_true rfl⟩ rfl hl.1 rfl (Nat.le_of_ble_eq_true rfl) dX1_takeCalled_46 ⟨Nat.le_of_ble_eq_true rfl, Nat.le_of_ble_eq_true rfl⟩) hP hD hK hS hA (fun z12 u13 H locs w14 hP hD hK hS => ?_)
    obtain ⟨rgz12, t15⟩ := w14
    have rgz12 : (-1) ≤ z12.toInt ∧ z12.toInt ≤ 23 := rgz12
    have t15 : z12.toInt < (V5 43 (5 * b + 4)).toInt := t15
    have r16 : xcap (5 * b + 4) = 20 := xcap_4
    have pq17 : (V5 43 (5 * b + 4)).toInt = ((V 43 (5 * b + 4))).toInt := congrArg Int32.toInt (ajV5 43 (5 * b + 4) rfl)
    have r18 : 0 ≤ ((V 43 (5 * b + 4))).toInt ∧ ((V 43 (5 * b + 4))).toInt ≤ ((xcap (5 * b + 4) : Nat) : Int) := hMV 43 (5 * b + 4)
    refine gA_int (gA_runV (As := [.ref (ad (40 + (5 * b + 4))), .int z12]) (rest := []) (ci := 1) (q0 := 1) hx hb hml hown hg hP hD hK hS hA hnw hgk (x_takeNumbered l D ks H.size ad kk V5 L6 Z z12 ((5 * b + 4)) hMV5 (by (first | exact om_f48f1de42cd6 rgz12.1 t15 r16 pq17 r18.2 | omega)) (show (5 * b + 4) < 10 from by (first | exact om_3aaf7229373d hb2 | omega)) (show z12.toInt < (V5 43 (5 * b + 4)).toInt from by (first | exact om_0e9116797efb t15 | omega))) w927 w929 w16 w162 w930 rfl xgReader hdV_yX1_takeNumbered ⟨Nat.le_of_ble_eq_true rfl, Nat.le_of_ble_eq_true rfl⟩ rfl hl.1 rfl (Nat.le_of_ble_eq_true rfl) dX1_takeCalled_49 ⟨Nat.le_of_ble_eq_true rfl, Nat.le_of_ble_eq_true rfl⟩) hP hD hK hS hA (fun z19 u20 H locs w21 hP hD hK hS => ?_)
    obtain ⟨V25, L26⟩ := u20
    obtain ⟨hMV25, ajV25, axL26, fyV25, rgz19, t22, t23, t24⟩ := w21
    have alL26 : agL [6, 44] L L26 := agL.tr alL6 axL26 (by decide)
    have hP : va_P D vwCl (xw ad kk V25 L26 Z) H := hP
    have hD : va_D A (xw ad kk V25 L26 Z) := hD
    have hMV25 : rgd bX V25 := hMV25
    have ajV25 : agr [(1, 3), (1, 6), (6, 8), (6, 9), (6, 10)] [43, 44] V5 V25 := ajV25
    have agV25 : agr [(1, 3), (1, 6), (6, 8), (6, 9), (6, 10)] [43, 44] V V25 := agV5.tr ajV25 (by decide) (by decide)
    have fwV25 : frX (xR b) V V25 := frX.tr fwV5 (frX_NB fyV25 (by omega) (by omega))
    have rgz19 : 0 ≤ z19.toInt ∧ z19.toInt ≤ 1 := rgz19
    have t22 : Imp (z19.toInt = 1) (0 ≤ (V25 1 6).toInt ∧ (V25 1 6).toInt < ((xcap (5 * b + 4) : Nat) : Int)) := t22
    have t23 : (∀ n : Nat, ¬ n = (5 * b + 4) → V25 43 n = V5 43 n) := t23
    have t24 : Imp (z19.toInt = 0) (1 ≤ (V25 1 3).toInt) := t24
    have r27 : (-1) ≤ ((V25 1 6)).toInt ∧ ((V25 1 6)).toInt ≤ 23 := hMV25 1 6
    have px28 : px V V5 b := px.tr (px.rf : px V V b) (px.ag (show agr [(6, 8), (6, 9), (6, 10)] [] V V5 from (agr.tr agr.rf ajV5 (by decide) (by decide))) (fun _ => rfl) (fun _ => rfl) (fun _ => rfl))
    have px29 : px V V25 b := px.tr px28 ⟨p0x.ag ajV25 (fun _ => rfl) (fun _ => rfl), t23 _ (by omega)⟩
    exact W.zret (v := z19) hx hb hr (nb_ok (by omega)) (fun t ht hW => ⟨⟨z19, (V25, L26), rfl, ⟨hMV25, agV25, alL26, fwV25, (show 0 ≤ z19.toInt ∧ z19.toInt ≤ 1 from by first | exact om_eb7af9d60398 rgz19.1 rgz19.2 | first | omega | ((try (have i_t24 := Imp.go t24 (by omega))); (try (have i_t22 := Imp.go t22 (by omega))); (try (have i_t22 := Imp.go t22 (by omega))); (try (have i_t24 := Imp.go t24 (by omega))); omega)), px29, (Imp.mk (fun hp => have hp : z19.toInt = 0 := hp; (show 1 ≤ (V25 1 3).toInt from by first | exact om_f8d8213eda45 ((Imp.go t24 (hp))) | first | omega | ((try (have i_t24 := Imp.go t24 (by omega))); (try (have i_t22 := Imp.go t22 (by omega))); (try (have i_t22 := Imp.go t22 (by omega))); (try (have i_t24 := Imp.go t24 (by omega))); omega))))⟩, by rw [ht]; exact hP, va_K.moved hW.alike hK, hD⟩, hS.F ht⟩) hS.2.2 dX1_takeCalled_52
  · skip
    have f30 : ((V5 6 9)).toInt ≠ 3 := b_neq rfl (by decide) c7
    refine lv_aload_n hx hb dX1_takeCalled_18 rfl (lv_at hl 0 rfl) ?_
    refine lv_iconst (v := 1) hx hb dX1_takeCalled_19 (by decide) ?_
    have r31 : Int32.toInt 1 = 1 := by decide
    refine gA_int (gA_runV (As := [.int 1]) (rest := []) (ci := 1) (q0 := 1) hx hb hml hown hg hP hD hK hS hA hnw hgk (x_wrong l D ks H.size ad kk V5 L6 Z 1 hMV5 (by decide)) w867 w869 w6 w162 w870 rfl xgReader hdV_yX1_wrong ⟨Nat.le_of_ble_eq_true rfl, Nat.le_of_ble_eq_true rfl⟩ rfl hl.1 rfl (Nat.le_of_ble_eq_true rfl) dX1_takeCalled_20 ⟨Nat.le_of_ble_eq_true rfl, Nat.le_of_ble_eq_true rfl⟩) hP hD hK hS hA (fun z32 u33 H locs w34 hP hD hK hS => ?_)
    obtain ⟨V36, L37⟩ := u33
    obtain ⟨hMV36, ajV36, axL37, rgz32, t35⟩ := w34
    have axL37 : L6 = L37 := Eq.symm axL37
    subst axL37
    have hP : va_P D vwCl (xw ad kk V36 L6 Z) H := hP
    have hD : va_D A (xw ad kk V36 L6 Z) := hD
    have hMV36 : rgd bX V36 := hMV36
    have ajV36 : agr [(1, 3)] [] V5 V36 := ajV36
    have agV36 : agr [(1, 3), (1, 6), (6, 8), (6, 9), (6, 10)] [43, 44] V V36 := agV5.tr ajV36 (by decide) (by decide)
    have fwV36 : frX (xR b) V V36 := frX.tr fwV5 (frX.ag ajV36 (by decide) (by decide))
    have rgz32 : 0 ≤ z32.toInt ∧ z32.toInt ≤ 0 := rgz32
    have t35 : 1 ≤ (V36 1 3).toInt := t35
    have px38 : px V V36 b := px.tr (px.rf : px V V b) (px.ag (show agr [(1, 3), (6, 8), (6, 9), (6, 10)] [] V V36 from (agr.tr (agr.tr agr.rf ajV5 (by decide) (by decide)) ajV36 (by decide) (by decide))) (fun _ => rfl) (fun _ => rfl) (fun _ => rfl))
    exact W.zret (v := z32) hx hb hr (nb_ok (by omega)) (fun t ht hW => ⟨⟨z32, (V36, L6), rfl, ⟨hMV36, agV36, alL6, fwV36, (show 0 ≤ z32.toInt ∧ z32.toInt ≤ 1 from by (first | exact om_641b3f05f166 rgz32.1 rgz32.2 | omega)), px38, (Imp.mk (fun hp => have hp : z32.toInt = 0 := hp; (show 1 ≤ (V36 1 3).toInt from by (first | exact om_f8d8213eda45 t35 | omega))))⟩, by rw [ht]; exact hP, va_K.moved hW.alike hK, hD⟩, hS.F ht⟩) hS.2.2 dX1_takeCalled_23
abbrev r_x_takeTypes : Room := { frames := 2, cells := 0, slots := 0, locals := 43 }
abbrev q_x_takeTypes (D : va_G) (ks : KS) (ad : Nat → Nat) (kk : Nat → ClassId) (V : Vf) (L : Lf) (Z : XZ) (b : Nat) (A : Nat → Prop) : Array Value → State → Outcome → State → Prop := va_Qi (fun (r : Int32) (u : Vf × Lf) => rgd bX u.1 ∧ agr [(1, 3), (1, 6), (1, 7), (6, 8), (6, 9), (6, 10)] [] V u.1 ∧ agL [6] L u.2 ∧ (0 ≤ r.toInt ∧ r.toInt ≤ 1) ∧ (Imp (r.toInt = 0) (1 ≤ (u.1 1 3).toInt))) (fun u t => gq D A (xw ad kk u.1 u.2 Z) (xty kk Z) t) A
set_option maxHeartbeats 4000000 in
set_option maxRecDepth 100000 in
theorem x_takeTypes (l : Launch) (D : va_G) (ks : KS) (sz : Nat) (ad : Nat → Nat) (kk : Nat → ClassId) (V : Vf) (L : Lf) (Z : XZ) (b : Nat) (hMV : rgd bX V) (hb2 : b < 2) (rbk : (V 1 1).toInt = (b : Int))  : Met l yX1_takeTypes (Cond.code yX1_takeTypes cX1_takeTypes 3 (some .boolean) :: GW) r_x_takeTypes (va_Pc [.ref (ad 1)] (gp D ks (xw ad kk V L Z) (xty kk Z) sz)) (q_x_takeTypes D ks ad kk V L Z  b (va_A (xw ad kk V L Z) sz)) 0 0 (va_A (xw ad kk V L Z) sz) := by
  refine g_met (q_x_takeTypes D ks ad kk V L Z  b) (by decide) (Nat.le_of_ble_eq_true rfl) ?_
  intro p e s m below meth c A ls H locs hx hb hr hml hown hg hlocks hin hnw hgk hP hK hD hS hA hl
  have hown : s.vm.findClass RX1 = some m.cls := hown
  have hl : lv_has ls 3 [(0, .ref (ad 1))] := hl
  have hP : va_P D vwCl (xw ad kk V L Z) H := hP
  have hD : va_D A (xw ad kk V L Z) := hD
  have hK : va_K D vwCl (xty kk Z) s := hK
  have agV : agr [(1, 3), (1, 6), (1, 7), (6, 8), (6, 9), (6, 10)] [] V V := agr.rf
  have alL : agL [6] L L := agL.rf
  have r1 : (-1) ≤ ((V 1 1)).toInt ∧ ((V 1 1)).toInt ≤ 1 := hMV 1 1
  refine lv_iconst (v := 0) hx hb dX1_takeTypes_0 (by decide) ?_
  refine lv_istore_n (lv' := [(1, .int 0), (0, .ref (ad 1))]) hx hb dX1_takeTypes_1 rfl hl (by decide) rfl (fun ls hl => ?_)
  refine lv_aload_n hx hb dX1_takeTypes_2 rfl (lv_at hl 1 rfl) ?_
  refine lv_iconst (v := 0) hx hb dX1_takeTypes_3 (by decide) ?_
  refine va_put (D := D) (ci := 1) (v := .int 0) (ty := tyX1 7) (fs := (xfReader ad V L Z)) (C := RX1) (T := TX1) (N := 9) hx hb hg inX1 tyX1 tyX1_ok nmX1 hown hK hP hD hS 1 xgReader rfl 7 (by decide) (hg _ w311) (fun _ h9 => h9) rfl (tyX1_ok 7 (by decide)) rfl rfl (Nat.le_of_ble_eq_true rfl) dX1_takeTypes_4 (fun H locs hP hD hS => ?_)
  obtain ⟨V2, hV2⟩ : ∃ z, z = up2 V 1 7 0 := ⟨_, rfl⟩
  have ew3 : (xw ad kk V L Z).set 1 ((ad 1), .inr (1, (xfReader ad V L Z).set 7 (.int 0))) = xw ad kk V2 L Z := by rw [hV2]; exact xw_ss (by decide) rfl (xb_si (by decide))
  have hP : va_P D vwCl (xw ad kk V2 L Z) H := by rw [← ew3]; exact hP
  have hD : va_D A (xw ad kk V2 L Z) := by rw [← ew3]; exact hD
  have hMV2 : rgd bX V2 := hMV.put hV2 (i_full _)
  have agV2 : agr [(1, 3), (1, 6), (1, 7), (6, 8), (6, 9), (6, 10)] [] V V2 := agV.up hV2 rfl
  refine lv_iconst (v := 0) hx hb dX1_takeTypes_7 (by decide) ?_
  refine lv_istore_n (lv' := [(2, .int 0), (1, .int 0), (0, .ref (ad 1))]) hx hb dX1_takeTypes_8 rfl hl (by decide) rfl (fun ls hl => ?_)
  have lp8 : ∀ (fulp8 : Nat) (y4 : Int32) (y5 : Int32) (V6 : Vf) (L7 : Lf) (H : Heap) (locs : List Loc) (ls : Array Slot), 0 ≤ y4.toInt ∧ y4.toInt ≤ 6 → 7 - y4.toInt < (fulp8 : Int) → agL [6] L L7 → agr [(1, 3), (1, 6), (1, 7), (6, 8), (6, 9), (6, 10)] [] V2 V6 → rgd bX V6 → va_P D vwCl (xw ad kk V6 L7 Z) H → va_D A (xw ad kk V6 L7 Z) → va_S A s.heap H locs → lv_has ls 3 [(2, .int y4), (1, .int y5), (0, .ref (ad 1))] → W p l e r_x_takeTypes s m ([.ref (ad 1)] : List Value).toArray below meth c H locs 0 0 (MQ below (q_x_takeTypes D ks ad kk V L Z  b A) ([.ref (ad 1)] : List Value).toArray s 0 0 A) (F0 m 9 ls []) := by
    intro fulp8
    induction fulp8 with
    | zero =>
      intro y4 y5 V6 L7 H locs ls klp8_0 hn alL7 ajV6 hMV6 hP hD hS hl
      exfalso; (first | exact om_c9eec6a79f34 klp8_0.2 hn | omega)
    | succ fulp8 ihlp8 =>
      intro y4 y5 V6 L7 H locs ls klp8_0 hn alL7 ajV6 hMV6 hP hD hS hl
      have agV6 : agr [(1, 3), (1, 6), (1, 7), (6, 8), (6, 9), (6, 10)] [] V V6 := agV2.tr ajV6 (by decide) (by decide)
      refine lv_iload_n hx hb dX1_takeTypes_9 rfl (lv_at hl 0 rfl) ?_
      refine lv_bipush (v := 6) hx hb dX1_takeTypes_10 (by decide) ?_
      refine lv_icmp_gt (tgt := 117) hx hb dX1_takeTypes_12 (by decide) (fun c9 => ?_) (fun c9 => ?_)
      · skip
        have f10 : 6 < y4.toInt := b_lt (by decide) rfl c9
        exfalso; (first | exact om_50d654328658 klp8_0.2 f10 | omega)
      · skip
        have f11 : y4.toInt ≤ 6 := b_nlt (by decide) rfl c9
        refine lv_aload_n hx hb dX1_takeTypes_15 rfl (lv_at hl 2 rfl) ?_
        have pq12 : (V6 1 1).toInt = ((V 1 1)).toInt := congrArg Int32.toInt ((ajV6 1 1 rfl).trans (up2_k hV2 (by decide)))
        refine gA_int (gA_runV (As := []) (rest := []) (ci := 1) (q0 := 1) hx hb hml hown hg hP hD hK hS hA hnw hgk (x_isToldType l D ks H.size ad kk V6 L7 Z (b) hMV6 (show b < 2 from by (first | exact om_f940a4667dd6 hb2 | omega)) (show (V6 1 1).toInt = (b : Int) from by (first | exact om_adf531c77a0d rbk pq12 | omega))) w888 w890 w9 w162 w891 rfl xgReader hdV_yX1_isToldType ⟨Nat.le_of_ble_eq_true rfl, Nat.le_of_ble_eq_true rfl⟩ rfl hl.1 rfl (Nat.le_of_ble_eq_true rfl) dX1_takeTypes_16 ⟨Nat.le_of_ble_eq_true rfl, Nat.le_of_ble_eq_true rfl⟩) hP hD hK hS hA (fun z13 u14 H locs w15 hP hD hK hS => ?_)
        obtain ⟨V18, L19⟩ := u14
        obtain ⟨hMV18, ajV18, axL19, rgz13, t16, t17⟩ := w15
        have axL19 : L7 = L19 := Eq.symm axL19
        subst axL19
        have hP : va_P D vwCl (xw ad kk V18 L7 Z) H := hP
        have hD : va_D A (xw ad kk V18 L7 Z) := hD
        have hMV18 : rgd bX V18 := hMV18
        have ajV18 : agr [(1, 3), (1, 6)] [] V6 V18 := ajV18
        have agV18 : agr [(1, 3), (1, 6), (1, 7), (6, 8), (6, 9), (6, 10)] [] V V18 := agV6.tr ajV18 (by decide) (by decide)
        have rgz13 : 0 ≤ z13.toInt ∧ z13.toInt ≤ 1 := rgz13
        have t16 : Imp (z13.toInt = 1) (0 ≤ (V18 1 6).toInt ∧ (V18 1 6).toInt ≤ 23) := t16
        have t17 : Imp (z13.toInt = 0) (1 ≤ (V18 1 3).toInt) := t17
        have r20 : (-1) ≤ ((V18 1 6)).toInt ∧ ((V18 1 6)).toInt ≤ 23 := hMV18 1 6
        refine lv_if_ne (tgt := 24) hx hb dX1_takeTypes_19 (by decide) (fun c21 => ?_) (fun c21 => ?_)
        · skip
          have f22 : z13.toInt ≠ 0 := b_neq rfl (by decide) c21
          have rh23 := Imp.go t16 (by (first | exact om_2ebe32d50835 rgz13.1 rgz13.2 f22 | omega))
          refine lv_iload_n hx hb dX1_takeTypes_24 rfl (lv_at hl 1 rfl) ?_
          refine lv_aload_n hx hb dX1_takeTypes_25 rfl (lv_at hl 2 rfl) ?_
          refine va_get (D := D) (ci := 1) (v := .int (V18 1 6)) (fs := (xfReader ad V18 L7 Z)) (C := RX1) (T := TX1) (N := 9) hx hb hg inX1 hown hK hP 1 xgReader rfl 6 (by decide) (hg _ w310) (fun _ h9 => h9) rfl dX1_takeTypes_26 ?_
          refine lv_ishr hx hb dX1_takeTypes_29 ?_
          refine lv_topi (fun z24 ez24 => ?_)
          refine lv_iconst (v := 1) hx hb dX1_takeTypes_30 (by decide) ?_
          refine lv_iand hx hb dX1_takeTypes_31 ?_
          refine lv_topi (fun z25 ez25 => ?_)
          have hz25 : 0 ≤ z25.toInt ∧ z25.toInt ≤ 1 := and_m ez25 (by decide)
          refine lv_if_eq (tgt := 41) hx hb dX1_takeTypes_32 (by decide) (fun c26 => ?_) (fun c26 => ?_)
          · skip
            have f27 : z25.toInt = 0 := b_eq rfl (by decide) c26
            refine lv_iload_n hx hb dX1_takeTypes_41 rfl (lv_at hl 0 rfl) ?_
            refine lv_bipush (v := 6) hx hb dX1_takeTypes_42 (by decide) ?_
            refine lv_icmp_ne (tgt := 53) hx hb dX1_takeTypes_44 (by decide) (fun c28 => ?_) (fun c28 => ?_)
            · skip
              have f29 : y4.toInt ≠ 6 := b_neq rfl (by decide) c28
              refine lv_iload_n hx hb dX1_takeTypes_53 rfl (lv_at hl 1 rfl) ?_
              refine lv_iconst (v := 1) hx hb dX1_takeTypes_54 (by decide) ?_
              refine lv_aload_n hx hb dX1_takeTypes_55 rfl (lv_at hl 2 rfl) ?_
              refine va_get (D := D) (ci := 1) (v := .int (V18 1 6)) (fs := (xfReader ad V18 L7 Z)) (C := RX1) (T := TX1) (N := 9) hx hb hg inX1 hown hK hP 1 xgReader rfl 6 (by decide) (hg _ w310) (fun _ h9 => h9) rfl dX1_takeTypes_56 ?_
              refine lv_ishl hx hb dX1_takeTypes_59 ?_
              refine lv_topi (fun z30 ez30 => ?_)
              refine lv_ior hx hb dX1_takeTypes_60 ?_
              refine lv_topi (fun z31 ez31 => ?_)
              refine lv_istore_n (lv' := [(1, .int z31), (2, .int y4), (0, .ref (ad 1))]) hx hb dX1_takeTypes_61 rfl hl (by decide) rfl (fun ls hl => ?_)
              refine lv_aload_n hx hb dX1_takeTypes_62 rfl (lv_at hl 2 rfl) ?_
              refine lv_dup hx hb dX1_takeTypes_63 rfl ?_
              refine va_get (D := D) (ci := 1) (v := .int (V18 1 7)) (fs := (xfReader ad V18 L7 Z)) (C := RX1) (T := TX1) (N := 9) hx hb hg inX1 hown hK hP 1 xgReader rfl 7 (by decide) (hg _ w311) (fun _ h9 => h9) rfl dX1_takeTypes_64 ?_
              refine g_top (v := (V6 1 7)) (ajV18 1 7 rfl) ?_
              refine lv_aload_n hx hb dX1_takeTypes_67 rfl (lv_at hl 2 rfl) ?_
              refine va_get (D := D) (ci := 1) (v := rfN ad 38 (V18 1 1)) (fs := (xfReader ad V18 L7 Z)) (C := RX1) (T := TX1) (N := 9) hx hb hg inX1 hown hK hP 1 xgReader rfl 1 (by decide) (hg _ w305) (fun _ h9 => h9) rfl dX1_takeTypes_68 ?_
              have pq32 : (V18 1 1).toInt = ((V 1 1)).toInt := congrArg Int32.toInt ((ajV18 1 1 rfl).trans ((ajV6 1 1 rfl).trans (up2_k hV2 (by decide))))
              refine g_topv (v := .ref (ad (38 + b))) (rfN_r (by first | omega | ((try (have i_t17 := Imp.go t17 (by omega))); (try (have i_t16 := Imp.go t16 (by omega))); (try (have i_t16 := Imp.go t16 (by omega))); (try (have i_t17 := Imp.go t17 (by omega))); omega))) ?_
              refine va_getN (D := D) (ci := 0) (v := .ref (ad (60 + b))) (fs := (xfBook ad V18 b)) (C := RX0) (T := TX0) (N := 13) hx hb hg inX0 hown hK hP (38 + b) (xgBook hb2) rfl 5 (by decide) (hnw.use 609 n609 rfl) (fun _ h9 => h9) rfl dX1_takeTypes_71 ?_
              refine lv_aload_n hx hb dX1_takeTypes_74 rfl (lv_at hl 2 rfl) ?_
              refine va_get (D := D) (ci := 1) (v := .int (V18 1 6)) (fs := (xfReader ad V18 L7 Z)) (C := RX1) (T := TX1) (N := 9) hx hb hg inX1 hown hK hP 1 xgReader rfl 6 (by decide) (hg _ w310) (fun _ h9 => h9) rfl dX1_takeTypes_75 ?_
              have il33 : b < 2 := by first | exact om_f940a4667dd6 hb2 | first | omega | ((try (have i_t17 := Imp.go t17 (by omega))); (try (have i_t16 := Imp.go t16 (by omega))); (try (have i_t16 := Imp.go t16 (by omega))); (try (have i_t17 := Imp.go t17 (by omega))); omega)
              refine va_iald (D := D) (i := (V18 1 6)) hx hb hK hP (60 + b) (53 + b) (xgtypeUnder il33) (xttypeUnder il33) (i_in (a := ((V18 1 6)).toInt) rfl (by first | exact om_e641b34bcb77 r20.2 rh23.1 | first | omega | ((try (have i_t17 := Imp.go t17 (by omega))); (try (have i_t16 := Imp.go t16 (by omega))); (try (have i_t16 := Imp.go t16 (by omega))); (try (have i_t17 := Imp.go t17 (by omega))); omega))) dX1_takeTypes_78 ?_
              have kc34 := i_clamp (x := (V18 1 6)) rfl (by first | exact om_eafa9039069c ((Imp.go t16 (imp_a (rgz13.1) (rgz13.2) (f22))).1) | first | omega | ((try (have i_t17 := Imp.go t17 (by omega))); (try (have i_t16 := Imp.go t16 (by omega))); (try (have i_t16 := Imp.go t16 (by omega))); (try (have i_t17 := Imp.go t17 (by omega))); omega))
              refine g_top (v := V18 45 (24 * b + (Int32.toNatClampNeg (V18 1 6)))) (if_pos (by first | omega | ((try (have i_t17 := Imp.go t17 (by omega))); (try (have i_t16 := Imp.go t16 (by omega))); (try (have i_t16 := Imp.go t16 (by omega))); (try (have i_t17 := Imp.go t17 (by omega))); omega))) ?_
              refine g_top (v := (V 45 (24 * b + (Int32.toNatClampNeg (V18 1 6))))) ((ajV18 45 (24 * b + (Int32.toNatClampNeg (V18 1 6))) rfl).trans ((ajV6 45 (24 * b + (Int32.toNatClampNeg (V18 1 6))) rfl).trans (up2_o hV2 (by decide)))) ?_
              refine lv_ior hx hb dX1_takeTypes_79 ?_
              refine lv_topi (fun z35 ez35 => ?_)
              refine va_put (D := D) (ci := 1) (v := .int z35) (ty := tyX1 7) (fs := (xfReader ad V18 L7 Z)) (C := RX1) (T := TX1) (N := 9) hx hb hg inX1 tyX1 tyX1_ok nmX1 hown hK hP hD hS 1 xgReader rfl 7 (by decide) (hg _ w311) (fun _ h9 => h9) rfl (tyX1_ok 7 (by decide)) rfl rfl (Nat.le_of_ble_eq_true rfl) dX1_takeTypes_80 (fun H locs hP hD hS => ?_)
              obtain ⟨V36, hV36⟩ : ∃ z, z = up2 V18 1 7 z35 := ⟨_, rfl⟩
              have ew37 : (xw ad kk V18 L7 Z).set 1 ((ad 1), .inr (1, (xfReader ad V18 L7 Z).set 7 (.int z35))) = xw ad kk V36 L7 Z := by rw [hV36]; exact xw_ss (by decide) rfl (xb_si (by decide))
              have hP : va_P D vwCl (xw ad kk V36 L7 Z) H := by rw [← ew37]; exact hP
              have hD : va_D A (xw ad kk V36 L7 Z) := by rw [← ew37]; exact hD
              have hMV36 : rgd bX V36 := hMV18.put hV36 (i_full _)
              have agV36 : agr [(1, 3), (1, 6), (1, 7), (6, 8), (6, 9), (6, 10)] [] V V36 := agV18.up hV36 rfl
              refine lv_aload_n hx hb dX1_takeTypes_83 rfl (lv_at hl 2 rfl) ?_
              refine va_get (D := D) (ci := 1) (v := .ref (ad 6)) (fs := (xfReader ad V36 L7 Z)) (C := RX1) (T := TX1) (N := 9) hx hb hg inX1 hown hK hP 1 xgReader rfl 0 (by decide) (hg _ w304) (fun _ h9 => h9) rfl dX1_takeTypes_84 ?_
              refine gA_void (gA_runV (As := []) (rest := []) (ci := 9) (q0 := 6) hx hb hml hown hg hP hD hK hS hA hnw hgk (x_next l D ks H.size ad kk V36 L7 Z  hMV36 ) w871 w852 w853 w157 w854 rfl xgTape hdV_yX9_next ⟨Nat.le_of_ble_eq_true rfl, Nat.le_of_ble_eq_true rfl⟩ rfl hl.1 rfl (Nat.le_of_ble_eq_true rfl) dX1_takeTypes_87 ⟨Nat.le_of_ble_eq_true rfl, Nat.le_of_ble_eq_true rfl⟩) hP hD hK hS hA (fun u39 H locs w40 hP hD hK hS => ?_)
              obtain ⟨V41, L42⟩ := u39
              obtain ⟨hMV41, ajV41, axL42⟩ := w40
              have alL42 : agL [6] L L42 := agL.tr alL7 axL42 (by decide)
              have hP : va_P D vwCl (xw ad kk V41 L42 Z) H := hP
              have hD : va_D A (xw ad kk V41 L42 Z) := hD
              have hMV41 : rgd bX V41 := hMV41
              have ajV41 : agr [(6, 8), (6, 9), (6, 10)] [] V36 V41 := ajV41
              have agV41 : agr [(1, 3), (1, 6), (1, 7), (6, 8), (6, 9), (6, 10)] [] V V41 := agV36.tr ajV41 (by decide) (by decide)
              refine lv_aload_n hx hb dX1_takeTypes_90 rfl (lv_at hl 2 rfl) ?_
              refine va_get (D := D) (ci := 1) (v := .ref (ad 6)) (fs := (xfReader ad V41 L42 Z)) (C := RX1) (T := TX1) (N := 9) hx hb hg inX1 hown hK hP 1 xgReader rfl 0 (by decide) (hg _ w304) (fun _ h9 => h9) rfl dX1_takeTypes_91 ?_
              refine va_getN (D := D) (ci := 9) (v := .int (V41 6 9)) (fs := (xfTape ad V41 L42 Z)) (C := RX9) (T := TX9) (N := 12) hx hb hg inX9 hown hK hP 6 xgTape rfl 9 (by decide) (hnw.use 262 n262 rfl) (fun _ h9 => h9) rfl dX1_takeTypes_94 ?_
              refine lv_bipush (v := 44) hx hb dX1_takeTypes_97 (by decide) ?_
              refine lv_icmp_eq (tgt := 104) hx hb dX1_takeTypes_99 (by decide) (fun c43 => ?_) (fun c43 => ?_)
              · skip
                have f44 : ((V41 6 9)).toInt = 44 := b_eq rfl (by decide) c43
                refine lv_aload_n hx hb dX1_takeTypes_104 rfl (lv_at hl 2 rfl) ?_
                refine va_get (D := D) (ci := 1) (v := .ref (ad 6)) (fs := (xfReader ad V41 L42 Z)) (C := RX1) (T := TX1) (N := 9) hx hb hg inX1 hown hK hP 1 xgReader rfl 0 (by decide) (hg _ w304) (fun _ h9 => h9) rfl dX1_takeTypes_105 ?_
                refine gA_void (gA_runV (As := []) (rest := []) (ci := 9) (q0 := 6) hx hb hml hown hg hP hD hK hS hA hnw hgk (x_next l D ks H.size ad kk V41 L42 Z  hMV41 ) w871 w852 w853 w157 w854 rfl xgTape hdV_yX9_next ⟨Nat.le_of_ble_eq_true rfl, Nat.le_of_ble_eq_true rfl⟩ rfl hl.1 rfl (Nat.le_of_ble_eq_true rfl) dX1_takeTypes_108 ⟨Nat.le_of_ble_eq_true rfl, Nat.le_of_ble_eq_true rfl⟩) hP hD hK hS hA (fun u46 H locs w47 hP hD hK hS => ?_)
                obtain ⟨V48, L49⟩ := u46
                obtain ⟨hMV48, ajV48, axL49⟩ := w47
                have alL49 : agL [6] L L49 := agL.tr alL42 axL49 (by decide)
                have hP : va_P D vwCl (xw ad kk V48 L49 Z) H := hP
                have hD : va_D A (xw ad kk V48 L49 Z) := hD
                have hMV48 : rgd bX V48 := hMV48
                have ajV48 : agr [(6, 8), (6, 9), (6, 10)] [] V41 V48 := ajV48
                have agV48 : agr [(1, 3), (1, 6), (1, 7), (6, 8), (6, 9), (6, 10)] [] V V48 := agV41.tr ajV48 (by decide) (by decide)
                obtain ⟨z50, ez50⟩ : ∃ y : Int32, y = y4 + 1 := ⟨_, rfl⟩
                have hz50 : z50.toInt = y4.toInt + 1 := i_add ez50 rfl (by decide) (by (first | exact om_875f8b1f1696 klp8_0.1 klp8_0.2 f29 | omega))
                refine lv_iinc (v := z50) (lv' := [(2, .int z50), (1, .int z31), (0, .ref (ad 1))]) hx hb dX1_takeTypes_111 hl (k := 1) rfl (by rw [ez50]; rfl) (by decide) rfl (fun ls hl => ?_)
                refine lv_goto (tgt := 9) hx hb dX1_takeTypes_114 (by decide) ?_
                exact ihlp8 z50 z31 V48 L49 H locs ls (by first | exact om_6575912fbdd9 klp8_0.1 klp8_0.2 f29 hz50 | first | omega | ((try (have i_t17 := Imp.go t17 (by omega))); (try (have i_t16 := Imp.go t16 (by omega))); (try (have i_t16 := Imp.go t16 (by omega))); (try (have i_t17 := Imp.go t17 (by omega))); omega)) (by first | exact om_a70d25fae593 hn hz50 | first | omega | ((try (have i_t17 := Imp.go t17 (by omega))); (try (have i_t16 := Imp.go t16 (by omega))); (try (have i_t16 := Imp.go t16 (by omega))); (try (have i_t17 := Imp.go t17 (by omega))); omega)) alL49 (agr.tr (agr.tr (agr.up (agr.tr (agr.tr agr.rf ajV6 (by decide) (by decide)) ajV18 (by decide) (by decide)) hV36 rfl) ajV41 (by decide) (by decide)) ajV48 (by decide) (by decide)) hMV48 hP hD hS (lv_sub hl [0, 1, 2] rfl)
              · skip
                have f51 : ((V41 6 9)).toInt ≠ 44 := b_neq rfl (by decide) c43
                refine lv_iconst (v := 1) hx hb dX1_takeTypes_102 (by decide) ?_
                have pq52 : (V41 1 3).toInt = ((V18 1 3)).toInt := congrArg Int32.toInt ((ajV41 1 3 rfl).trans (up2_k hV36 (by decide)))
                exact W.zret (v := 1) hx hb hr rfl (fun t ht hW => ⟨⟨1, (V41, L42), rfl, ⟨hMV41, agV41, alL42, (by decide), (Imp.mk (fun hp => absurd hp (by decide)))⟩, by rw [ht]; exact hP, va_K.moved hW.alike hK, hD⟩, hS.F ht⟩) hS.2.2 dX1_takeTypes_103
            · skip
              have f53 : y4.toInt = 6 := b_eq rfl (by decide) c28
              refine lv_aload_n hx hb dX1_takeTypes_47 rfl (lv_at hl 2 rfl) ?_
              refine lv_iconst (v := 5) hx hb dX1_takeTypes_48 (by decide) ?_
              have r54 : Int32.toInt 5 = 5 := by decide
              refine gA_int (gA_runV (As := [.int 5]) (rest := []) (ci := 1) (q0 := 1) hx hb hml hown hg hP hD hK hS hA hnw hgk (x_wrong l D ks H.size ad kk V18 L7 Z 5 hMV18 (by decide)) w867 w869 w6 w162 w870 rfl xgReader hdV_yX1_wrong ⟨Nat.le_of_ble_eq_true rfl, Nat.le_of_ble_eq_true rfl⟩ rfl hl.1 rfl (Nat.le_of_ble_eq_true rfl) dX1_takeTypes_49 ⟨Nat.le_of_ble_eq_true rfl, Nat.le_of_ble_eq_true rfl⟩) hP hD hK hS hA (fun z55 u56 H locs w57 hP hD hK hS => ?_)
              obtain ⟨V59, L60⟩ := u56
              obtain ⟨hMV59, ajV59, axL60, rgz55, t58⟩ := w57
              have axL60 : L7 = L60 := Eq.symm axL60
              subst axL60
              have hP : va_P D vwCl (xw ad kk V59 L7 Z) H := hP
              have hD : va_D A (xw ad kk V59 L7 Z) := hD
              have hMV59 : rgd bX V59 := hMV59
              have ajV59 : agr [(1, 3)] [] V18 V59 := ajV59
              have agV59 : agr [(1, 3), (1, 6), (1, 7), (6, 8), (6, 9), (6, 10)] [] V V59 := agV18.tr ajV59 (by decide) (by decide)
              have rgz55 : 0 ≤ z55.toInt ∧ z55.toInt ≤ 0 := rgz55
              have t58 : 1 ≤ (V59 1 3).toInt := t58
              exact W.zret (v := z55) hx hb hr (nb_ok (by omega)) (fun t ht hW => ⟨⟨z55, (V59, L7), rfl, ⟨hMV59, agV59, alL7, (show 0 ≤ z55.toInt ∧ z55.toInt ≤ 1 from by first | exact om_641b3f05f166 rgz55.1 rgz55.2 | first | omega | ((try (have i_t17 := Imp.go t17 (by omega))); (try (have i_t16 := Imp.go t16 (by omega))); (try (have i_t16 := Imp.go t16 (by omega))); (try (have i_t17 := Imp.go t17 (by omega))); omega)), (Imp.mk (fun hp => have hp : z55.toInt = 0 := hp; (show 1 ≤ (V59 1 3).toInt from by first | exact om_f8d8213eda45 t58 | first | omega | ((try (have i_t17 := Imp.go t17 (by omega))); (try (have i_t16 := Imp.go t16 (by omega))); (try (have i_t16 := Imp.go t16 (by omega))); (try (have i_t17 := Imp.go t17 (by omega))); omega))))⟩, by rw [ht]; exact hP, va_K.moved hW.alike hK, hD⟩, hS.F ht⟩) hS.2.2 dX1_takeTypes_52
          · skip
            have f61 : z25.toInt ≠ 0 := b_neq rfl (by decide) c26
            refine lv_aload_n hx hb dX1_takeTypes_35 rfl (lv_at hl 2 rfl) ?_
            refine lv_iconst (v := 3) hx hb dX1_takeTypes_36 (by decide) ?_
            have r62 : Int32.toInt 3 = 3 := by decide
            refine gA_int (gA_runV (As := [.int 3]) (rest := []) (ci := 1) (q0 := 1) hx hb hml hown hg hP hD hK hS hA hnw hgk (x_wrong l D ks H.size ad kk V18 L7 Z 3 hMV18 (by decide)) w867 w869 w6 w162 w870 rfl xgReader hdV_yX1_wrong ⟨Nat.le_of_ble_eq_true rfl, Nat.le_of_ble_eq_true rfl⟩ rfl hl.1 rfl (Nat.le_of_ble_eq_true rfl) dX1_takeTypes_37 ⟨Nat.le_of_ble_eq_true rfl, Nat.le_of_ble_eq_true rfl⟩) hP hD hK hS hA (fun z63 u64 H locs w65 hP hD hK hS => ?_)
            obtain ⟨V67, L68⟩ := u64
            obtain ⟨hMV67, ajV67, axL68, rgz63, t66⟩ := w65
            have axL68 : L7 = L68 := Eq.symm axL68
            subst axL68
            have hP : va_P D vwCl (xw ad kk V67 L7 Z) H := hP
            have hD : va_D A (xw ad kk V67 L7 Z) := hD
            have hMV67 : rgd bX V67 := hMV67
            have ajV67 : agr [(1, 3)] [] V18 V67 := ajV67
            have agV67 : agr [(1, 3), (1, 6), (1, 7), (6, 8), (6, 9), (6, 10)] [] V V67 := agV18.tr ajV67 (by decide) (by decide)
            have rgz63 : 0 ≤ z63.toInt ∧ z63.toInt ≤ 0 := rgz63
            have t66 : 1 ≤ (V67 1 3).toInt := t66
            exact W.zret (v := z63) hx hb hr (nb_ok (by omega)) (fun t ht hW => ⟨⟨z63, (V67, L7), rfl, ⟨hMV67, agV67, alL7, (show 0 ≤ z63.toInt ∧ z63.toInt ≤ 1 from by first | exact om_641b3f05f166 rgz63.1 rgz63.2 | first | omega | ((try (have i_t17 := Imp.go t17 (by omega))); (try (have i_t16 := Imp.go t16 (by omega))); (try (have i_t16 := Imp.go t16 (by omega))); (try (have i_t17 := Imp.go t17 (by omega))); omega)), (Imp.mk (fun hp => have hp : z63.toInt = 0 := hp; (show 1 ≤ (V67 1 3).toInt from by first | exact om_f8d8213eda45 t66 | first | omega | ((try (have i_t17 := Imp.go t17 (by omega))); (try (have i_t16 := Imp.go t16 (by omega))); (try (have i_t16 := Imp.go t16 (by omega))); (try (have i_t17 := Imp.go t17 (by omega))); omega))))⟩, by rw [ht]; exact hP, va_K.moved hW.alike hK, hD⟩, hS.F ht⟩) hS.2.2 dX1_takeTypes_40
        · skip
          have f69 : z13.toInt = 0 := b_eq rfl (by decide) c21
          refine lv_iconst (v := 0) hx hb dX1_takeTypes_22 (by decide) ?_
          exact W.zret (v := 0) hx hb hr rfl (fun t ht hW => ⟨⟨0, (V18, L7), rfl, ⟨hMV18, agV18, alL7, (by decide), (Imp.mk (fun _ => (show 1 ≤ (V18 1 3).toInt from by first | exact om_f8d8213eda45 ((Imp.go t17 (f69))) | first | omega | ((try (have i_t17 := Imp.go t17 (by omega))); (try (have i_t16 := Imp.go t16 (by omega))); (try (have i_t16 := Imp.go t16 (by omega))); (try (have i_t17 := Imp.go t17 (by omega))); omega))))⟩, by rw [ht]; exact hP, va_K.moved hW.alike hK, hD⟩, hS.F ht⟩) hS.2.2 dX1_takeTypes_23
  have r70 : Int32.toInt 0 = 0 := by decide
  exact lp8 ((7 - (Int32.toInt 0) + 1 : Int).toNat) 0 0 V2 L H locs ls (by decide) (by (first | exact om_315b81f799cb | omega)) alL agr.rf hMV2 hP hD hS (lv_sub hl [0, 1, 2] rfl)
abbrev r_x_beginsPart : Room := { frames := 0, cells := 0, slots := 0, locals := 0 }
abbrev q_x_beginsPart (D : va_G) (ks : KS) (ad : Nat → Nat) (kk : Nat → ClassId) (V : Vf) (L : Lf) (Z : XZ) (A : Nat → Prop) : Array Value → State → Outcome → State → Prop := va_Qi (fun (r : Int32) (_ : Unit) => (0 ≤ r.toInt ∧ r.toInt ≤ 1)) (fun _ t => gq D A (xw ad kk V L Z) (xty kk Z) t) A
set_option maxHeartbeats 4000000 in
set_option maxRecDepth 100000 in
theorem x_beginsPart (l : Launch) (D : va_G) (ks : KS) (sz : Nat) (ad : Nat → Nat) (kk : Nat → ClassId) (V : Vf) (L : Lf) (Z : XZ)  (hMV : rgd bX V)  : Met l yX1_beginsPart (Cond.code yX1_beginsPart cX1_beginsPart 1 (some .boolean) :: GW) r_x_beginsPart (va_Pc [.ref (ad 1)] (gp D ks (xw ad kk V L Z) (xty kk Z) sz)) (q_x_beginsPart D ks ad kk V L Z  (va_A (xw ad kk V L Z) sz)) 0 0 (va_A (xw ad kk V L Z) sz) := by
  refine g_met (q_x_beginsPart D ks ad kk V L Z) (by decide) (Nat.le_of_ble_eq_true rfl) ?_
  intro p e s m below meth c A ls H locs hx hb hr hml hown hg hlocks hin hnw hgk hP hK hD hS hA hl
  have hown : s.vm.findClass RX1 = some m.cls := hown
  have hl : lv_has ls 1 [(0, .ref (ad 1))] := hl
  have hP : va_P D vwCl (xw ad kk V L Z) H := hP
  have hD : va_D A (xw ad kk V L Z) := hD
  have hK : va_K D vwCl (xty kk Z) s := hK
  refine lv_aload_n hx hb dX1_beginsPart_0 rfl (lv_at hl 0 rfl) ?_
  refine va_get (D := D) (ci := 1) (v := .ref (ad 6)) (fs := (xfReader ad V L Z)) (C := RX1) (T := TX1) (N := 9) hx hb hg inX1 hown hK hP 1 xgReader rfl 0 (by decide) (hg _ w304) (fun _ h9 => h9) rfl dX1_beginsPart_1 ?_
  refine va_getN (D := D) (ci := 9) (v := .int (V 6 9)) (fs := (xfTape ad V L Z)) (C := RX9) (T := TX9) (N := 12) hx hb hg inX9 hown hK hP 6 xgTape rfl 9 (by decide) (hnw.use 262 n262 rfl) (fun _ h9 => h9) rfl dX1_beginsPart_4 ?_
  by_cases q1 : (V 6 9) = 2
  · refine g_top (v := 2) q1 ?_
    have fq1 : ((V 6 9)).toInt = 2 := b_eq rfl (by decide) q1
    refine lv_lookup (x := 2) (off := 81) (tgt := 88) hx hb dX1_beginsPart_7 (by decide) (by decide) (by decide) ?_
    refine lv_iconst (v := 1) hx hb dX1_beginsPart_88 (by decide) ?_
    exact W.zret (v := 1) hx hb hr rfl (fun t ht hW => ⟨⟨1, (), rfl, (by decide), by rw [ht]; exact hP, va_K.moved hW.alike hK, hD⟩, hS.F ht⟩) hS.2.2 dX1_beginsPart_89
  by_cases q2 : (V 6 9) = 40
  · refine g_top (v := 40) q2 ?_
    have fq2 : ((V 6 9)).toInt = 40 := b_eq rfl (by decide) q2
    refine lv_lookup (x := 40) (off := 81) (tgt := 88) hx hb dX1_beginsPart_7 (by decide) (by decide) (by decide) ?_
    refine lv_iconst (v := 1) hx hb dX1_beginsPart_88 (by decide) ?_
    exact W.zret (v := 1) hx hb hr rfl (fun t ht hW => ⟨⟨1, (), rfl, (by decide), by rw [ht]; exact hP, va_K.moved hW.alike hK, hD⟩, hS.F ht⟩) hS.2.2 dX1_beginsPart_89
  by_cases q3 : (V 6 9) = 45
  · refine g_top (v := 45) q3 ?_
    have fq3 : ((V 6 9)).toInt = 45 := b_eq rfl (by decide) q3
    refine lv_lookup (x := 45) (off := 81) (tgt := 88) hx hb dX1_beginsPart_7 (by decide) (by decide) (by decide) ?_
    refine lv_iconst (v := 1) hx hb dX1_beginsPart_88 (by decide) ?_
    exact W.zret (v := 1) hx hb hr rfl (fun t ht hW => ⟨⟨1, (), rfl, (by decide), by rw [ht]; exact hP, va_K.moved hW.alike hK, hD⟩, hS.F ht⟩) hS.2.2 dX1_beginsPart_89
  by_cases q4 : (V 6 9) = 130
  · refine g_top (v := 130) q4 ?_
    have fq4 : ((V 6 9)).toInt = 130 := b_eq rfl (by decide) q4
    refine lv_lookup (x := 130) (off := 81) (tgt := 88) hx hb dX1_beginsPart_7 (by decide) (by decide) (by decide) ?_
    refine lv_iconst (v := 1) hx hb dX1_beginsPart_88 (by decide) ?_
    exact W.zret (v := 1) hx hb hr rfl (fun t ht hW => ⟨⟨1, (), rfl, (by decide), by rw [ht]; exact hP, va_K.moved hW.alike hK, hD⟩, hS.F ht⟩) hS.2.2 dX1_beginsPart_89
  by_cases q5 : (V 6 9) = 143
  · refine g_top (v := 143) q5 ?_
    have fq5 : ((V 6 9)).toInt = 143 := b_eq rfl (by decide) q5
    refine lv_lookup (x := 143) (off := 81) (tgt := 88) hx hb dX1_beginsPart_7 (by decide) (by decide) (by decide) ?_
    refine lv_iconst (v := 1) hx hb dX1_beginsPart_88 (by decide) ?_
    exact W.zret (v := 1) hx hb hr rfl (fun t ht hW => ⟨⟨1, (), rfl, (by decide), by rw [ht]; exact hP, va_K.moved hW.alike hK, hD⟩, hS.F ht⟩) hS.2.2 dX1_beginsPart_89
  by_cases q6 : (V 6 9) = 144
  · refine g_top (v := 144) q6 ?_
    have fq6 : ((V 6 9)).toInt = 144 := b_eq rfl (by decide) q6
    refine lv_lookup (x := 144) (off := 81) (tgt := 88) hx hb dX1_beginsPart_7 (by decide) (by decide) (by decide) ?_
    refine lv_iconst (v := 1) hx hb dX1_beginsPart_88 (by decide) ?_
    exact W.zret (v := 1) hx hb hr rfl (fun t ht hW => ⟨⟨1, (), rfl, (by decide), by rw [ht]; exact hP, va_K.moved hW.alike hK, hD⟩, hS.F ht⟩) hS.2.2 dX1_beginsPart_89
  by_cases q7 : (V 6 9) = 145
  · refine g_top (v := 145) q7 ?_
    have fq7 : ((V 6 9)).toInt = 145 := b_eq rfl (by decide) q7
    refine lv_lookup (x := 145) (off := 81) (tgt := 88) hx hb dX1_beginsPart_7 (by decide) (by decide) (by decide) ?_
    refine lv_iconst (v := 1) hx hb dX1_beginsPart_88 (by decide) ?_
    exact W.zret (v := 1) hx hb hr rfl (fun t ht hW => ⟨⟨1, (), rfl, (by decide), by rw [ht]; exact hP, va_K.moved hW.alike hK, hD⟩, hS.F ht⟩) hS.2.2 dX1_beginsPart_89
  by_cases q8 : (V 6 9) = 146
  · refine g_top (v := 146) q8 ?_
    have fq8 : ((V 6 9)).toInt = 146 := b_eq rfl (by decide) q8
    refine lv_lookup (x := 146) (off := 83) (tgt := 90) hx hb dX1_beginsPart_7 (by decide) (by decide) (by decide) ?_
    refine lv_aload_n hx hb dX1_beginsPart_90 rfl (lv_at hl 0 rfl) ?_
    refine va_get (D := D) (ci := 1) (v := .int (V 1 4)) (fs := (xfReader ad V L Z)) (C := RX1) (T := TX1) (N := 9) hx hb hg inX1 hown hK hP 1 xgReader rfl 4 (by decide) (hg _ w308) (fun _ h9 => h9) rfl dX1_beginsPart_91 ?_
    have r9 : 0 ≤ ((V 1 4)).toInt ∧ ((V 1 4)).toInt ≤ 2 := hMV 1 4
    refine lv_if_ne (tgt := 101) hx hb dX1_beginsPart_94 (by decide) (fun c10 => ?_) (fun c10 => ?_)
    · skip
      have f11 : ((V 1 4)).toInt ≠ 0 := b_neq rfl (by decide) c10
      refine lv_iconst (v := 0) hx hb dX1_beginsPart_101 (by decide) ?_
      exact W.zret (v := 0) hx hb hr rfl (fun t ht hW => ⟨⟨0, (), rfl, (by decide), by rw [ht]; exact hP, va_K.moved hW.alike hK, hD⟩, hS.F ht⟩) hS.2.2 dX1_beginsPart_102
    · skip
      have f12 : ((V 1 4)).toInt = 0 := b_eq rfl (by decide) c10
      refine lv_iconst (v := 1) hx hb dX1_beginsPart_97 (by decide) ?_
      refine lv_goto (tgt := 102) hx hb dX1_beginsPart_98 (by decide) ?_
      exact W.zret (v := 1) hx hb hr rfl (fun t ht hW => ⟨⟨1, (), rfl, (by decide), by rw [ht]; exact hP, va_K.moved hW.alike hK, hD⟩, hS.F ht⟩) hS.2.2 dX1_beginsPart_102
  by_cases q13 : (V 6 9) = 147
  · refine g_top (v := 147) q13 ?_
    have fq13 : ((V 6 9)).toInt = 147 := b_eq rfl (by decide) q13
    refine lv_lookup (x := 147) (off := 96) (tgt := 103) hx hb dX1_beginsPart_7 (by decide) (by decide) (by decide) ?_
    refine lv_aload_n hx hb dX1_beginsPart_103 rfl (lv_at hl 0 rfl) ?_
    refine va_get (D := D) (ci := 1) (v := .int (V 1 4)) (fs := (xfReader ad V L Z)) (C := RX1) (T := TX1) (N := 9) hx hb hg inX1 hown hK hP 1 xgReader rfl 4 (by decide) (hg _ w308) (fun _ h9 => h9) rfl dX1_beginsPart_104 ?_
    have r14 : 0 ≤ ((V 1 4)).toInt ∧ ((V 1 4)).toInt ≤ 2 := hMV 1 4
    refine lv_iconst (v := 2) hx hb dX1_beginsPart_107 (by decide) ?_
    refine lv_icmp_ne (tgt := 115) hx hb dX1_beginsPart_108 (by decide) (fun c15 => ?_) (fun c15 => ?_)
    · skip
      have f16 : ((V 1 4)).toInt ≠ 2 := b_neq rfl (by decide) c15
      refine lv_iconst (v := 0) hx hb dX1_beginsPart_115 (by decide) ?_
      exact W.zret (v := 0) hx hb hr rfl (fun t ht hW => ⟨⟨0, (), rfl, (by decide), by rw [ht]; exact hP, va_K.moved hW.alike hK, hD⟩, hS.F ht⟩) hS.2.2 dX1_beginsPart_116
    · skip
      have f17 : ((V 1 4)).toInt = 2 := b_eq rfl (by decide) c15
      refine lv_iconst (v := 1) hx hb dX1_beginsPart_111 (by decide) ?_
      refine lv_goto (tgt := 116) hx hb dX1_beginsPart_112 (by decide) ?_
      exact W.zret (v := 1) hx hb hr rfl (fun t ht hW => ⟨⟨1, (), rfl, (by decide), by rw [ht]; exact hP, va_K.moved hW.alike hK, hD⟩, hS.F ht⟩) hS.2.2 dX1_beginsPart_116
  refine lv_lookup (x := (V 6 9)) (off := 110) (tgt := 117) hx hb dX1_beginsPart_7 (by decide) ((lv_osw q1 (by decide)).trans ((lv_osw q2 (by decide)).trans ((lv_osw q3 (by decide)).trans ((lv_osw q4 (by decide)).trans ((lv_osw q5 (by decide)).trans ((lv_osw q6 (by decide)).trans ((lv_osw q7 (by decide)).trans ((lv_osw q8 (by decide)).trans ((lv_osw q13 (by decide)).trans rfl))))))))) (by decide) ?_
  have gq1 : ((V 6 9)).toInt ≠ 2 := b_neq rfl (by decide) q1
  have gq2 : ((V 6 9)).toInt ≠ 40 := b_neq rfl (by decide) q2
  have gq3 : ((V 6 9)).toInt ≠ 45 := b_neq rfl (by decide) q3
  have gq4 : ((V 6 9)).toInt ≠ 130 := b_neq rfl (by decide) q4
  have gq5 : ((V 6 9)).toInt ≠ 143 := b_neq rfl (by decide) q5
  have gq6 : ((V 6 9)).toInt ≠ 144 := b_neq rfl (by decide) q6
  have gq7 : ((V 6 9)).toInt ≠ 145 := b_neq rfl (by decide) q7
  have gq8 : ((V 6 9)).toInt ≠ 146 := b_neq rfl (by decide) q8
  have gq13 : ((V 6 9)).toInt ≠ 147 := b_neq rfl (by decide) q13
  refine lv_iconst (v := 0) hx hb dX1_beginsPart_117 (by decide) ?_
  exact W.zret (v := 0) hx hb hr rfl (fun t ht hW => ⟨⟨0, (), rfl, (by decide), by rw [ht]; exact hP, va_K.moved hW.alike hK, hD⟩, hS.F ht⟩) hS.2.2 dX1_beginsPart_118
abbrev r_x_putAlone : Room := { frames := 1, cells := 0, slots := 0, locals := 21 }
abbrev q_x_putAlone (D : va_G) (ks : KS) (ad : Nat → Nat) (kk : Nat → ClassId) (V : Vf) (L : Lf) (Z : XZ) (p0 : Int32) (b : Nat) (A : Nat → Prop) : Array Value → State → Outcome → State → Prop := va_Qi (fun (r : Int32) (u : Vf × Lf) => rgd bX u.1 ∧ agr [] [42, 48] V u.1 ∧ u.2 = L ∧ frX (xR b) V u.1 ∧ (1 ≤ r.toInt ∧ r.toInt ≤ 1) ∧ (CD u.1 b) ∧ (px V u.1 b)) (fun u t => gq D A (xw ad kk u.1 u.2 Z) (xty kk Z) t) A
set_option maxHeartbeats 4000000 in
set_option maxRecDepth 100000 in
theorem x_putAlone (l : Launch) (D : va_G) (ks : KS) (sz : Nat) (ad : Nat → Nat) (kk : Nat → ClassId) (V : Vf) (L : Lf) (Z : XZ) (p0 : Int32) (b : Nat) (hMV : rgd bX V) (rg_p0 : 0 ≤ p0.toInt ∧ p0.toInt ≤ 9) (hb2 : b < 2) (rbk : (V 1 1).toInt = (b : Int)) (cd : CD V b)  : Met l yX1_putAlone (Cond.code yX1_putAlone cX1_putAlone 2 (some .boolean) :: GW) r_x_putAlone (va_Pc [.ref (ad 1), .int p0] (gp D ks (xw ad kk V L Z) (xty kk Z) sz)) (q_x_putAlone D ks ad kk V L Z p0 b (va_A (xw ad kk V L Z) sz)) 0 0 (va_A (xw ad kk V L Z) sz) := by
  refine g_met (q_x_putAlone D ks ad kk V L Z p0 b) (by decide) (Nat.le_of_ble_eq_true rfl) ?_
  intro p e s m below meth c A ls H locs hx hb hr hml hown hg hlocks hin hnw hgk hP hK hD hS hA hl
  have hown : s.vm.findClass RX1 = some m.cls := hown
  have hl : lv_has ls 2 [(0, .ref (ad 1)), (1, .int p0)] := hl
  have hP : va_P D vwCl (xw ad kk V L Z) H := hP
  have hD : va_D A (xw ad kk V L Z) := hD
  have hK : va_K D vwCl (xty kk Z) s := hK
  have agV : agr [] [42, 48] V V := agr.rf
  have fwV : frX (xR b) V V := frX.rf
  have r1 : (-1) ≤ ((V 1 1)).toInt ∧ ((V 1 1)).toInt ≤ 1 := hMV 1 1
  refine lv_aload_n hx hb dX1_putAlone_0 rfl (lv_at hl 0 rfl) ?_
  refine va_get (D := D) (ci := 1) (v := rfN ad 38 (V 1 1)) (fs := (xfReader ad V L Z)) (C := RX1) (T := TX1) (N := 9) hx hb hg inX1 hown hK hP 1 xgReader rfl 1 (by decide) (hg _ w305) (fun _ h9 => h9) rfl dX1_putAlone_1 ?_
  refine g_topv (v := .ref (ad (38 + b))) (rfN_r (by first | omega | ((try (have i_cd := Imp.go cd (by omega))); omega))) ?_
  refine lv_iload_n hx hb dX1_putAlone_4 rfl (lv_at hl 1 rfl) ?_
  refine gA_void (gA_runV (As := [.int p0]) (rest := []) (ci := 0) (q0 := (38 + b)) hx hb hml hown hg hP hD hK hS hA hnw hgk (x_emit l D ks H.size ad kk V L Z p0 (b) hMV (show b < 2 from by first | exact om_f940a4667dd6 hb2 | first | omega | ((try (have i_cd := Imp.go cd (by omega))); omega))) w971 w972 w973 w167 w974 rfl (xgBook hb2) hdV_yX0_emit ⟨Nat.le_of_ble_eq_true rfl, Nat.le_of_ble_eq_true rfl⟩ rfl hl.1 rfl (Nat.le_of_ble_eq_true rfl) dX1_putAlone_5 ⟨Nat.le_of_ble_eq_true rfl, Nat.le_of_ble_eq_true rfl⟩) hP hD hK hS hA (fun u3 H locs w4 hP hD hK hS => ?_)
  obtain ⟨V6, L7⟩ := u3
  obtain ⟨hMV6, ajV6, axL7, fyV6, t5⟩ := w4
  have axL7 : L = L7 := Eq.symm axL7
  subst axL7
  have hP : va_P D vwCl (xw ad kk V6 L Z) H := hP
  have hD : va_D A (xw ad kk V6 L Z) := hD
  have hMV6 : rgd bX V6 := hMV6
  have ajV6 : agr [] [42, 48] V V6 := ajV6
  have agV6 : agr [] [42, 48] V V6 := agV.tr ajV6 (by decide) (by decide)
  have fwV6 : frX (xR b) V V6 := frX.tr fwV (fyV6)
  have t5 : emX V V6 b p0 := t5
  refine lv_iconst (v := 1) hx hb dX1_putAlone_8 (by decide) ?_
  have cl8 : 0 ≤ (V 42 b).toInt ∧ (V 42 b).toInt ≤ 8200 := hMV 42 b
  have cd9 : CD V6 b := ⟨CB.e1 cd.1 t5 (by omega) (by omega), CO.e1 cd.2 t5 (by omega) (by omega)⟩
  have px10 : px V V6 b := px.tr (px.rf : px V V b) ⟨emX.p0x t5, ajV6 43 _ rfl⟩
  exact W.zret (v := 1) hx hb hr rfl (fun t ht hW => ⟨⟨1, (V6, L), rfl, ⟨hMV6, agV6, rfl, fwV6, (by decide), cd9, px10⟩, by rw [ht]; exact hP, va_K.moved hW.alike hK, hD⟩, hS.F ht⟩) hS.2.2 dX1_putAlone_9
abbrev r_x_put : Room := { frames := 1, cells := 0, slots := 0, locals := 21 }
abbrev q_x_put (D : va_G) (ks : KS) (ad : Nat → Nat) (kk : Nat → ClassId) (V : Vf) (L : Lf) (Z : XZ) (p0 : Int32) (p1 : Int32) (b : Nat) (A : Nat → Prop) : Array Value → State → Outcome → State → Prop := va_Qi (fun (r : Int32) (u : Vf × Lf) => rgd bX u.1 ∧ agr [] [42, 48] V u.1 ∧ u.2 = L ∧ frX (xR b) V u.1 ∧ (1 ≤ r.toInt ∧ r.toInt ≤ 1) ∧ (Imp (p0.toInt = 13 ∨ p0.toInt = 14) (jp u.1 b (V 42 b).toInt.toNat)) ∧ (CD u.1 b) ∧ (px V u.1 b)) (fun u t => gq D A (xw ad kk u.1 u.2 Z) (xty kk Z) t) A
set_option maxHeartbeats 4000000 in
set_option maxRecDepth 100000 in
theorem x_put (l : Launch) (D : va_G) (ks : KS) (sz : Nat) (ad : Nat → Nat) (kk : Nat → ClassId) (V : Vf) (L : Lf) (Z : XZ) (p0 : Int32) (p1 : Int32) (b : Nat) (hMV : rgd bX V) (rg_p0 : 10 ≤ p0.toInt ∧ p0.toInt ≤ 15) (hb2 : b < 2) (rbk : (V 1 1).toInt = (b : Int)) (cd : CD V b) (o1 : Imp (p0.toInt = 11) (0 ≤ p1.toInt ∧ p1.toInt ≤ 11)) (o2 : Imp (p0.toInt = 15) (0 ≤ p1.toInt ∧ p1.toInt ≤ 159)) (o3 : Imp (p0.toInt = 13 ∨ p0.toInt = 14) (p1.toInt = 0))  : Met l yX1_put (Cond.code yX1_put cX1_put 3 (some .boolean) :: GW) r_x_put (va_Pc [.ref (ad 1), .int p0, .int p1] (gp D ks (xw ad kk V L Z) (xty kk Z) sz)) (q_x_put D ks ad kk V L Z p0 p1 b (va_A (xw ad kk V L Z) sz)) 0 0 (va_A (xw ad kk V L Z) sz) := by
  refine g_met (q_x_put D ks ad kk V L Z p0 p1 b) (by decide) (Nat.le_of_ble_eq_true rfl) ?_
  intro p e s m below meth c A ls H locs hx hb hr hml hown hg hlocks hin hnw hgk hP hK hD hS hA hl
  have hown : s.vm.findClass RX1 = some m.cls := hown
  have hl : lv_has ls 3 [(0, .ref (ad 1)), (1, .int p0), (2, .int p1)] := hl
  have hP : va_P D vwCl (xw ad kk V L Z) H := hP
  have hD : va_D A (xw ad kk V L Z) := hD
  have hK : va_K D vwCl (xty kk Z) s := hK
  have agV : agr [] [42, 48] V V := agr.rf
  have fwV : frX (xR b) V V := frX.rf
  have r1 : (-1) ≤ ((V 1 1)).toInt ∧ ((V 1 1)).toInt ≤ 1 := hMV 1 1
  refine lv_aload_n hx hb dX1_put_0 rfl (lv_at hl 0 rfl) ?_
  refine va_get (D := D) (ci := 1) (v := rfN ad 38 (V 1 1)) (fs := (xfReader ad V L Z)) (C := RX1) (T := TX1) (N := 9) hx hb hg inX1 hown hK hP 1 xgReader rfl 1 (by decide) (hg _ w305) (fun _ h9 => h9) rfl dX1_put_1 ?_
  refine g_topv (v := .ref (ad (38 + b))) (rfN_r (by first | omega | ((try (have i_o3 := Imp.go o3 (by omega))); (try (have i_o2 := Imp.go o2 (by omega))); (try (have i_o1 := Imp.go o1 (by omega))); (try (have i_cd := Imp.go cd (by omega))); first | omega | ((try (have i_cd := Imp.go cd (by omega))); (try (have i_o1 := Imp.go o1 (by omega))); (try (have i_o2 := Imp.go o2 (by omega))); (try (have i_o3 := Imp.go o3 (by omega))); omega)))) ?_
  refine lv_iload_n hx hb dX1_put_4 rfl (lv_at hl 1 rfl) ?_
  refine gA_void (gA_runV (As := [.int p0]) (rest := []) (ci := 0) (q0 := (38 + b)) hx hb hml hown hg hP hD hK hS hA hnw hgk (x_emit l D ks H.size ad kk V L Z p0 (b) hMV (show b < 2 from by first | exact om_f940a4667dd6 hb2 | first | omega | ((try (have i_o3 := Imp.go o3 (by omega))); (try (have i_o2 := Imp.go o2 (by omega))); (try (have i_o1 := Imp.go o1 (by omega))); (try (have i_cd := Imp.go cd (by omega))); first | omega | ((try (have i_cd := Imp.go cd (by omega))); (try (have i_o1 := Imp.go o1 (by omega))); (try (have i_o2 := Imp.go o2 (by omega))); (try (have i_o3 := Imp.go o3 (by omega))); omega)))) w971 w972 w973 w167 w974 rfl (xgBook hb2) hdV_yX0_emit ⟨Nat.le_of_ble_eq_true rfl, Nat.le_of_ble_eq_true rfl⟩ rfl hl.1 rfl (Nat.le_of_ble_eq_true rfl) dX1_put_5 ⟨Nat.le_of_ble_eq_true rfl, Nat.le_of_ble_eq_true rfl⟩) hP hD hK hS hA (fun u3 H locs w4 hP hD hK hS => ?_)
  obtain ⟨V6, L7⟩ := u3
  obtain ⟨hMV6, ajV6, axL7, fyV6, t5⟩ := w4
  have axL7 : L = L7 := Eq.symm axL7
  subst axL7
  have hP : va_P D vwCl (xw ad kk V6 L Z) H := hP
  have hD : va_D A (xw ad kk V6 L Z) := hD
  have hMV6 : rgd bX V6 := hMV6
  have ajV6 : agr [] [42, 48] V V6 := ajV6
  have agV6 : agr [] [42, 48] V V6 := agV.tr ajV6 (by decide) (by decide)
  have fwV6 : frX (xR b) V V6 := frX.tr fwV (fyV6)
  have t5 : emX V V6 b p0 := t5
  refine lv_aload_n hx hb dX1_put_8 rfl (lv_at hl 0 rfl) ?_
  refine va_get (D := D) (ci := 1) (v := rfN ad 38 (V6 1 1)) (fs := (xfReader ad V6 L Z)) (C := RX1) (T := TX1) (N := 9) hx hb hg inX1 hown hK hP 1 xgReader rfl 1 (by decide) (hg _ w305) (fun _ h9 => h9) rfl dX1_put_9 ?_
  have pq8 : (V6 1 1).toInt = ((V 1 1)).toInt := congrArg Int32.toInt (ajV6 1 1 rfl)
  refine g_topv (v := .ref (ad (38 + b))) (rfN_r (by first | omega | ((try (have i_o3 := Imp.go o3 (by omega))); (try (have i_o2 := Imp.go o2 (by omega))); (try (have i_o1 := Imp.go o1 (by omega))); (try (have i_cd := Imp.go cd (by omega))); first | omega | ((try (have i_cd := Imp.go cd (by omega))); (try (have i_o1 := Imp.go o1 (by omega))); (try (have i_o2 := Imp.go o2 (by omega))); (try (have i_o3 := Imp.go o3 (by omega))); omega)))) ?_
  refine lv_iload_n hx hb dX1_put_12 rfl (lv_at hl 2 rfl) ?_
  refine gA_void (gA_runV (As := [.int p1]) (rest := []) (ci := 0) (q0 := (38 + b)) hx hb hml hown hg hP hD hK hS hA hnw hgk (x_emit l D ks H.size ad kk V6 L Z p1 (b) hMV6 (show b < 2 from by first | exact om_f940a4667dd6 hb2 | first | omega | ((try (have i_o3 := Imp.go o3 (by omega))); (try (have i_o2 := Imp.go o2 (by omega))); (try (have i_o1 := Imp.go o1 (by omega))); (try (have i_cd := Imp.go cd (by omega))); first | omega | ((try (have i_cd := Imp.go cd (by omega))); (try (have i_o1 := Imp.go o1 (by omega))); (try (have i_o2 := Imp.go o2 (by omega))); (try (have i_o3 := Imp.go o3 (by omega))); omega)))) w971 w972 w973 w167 w974 rfl (xgBook hb2) hdV_yX0_emit ⟨Nat.le_of_ble_eq_true rfl, Nat.le_of_ble_eq_true rfl⟩ rfl hl.1 rfl (Nat.le_of_ble_eq_true rfl) dX1_put_13 ⟨Nat.le_of_ble_eq_true rfl, Nat.le_of_ble_eq_true rfl⟩) hP hD hK hS hA (fun u10 H locs w11 hP hD hK hS => ?_)
  obtain ⟨V13, L14⟩ := u10
  obtain ⟨hMV13, ajV13, axL14, fyV13, t12⟩ := w11
  have axL14 : L = L14 := Eq.symm axL14
  subst axL14
  have hP : va_P D vwCl (xw ad kk V13 L Z) H := hP
  have hD : va_D A (xw ad kk V13 L Z) := hD
  have hMV13 : rgd bX V13 := hMV13
  have ajV13 : agr [] [42, 48] V6 V13 := ajV13
  have agV13 : agr [] [42, 48] V V13 := agV6.tr ajV13 (by decide) (by decide)
  have fwV13 : frX (xR b) V V13 := frX.tr fwV6 (fyV13)
  have t12 : emX V6 V13 b p1 := t12
  refine lv_iconst (v := 1) hx hb dX1_put_16 (by decide) ?_
  have cl15 : 0 ≤ (V 42 b).toInt ∧ (V 42 b).toInt ≤ 8200 := hMV 42 b
  have rp16 : Imp (p0.toInt = 13 ∨ p0.toInt = 14) (jp V13 b (V 42 b).toInt.toNat) := Imp.mk (fun hp => jp.mk cd.1 t5 t12 (by (first | exact om_eafa9039069c cl15.1 | omega)) hp)
  have cd17 : CD V13 b := ⟨CB.e2 cd.1 t5 t12 (by omega) (by omega) (by omega) ⟨fun q => Imp.go o1 q, fun q => Imp.go o2 q, fun q => Imp.go o3 q⟩, CO.e2 cd.2 cd.1 t5 t12 (by omega) (by omega) (by omega)⟩
  have px18 : px V V6 b := px.tr (px.rf : px V V b) ⟨emX.p0x t5, ajV6 43 _ rfl⟩
  have px19 : px V V13 b := px.tr px18 ⟨emX.p0x t12, ajV13 43 _ rfl⟩
  exact W.zret (v := 1) hx hb hr rfl (fun t ht hW => ⟨⟨1, (V13, L), rfl, ⟨hMV13, agV13, rfl, fwV13, (by decide), rp16, cd17, px19⟩, by rw [ht]; exact hP, va_K.moved hW.alike hK, hD⟩, hS.F ht⟩) hS.2.2 dX1_put_17
end
