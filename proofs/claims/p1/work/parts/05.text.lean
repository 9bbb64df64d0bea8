theorem w221 : Cond.fieldLink RJ0 1053 "jdk/internal/util/Preconditions" "SIOOBE_FORMATTER" "Ljava/util/function/BiFunction;" ∈ GW := gw_mem 221 (by decide +kernel) rfl
theorem w225 : Cond.code yJ3_checkIndex_8e157 cJ3_checkIndex_8e157 3 (some .int) ∈ GW := gw_mem 225 (by decide +kernel) rfl
theorem hdS_yJ3_checkIndex_8e157 : yJ3_checkIndex_8e157.cls ≠ "java/lang/invoke/MethodHandle" ∧ yJ3_checkIndex_8e157.cls ≠ "java/lang/invoke/VarHandle" ∧ (parseMethodDescriptor yJ3_checkIndex_8e157.desc).map (fun d => d.parameters.length) = some 3 := by decide +kernel
theorem w160 : Cond.initialized RJ3 ∈ GW := gw_mem 160 (by decide +kernel) rfl
theorem w223 : Cond.methodLink RJ0 1059 yJ3_checkIndex_8e157 ∈ GW := gw_mem 223 (by decide +kernel) rfl
theorem w224 : Cond.static yJ3_checkIndex_8e157 ∈ GW := gw_mem 224 (by decide +kernel) rfl
theorem w220 : Cond.code yJ0_checkIndex_df160 cJ0_checkIndex_df160 2 none ∈ GW := gw_mem 220 (by decide +kernel) rfl
theorem hdS_yJ0_checkIndex_df160 : yJ0_checkIndex_df160.cls ≠ "java/lang/invoke/MethodHandle" ∧ yJ0_checkIndex_df160.cls ≠ "java/lang/invoke/VarHandle" ∧ (parseMethodDescriptor yJ0_checkIndex_df160.desc).map (fun d => d.parameters.length) = some 2 := by decide +kernel
theorem w158 : Cond.initialized RJ0 ∈ GW := gw_mem 158 (by decide +kernel) rfl
theorem w218 : Cond.methodLink RJ1 9 yJ0_checkIndex_df160 ∈ GW := gw_mem 218 (by decide +kernel) rfl
theorem w219 : Cond.static yJ0_checkIndex_df160 ∈ GW := gw_mem 219 (by decide +kernel) rfl
theorem w205 : Cond.fieldLink RJ0 38 "java/lang/String" "COMPACT_STRINGS" "Z" ∈ GW := gw_mem 205 (by decide +kernel) rfl
theorem w2403 : Cond.fieldLink RJ0 15 "java/lang/String" "coder" "B" ∈ GW := gw_mem 2403 (by decide +kernel) rfl
theorem w2402 : Cond.fieldLink RJ0 9 "java/lang/String" "value" "[B" ∈ GW := gw_mem 2402 (by decide +kernel) rfl
theorem w204 : Cond.code yJ0_coder_7d493 cJ0_coder_7d493 1 (some .byte) ∈ GW := gw_mem 204 (by decide +kernel) rfl
theorem w201 : Cond.methodLink RJ0 335 yJ0_coder_7d493 ∈ GW := gw_mem 201 (by decide +kernel) rfl
theorem w202 : Cond.instanceMethod yJ0_coder_7d493 ∈ GW := gw_mem 202 (by decide +kernel) rfl
theorem w203 : Cond.selects RJ0 yJ0_coder_7d493 yJ0_coder_7d493 ∈ GW := gw_mem 203 (by decide +kernel) rfl
theorem hdV_yJ0_coder_7d493 : yJ0_coder_7d493.cls = RJ0 ∧ yJ0_coder_7d493.cls ≠ "java/lang/invoke/MethodHandle" ∧ yJ0_coder_7d493.cls ≠ "java/lang/invoke/VarHandle" ∧ (parseMethodDescriptor yJ0_coder_7d493.desc).map (fun d => d.parameters.length) = some 0 := by decide +kernel
theorem w214 : Cond.code yJ0_isLatin1_aae02 cJ0_isLatin1_aae02 1 (some .boolean) ∈ GW := gw_mem 214 (by decide +kernel) rfl
theorem w211 : Cond.methodLink RJ0 492 yJ0_isLatin1_aae02 ∈ GW := gw_mem 211 (by decide +kernel) rfl
theorem w212 : Cond.instanceMethod yJ0_isLatin1_aae02 ∈ GW := gw_mem 212 (by decide +kernel) rfl
theorem w213 : Cond.selects RJ0 yJ0_isLatin1_aae02 yJ0_isLatin1_aae02 ∈ GW := gw_mem 213 (by decide +kernel) rfl
theorem hdV_yJ0_isLatin1_aae02 : yJ0_isLatin1_aae02.cls = RJ0 ∧ yJ0_isLatin1_aae02.cls ≠ "java/lang/invoke/MethodHandle" ∧ yJ0_isLatin1_aae02.cls ≠ "java/lang/invoke/VarHandle" ∧ (parseMethodDescriptor yJ0_isLatin1_aae02.desc).map (fun d => d.parameters.length) = some 0 := by decide +kernel
theorem w217 : Cond.code yJ1_charAt_3b067 cJ1_charAt_3b067 2 (some .char) ∈ GW := gw_mem 217 (by decide +kernel) rfl
theorem hdS_yJ1_charAt_3b067 : yJ1_charAt_3b067.cls ≠ "java/lang/invoke/MethodHandle" ∧ yJ1_charAt_3b067.cls ≠ "java/lang/invoke/VarHandle" ∧ (parseMethodDescriptor yJ1_charAt_3b067.desc).map (fun d => d.parameters.length) = some 2 := by decide +kernel
theorem w159 : Cond.initialized RJ1 ∈ GW := gw_mem 159 (by decide +kernel) rfl
theorem w215 : Cond.methodLink RJ0 495 yJ1_charAt_3b067 ∈ GW := gw_mem 215 (by decide +kernel) rfl
theorem w216 : Cond.static yJ1_charAt_3b067 ∈ GW := gw_mem 216 (by decide +kernel) rfl
theorem dJ3_checkIndex_8e157_0 : decode cJ3_checkIndex_8e157 0 = .ok (.iload_n 0, 1) := by decide +kernel
theorem dJ3_checkIndex_8e157_1 : decode cJ3_checkIndex_8e157 1 = .ok (.ifCond .lt 8, 3) := by decide +kernel
theorem dJ3_checkIndex_8e157_4 : decode cJ3_checkIndex_8e157 4 = .ok (.iload_n 0, 1) := by decide +kernel
theorem dJ3_checkIndex_8e157_5 : decode cJ3_checkIndex_8e157 5 = .ok (.iload_n 1, 1) := by decide +kernel
theorem dJ3_checkIndex_8e157_6 : decode cJ3_checkIndex_8e157 6 = .ok (.if_icmp .lt 10, 3) := by decide +kernel
theorem dJ3_checkIndex_8e157_16 : decode cJ3_checkIndex_8e157 16 = .ok (.iload_n 0, 1) := by decide +kernel
theorem dJ3_checkIndex_8e157_17 : decode cJ3_checkIndex_8e157 17 = .ok (.ireturn, 1) := by decide +kernel
theorem dJ0_checkIndex_df160_0 : decode cJ0_checkIndex_df160 0 = .ok (.iload_n 0, 1) := by decide +kernel
theorem dJ0_checkIndex_df160_1 : decode cJ0_checkIndex_df160 1 = .ok (.iload_n 1, 1) := by decide +kernel
theorem dJ0_checkIndex_df160_2 : decode cJ0_checkIndex_df160 2 = .ok (.getstatic 1053, 3) := by decide +kernel
theorem dJ0_checkIndex_df160_5 : decode cJ0_checkIndex_df160 5 = .ok (.invokestatic 1059, 3) := by decide +kernel
theorem dJ0_checkIndex_df160_8 : decode cJ0_checkIndex_df160 8 = .ok (.pop, 1) := by decide +kernel
theorem dJ0_checkIndex_df160_9 : decode cJ0_checkIndex_df160 9 = .ok (.return_, 1) := by decide +kernel
theorem dJ1_charAt_3b067_0 : decode cJ1_charAt_3b067 0 = .ok (.iload_n 1, 1) := by decide +kernel
theorem dJ1_charAt_3b067_1 : decode cJ1_charAt_3b067 1 = .ok (.aload_n 0, 1) := by decide +kernel
theorem dJ1_charAt_3b067_2 : decode cJ1_charAt_3b067 2 = .ok (.arraylength, 1) := by decide +kernel
theorem dJ1_charAt_3b067_3 : decode cJ1_charAt_3b067 3 = .ok (.invokestatic 9, 3) := by decide +kernel
theorem dJ1_charAt_3b067_6 : decode cJ1_charAt_3b067 6 = .ok (.aload_n 0, 1) := by decide +kernel
theorem dJ1_charAt_3b067_7 : decode cJ1_charAt_3b067 7 = .ok (.iload_n 1, 1) := by decide +kernel
theorem dJ1_charAt_3b067_8 : decode cJ1_charAt_3b067 8 = .ok (.baload, 1) := by decide +kernel
theorem dJ1_charAt_3b067_9 : decode cJ1_charAt_3b067 9 = .ok (.sipush 255, 3) := by decide +kernel
theorem dJ1_charAt_3b067_12 : decode cJ1_charAt_3b067 12 = .ok (.iand, 1) := by decide +kernel
theorem dJ1_charAt_3b067_13 : decode cJ1_charAt_3b067 13 = .ok (.i2c, 1) := by decide +kernel
theorem dJ1_charAt_3b067_14 : decode cJ1_charAt_3b067 14 = .ok (.ireturn, 1) := by decide +kernel
theorem dJ0_isLatin1_aae02_0 : decode cJ0_isLatin1_aae02 0 = .ok (.getstatic 38, 3) := by decide +kernel
theorem dJ0_isLatin1_aae02_3 : decode cJ0_isLatin1_aae02 3 = .ok (.ifCond .eq 14, 3) := by decide +kernel
theorem dJ0_isLatin1_aae02_6 : decode cJ0_isLatin1_aae02 6 = .ok (.aload_n 0, 1) := by decide +kernel
theorem dJ0_isLatin1_aae02_7 : decode cJ0_isLatin1_aae02 7 = .ok (.getfield 15, 3) := by decide +kernel
theorem dJ0_isLatin1_aae02_10 : decode cJ0_isLatin1_aae02 10 = .ok (.ifCond .ne 7, 3) := by decide +kernel
theorem dJ0_isLatin1_aae02_13 : decode cJ0_isLatin1_aae02 13 = .ok (.iconst 1, 1) := by decide +kernel
theorem dJ0_isLatin1_aae02_14 : decode cJ0_isLatin1_aae02 14 = .ok (.goto 4, 3) := by decide +kernel
theorem dJ0_isLatin1_aae02_18 : decode cJ0_isLatin1_aae02 18 = .ok (.ireturn, 1) := by decide +kernel
theorem dJ0_coder_7d493_0 : decode cJ0_coder_7d493 0 = .ok (.getstatic 38, 3) := by decide +kernel
theorem dJ0_coder_7d493_3 : decode cJ0_coder_7d493 3 = .ok (.ifCond .eq 10, 3) := by decide +kernel
theorem dJ0_coder_7d493_6 : decode cJ0_coder_7d493 6 = .ok (.aload_n 0, 1) := by decide +kernel
theorem dJ0_coder_7d493_7 : decode cJ0_coder_7d493 7 = .ok (.getfield 15, 3) := by decide +kernel
theorem dJ0_coder_7d493_10 : decode cJ0_coder_7d493 10 = .ok (.goto 4, 3) := by decide +kernel
theorem dJ0_coder_7d493_14 : decode cJ0_coder_7d493 14 = .ok (.ireturn, 1) := by decide +kernel
theorem dJ0_length_8abf5_0 : decode cJ0_length_8abf5 0 = .ok (.aload_n 0, 1) := by decide +kernel
theorem dJ0_length_8abf5_1 : decode cJ0_length_8abf5 1 = .ok (.getfield 9, 3) := by decide +kernel
theorem dJ0_length_8abf5_4 : decode cJ0_length_8abf5 4 = .ok (.arraylength, 1) := by decide +kernel
theorem dJ0_length_8abf5_5 : decode cJ0_length_8abf5 5 = .ok (.aload_n 0, 1) := by decide +kernel
theorem dJ0_length_8abf5_6 : decode cJ0_length_8abf5 6 = .ok (.invokevirtual 335, 3) := by decide +kernel
theorem dJ0_length_8abf5_9 : decode cJ0_length_8abf5 9 = .ok (.ishr, 1) := by decide +kernel
theorem dJ0_length_8abf5_10 : decode cJ0_length_8abf5 10 = .ok (.ireturn, 1) := by decide +kernel
theorem dJ0_charAt_5068e_0 : decode cJ0_charAt_5068e 0 = .ok (.aload_n 0, 1) := by decide +kernel
theorem dJ0_charAt_5068e_1 : decode cJ0_charAt_5068e 1 = .ok (.invokevirtual 492, 3) := by decide +kernel
theorem dJ0_charAt_5068e_4 : decode cJ0_charAt_5068e 4 = .ok (.ifCond .eq 12, 3) := by decide +kernel
theorem dJ0_charAt_5068e_7 : decode cJ0_charAt_5068e 7 = .ok (.aload_n 0, 1) := by decide +kernel
theorem dJ0_charAt_5068e_8 : decode cJ0_charAt_5068e 8 = .ok (.getfield 9, 3) := by decide +kernel
theorem dJ0_charAt_5068e_11 : decode cJ0_charAt_5068e 11 = .ok (.iload_n 1, 1) := by decide +kernel
theorem dJ0_charAt_5068e_12 : decode cJ0_charAt_5068e 12 = .ok (.invokestatic 495, 3) := by decide +kernel
theorem dJ0_charAt_5068e_15 : decode cJ0_charAt_5068e 15 = .ok (.ireturn, 1) := by decide +kernel
abbrev r_c_pre_checkIndex0 : Room := { frames := 0, cells := 0, slots := 0, locals := 0 }
abbrev q_c_pre_checkIndex0 (D : va_G) (i : Nat) (A : Nat → Prop) : Array Value → State → Outcome → State → Prop := va_Qi (fun (r : Int32) (_ : Unit) => True) (fun u t => gq D A ((fun (_ : Unit) => []) u) ((fun (_ : Unit) => ([] : List (ClassId × FieldType))) u) t) A
set_option maxHeartbeats 4000000 in
set_option maxRecDepth 100000 in
theorem c_pre_checkIndex0 (l : Launch) (D : va_G) (ks : Nat × Nat × Option Nat) (sz : Nat) (i : Nat) (hi : i < 155) : Met l yJ3_checkIndex_8e157 (Cond.code yJ3_checkIndex_8e157 cJ3_checkIndex_8e157 3 (some .int) :: GW) r_c_pre_checkIndex0 (va_Pc [.int (nI i), .int 155, .null] (gp D ks [] [] sz)) (q_c_pre_checkIndex0 D i (va_A [] sz)) 0 0 (va_A [] sz) := by
  refine g_met (q_c_pre_checkIndex0 D i) (by decide) (Nat.le_of_ble_eq_true rfl) ?_
  intro p e s m below meth c A ls H locs hx hb hr hml hown hg hlocks hin hnw hgk hP hK hD hS hA hl
  have hown : s.vm.findClass RJ3 = some m.cls := hown
  have hl : lv_has ls 3 [(0, .int (nI i)), (1, .int 155), (2, .null)] := hl
  refine lv_iload_n hx hb dJ3_checkIndex_8e157_0 rfl (lv_at hl 0 rfl) ?_
  refine lv_if_lt (tgt := 9) hx hb dJ3_checkIndex_8e157_1 (by decide) (fun q => absurd q (nI_pos (by omega))) (fun _ => ?_)
  refine lv_iload_n hx hb dJ3_checkIndex_8e157_4 rfl (lv_at hl 0 rfl) ?_
  refine lv_iload_n hx hb dJ3_checkIndex_8e157_5 rfl (lv_at hl 1 rfl) ?_
  refine lv_icmp_lt (tgt := 16) hx hb dJ3_checkIndex_8e157_6 (by decide) (fun _ => ?_) (fun q => absurd (show nI i < nI 155 from nI_lt (by omega) (by omega)) q)
  refine lv_iload_n hx hb dJ3_checkIndex_8e157_16 rfl (lv_at hl 0 rfl) ?_
  refine W.widen (k := 0) (n := 0) (Nat.le_of_ble_eq_true rfl) (Nat.le_of_ble_eq_true rfl) ?_
  have hP9 := hP.sub (ws' := []) [] rfl
  have hD9 := hD.sub (ws' := []) [] (by decide) rfl
  have hK9 := hK.sub (tys' := []) [] rfl
  exact W.iret (v := (nI i)) hx hb hr (fun t ht hW => ⟨⟨(nI i), (), rfl, (by first | rfl | trivial | assumption | decide), by rw [ht]; exact hP9, va_K.moved hW.alike hK9, hD9⟩, hS.F ht⟩) hS.2.2 dJ3_checkIndex_8e157_17
abbrev r_c_pre_checkIndex1 : Room := { frames := 0, cells := 0, slots := 0, locals := 0 }
abbrev q_c_pre_checkIndex1 (D : va_G) (t i : Nat) (A : Nat → Prop) : Array Value → State → Outcome → State → Prop := va_Qi (fun (r : Int32) (_ : Unit) => True) (fun u t => gq D A ((fun (_ : Unit) => []) u) ((fun (_ : Unit) => ([] : List (ClassId × FieldType))) u) t) A
set_option maxHeartbeats 4000000 in
set_option maxRecDepth 100000 in
theorem c_pre_checkIndex1 (l : Launch) (D : va_G) (ks : Nat × Nat × Option Nat) (sz : Nat) (t i : Nat) (hi : i < 155) : Met l yJ3_checkIndex_8e157 (Cond.code yJ3_checkIndex_8e157 cJ3_checkIndex_8e157 3 (some .int) :: GW) r_c_pre_checkIndex1 (va_Pc [.int (nI i), .int 155, .ref t] (gp D ks [] [] sz)) (q_c_pre_checkIndex1 D t i (va_A [] sz)) 0 0 (va_A [] sz) := by
  refine g_met (q_c_pre_checkIndex1 D t i) (by decide) (Nat.le_of_ble_eq_true rfl) ?_
  intro p e s m below meth c A ls H locs hx hb hr hml hown hg hlocks hin hnw hgk hP hK hD hS hA hl
  have hown : s.vm.findClass RJ3 = some m.cls := hown
  have hl : lv_has ls 3 [(0, .int (nI i)), (1, .int 155), (2, .ref t)] := hl
  refine lv_iload_n hx hb dJ3_checkIndex_8e157_0 rfl (lv_at hl 0 rfl) ?_
  refine lv_if_lt (tgt := 9) hx hb dJ3_checkIndex_8e157_1 (by decide) (fun q => absurd q (nI_pos (by omega))) (fun _ => ?_)
  refine lv_iload_n hx hb dJ3_checkIndex_8e157_4 rfl (lv_at hl 0 rfl) ?_
  refine lv_iload_n hx hb dJ3_checkIndex_8e157_5 rfl (lv_at hl 1 rfl) ?_
  refine lv_icmp_lt (tgt := 16) hx hb dJ3_checkIndex_8e157_6 (by decide) (fun _ => ?_) (fun q => absurd (show nI i < nI 155 from nI_lt (by omega) (by omega)) q)
  refine lv_iload_n hx hb dJ3_checkIndex_8e157_16 rfl (lv_at hl 0 rfl) ?_
  refine W.widen (k := 0) (n := 0) (Nat.le_of_ble_eq_true rfl) (Nat.le_of_ble_eq_true rfl) ?_
  have hP9 := hP.sub (ws' := []) [] rfl
  have hD9 := hD.sub (ws' := []) [] (by decide) rfl
  have hK9 := hK.sub (tys' := []) [] rfl
  exact W.iret (v := (nI i)) hx hb hr (fun t ht hW => ⟨⟨(nI i), (), rfl, (by first | rfl | trivial | assumption | decide), by rw [ht]; exact hP9, va_K.moved hW.alike hK9, hD9⟩, hS.F ht⟩) hS.2.2 dJ3_checkIndex_8e157_17
abbrev r_c_checkIndex : Room := { frames := 1, cells := 0, slots := 0, locals := 22 }
abbrev q_c_checkIndex (D : va_G) (i : Nat) (A : Nat → Prop) : Array Value → State → Outcome → State → Prop := va_Qv (fun (_ : Unit) => True) (fun u t => gq D A ((fun (_ : Unit) => []) u) ((fun (_ : Unit) => ([] : List (ClassId × FieldType))) u) t) A
set_option maxHeartbeats 4000000 in
set_option maxRecDepth 100000 in
theorem c_checkIndex (l : Launch) (D : va_G) (ks : Nat × Nat × Option Nat) (sz : Nat) (i : Nat) (hi : i < 155) : Met l yJ0_checkIndex_df160 (Cond.code yJ0_checkIndex_df160 cJ0_checkIndex_df160 2 none :: GW) r_c_checkIndex (va_Pc [.int (nI i), .int 155] (gp D ks [] [] sz)) (q_c_checkIndex D i (va_A [] sz)) 0 0 (va_A [] sz) := by
  refine g_met (q_c_checkIndex D i) (by decide) (Nat.le_of_ble_eq_true rfl) ?_
  intro p e s m below meth c A ls H locs hx hb hr hml hown hg hlocks hin hnw hgk hP hK hD hS hA hl
  have hown : s.vm.findClass RJ0 = some m.cls := hown
  have hl : lv_has ls 2 [(0, .int (nI i)), (1, .int 155)] := hl
  have hz := hgk.2.1.2
  cases hkx : ks.2.2 with
  | none =>
    rw [hkx] at hz
    refine lv_iload_n hx hb dJ0_checkIndex_df160_0 rfl (lv_at hl 0 rfl) ?_
    refine lv_iload_n hx hb dJ0_checkIndex_df160_1 rfl (lv_at hl 1 rfl) ?_
    refine va_gets (v := .null) hx hb hz hS hown (hg _ w221) (fun _ h9 => h9) dJ0_checkIndex_df160_2 ?_
    refine g_int (wr := []) (tr := []) (g_runS (As := [.int (nI i), .int 155, .null]) (rest := []) (wc := []) (tc := []) hx hb hml hown hg gw_self hP hD hK hS hA hnw hgk [] [] (by decide) rfl rfl (c_pre_checkIndex0 l D ks H.size i hi) w223 w224 w160 w225 hdS_yJ3_checkIndex_8e157 ⟨Nat.le_of_ble_eq_true rfl, Nat.le_of_ble_eq_true rfl⟩ rfl hl.1 rfl (Nat.le_of_ble_eq_true rfl) dJ0_checkIndex_df160_5 ⟨Nat.le_of_ble_eq_true rfl, Nat.le_of_ble_eq_true rfl⟩) hP hD hK hS hA [] [] [] rfl rfl (by decide) (by decide) rfl (fun r3 u2 H locs hw1 hP hD hK hS => ?_)
    have hw1 : True := hw1
    have hP : va_P D vwCl [] H := hP
    have hD : va_D A [] := hD
    have hK : va_K D vwCl [] s := hK
    refine lv_pop hx hb dJ0_checkIndex_df160_8 rfl ?_
    refine W.widen (k := 0) (n := 0) (Nat.le_of_ble_eq_true rfl) (Nat.le_of_ble_eq_true rfl) ?_
    have hP9 := hP.sub (ws' := []) [] rfl
    have hD9 := hD.sub (ws' := []) [] (by decide) rfl
    have hK9 := hK.sub (tys' := []) [] rfl
    exact W.vret hx hb hr (fun t ht hW => ⟨⟨(), rfl, (by first | rfl | trivial | assumption | decide), by rw [ht]; exact hP9, va_K.moved hW.alike hK9, hD9⟩, hS.F ht⟩) hS.2.2 dJ0_checkIndex_df160_9
  | some t =>
    rw [hkx] at hz
    refine lv_iload_n hx hb dJ0_checkIndex_df160_0 rfl (lv_at hl 0 rfl) ?_
    refine lv_iload_n hx hb dJ0_checkIndex_df160_1 rfl (lv_at hl 1 rfl) ?_
    refine va_gets (v := .ref t) hx hb hz hS hown (hg _ w221) (fun _ h9 => h9) dJ0_checkIndex_df160_2 ?_
    refine g_int (wr := []) (tr := []) (g_runS (As := [.int (nI i), .int 155, .ref t]) (rest := []) (wc := []) (tc := []) hx hb hml hown hg gw_self hP hD hK hS hA hnw hgk [] [] (by decide) rfl rfl (c_pre_checkIndex1 l D ks H.size t i hi) w223 w224 w160 w225 hdS_yJ3_checkIndex_8e157 ⟨Nat.le_of_ble_eq_true rfl, Nat.le_of_ble_eq_true rfl⟩ rfl hl.1 rfl (Nat.le_of_ble_eq_true rfl) dJ0_checkIndex_df160_5 ⟨Nat.le_of_ble_eq_true rfl, Nat.le_of_ble_eq_true rfl⟩) hP hD hK hS hA [] [] [] rfl rfl (by decide) (by decide) rfl (fun r6 u5 H locs hw4 hP hD hK hS => ?_)
    have hw4 : True := hw4
    have hP : va_P D vwCl [] H := hP
    have hD : va_D A [] := hD
    have hK : va_K D vwCl [] s := hK
    refine lv_pop hx hb dJ0_checkIndex_df160_8 rfl ?_
    refine W.widen (k := 0) (n := 0) (Nat.le_of_ble_eq_true rfl) (Nat.le_of_ble_eq_true rfl) ?_
    have hP9 := hP.sub (ws' := []) [] rfl
    have hD9 := hD.sub (ws' := []) [] (by decide) rfl
    have hK9 := hK.sub (tys' := []) [] rfl
    exact W.vret hx hb hr (fun t ht hW => ⟨⟨(), rfl, (by first | rfl | trivial | assumption | decide), by rw [ht]; exact hP9, va_K.moved hW.alike hK9, hD9⟩, hS.F ht⟩) hS.2.2 dJ0_checkIndex_df160_9
abbrev r_c_L1_charAt : Room := { frames := 2, cells := 0, slots := 0, locals := 43 }
abbrev q_c_L1_charAt (D : va_G) (i : Nat) (A : Nat → Prop) : Array Value → State → Outcome → State → Prop := va_Qi (fun (r : Int32) (_ : Unit) => r = kwc i) (fun u t => gq D A ((fun (_ : Unit) => []) u) ((fun (_ : Unit) => ([] : List (ClassId × FieldType))) u) t) A
set_option maxHeartbeats 4000000 in
set_option maxRecDepth 100000 in
theorem c_L1_charAt (l : Launch) (D : va_G) (ks : Nat × Nat × Option Nat) (sz : Nat) (i : Nat) (hi : i < 155) : Met l yJ1_charAt_3b067 (Cond.code yJ1_charAt_3b067 cJ1_charAt_3b067 2 (some .char) :: GW) r_c_L1_charAt (va_Pc [.ref ks.2.1, .int (nI i)] (gp D ks [] [] sz)) (q_c_L1_charAt D i (va_A [] sz)) 0 0 (va_A [] sz) := by
  refine g_met (q_c_L1_charAt D i) (by decide) (Nat.le_of_ble_eq_true rfl) ?_
  intro p e s m below meth c A ls H locs hx hb hr hml hown hg hlocks hin hnw hgk hP hK hD hS hA hl
  have hown : s.vm.findClass RJ1 = some m.cls := hown
  have hl : lv_has ls 2 [(0, .ref ks.2.1), (1, .int (nI i))] := hl
  refine lv_iload_n hx hb dJ1_charAt_3b067_0 rfl (lv_at hl 1 rfl) ?_
  refine lv_aload_n hx hb dJ1_charAt_3b067_1 rfl (lv_at hl 0 rfl) ?_
  refine va_tlen (v := 155) hx hb (hgk.1.1.1 0 (by decide)).2.2.2 hS rfl dJ1_charAt_3b067_2 ?_
  refine g_void (wr := []) (tr := []) (g_runS (As := [.int (nI i), .int 155]) (rest := []) (wc := []) (tc := []) hx hb hml hown hg gw_self hP hD hK hS hA hnw hgk [] [] (by decide) rfl rfl (c_checkIndex l D ks H.size i hi) w218 w219 w158 w220 hdS_yJ0_checkIndex_df160 ⟨Nat.le_of_ble_eq_true rfl, Nat.le_of_ble_eq_true rfl⟩ rfl hl.1 rfl (Nat.le_of_ble_eq_true rfl) dJ1_charAt_3b067_3 ⟨Nat.le_of_ble_eq_true rfl, Nat.le_of_ble_eq_true rfl⟩) hP hD hK hS hA [] [] [] rfl rfl (by decide) (by decide) rfl (fun u2 H locs hw1 hP hD hK hS => ?_)
  have hP : va_P D vwCl [] H := hP
  have hD : va_D A [] := hD
  have hK : va_K D vwCl [] s := hK
  refine lv_aload_n hx hb dJ1_charAt_3b067_6 rfl (lv_at hl 0 rfl) ?_
  refine lv_iload_n hx hb dJ1_charAt_3b067_7 rfl (lv_at hl 1 rfl) ?_
  refine va_tb (v := .int (kwc i)) hx hb (hgk.1.1.1 0 (by decide)).2.2.2 hS (show vp_in (nI i) 155 from vp_in_nI (by omega) (by omega)) (by rw [nI_clamp (by omega)]; rfl) dJ1_charAt_3b067_8 ?_
  refine lv_sipush (v := 255) hx hb dJ1_charAt_3b067_9 (by decide) ?_
  refine lv_iand hx hb dJ1_charAt_3b067_12 ?_
  refine lv_i2c (v := kwc i) hx hb dJ1_charAt_3b067_13 (kwc_c2 _ (by omega)) ?_
  refine W.widen (k := 0) (n := 0) (Nat.le_of_ble_eq_true rfl) (Nat.le_of_ble_eq_true rfl) ?_
  have hP9 := hP.sub (ws' := []) [] rfl
  have hD9 := hD.sub (ws' := []) [] (by decide) rfl
  have hK9 := hK.sub (tys' := []) [] rfl
  exact W.zret (v := (kwc i)) hx hb hr (kwc_nar i hi) (fun t ht hW => ⟨⟨(kwc i), (), rfl, (by first | rfl | trivial | assumption | decide), by rw [ht]; exact hP9, va_K.moved hW.alike hK9, hD9⟩, hS.F ht⟩) hS.2.2 dJ1_charAt_3b067_14
abbrev r_c_isLatin1 : Room := { frames := 0, cells := 0, slots := 0, locals := 0 }
abbrev q_c_isLatin1 (D : va_G) (A : Nat → Prop) : Array Value → State → Outcome → State → Prop := va_Qi (fun (r : Int32) (_ : Unit) => r = 1) (fun u t => gq D A ((fun (_ : Unit) => []) u) ((fun (_ : Unit) => ([] : List (ClassId × FieldType))) u) t) A
set_option maxHeartbeats 4000000 in
set_option maxRecDepth 100000 in
theorem c_isLatin1 (l : Launch) (D : va_G) (ks : Nat × Nat × Option Nat) (sz : Nat) : Met l yJ0_isLatin1_aae02 (Cond.code yJ0_isLatin1_aae02 cJ0_isLatin1_aae02 1 (some .boolean) :: GW) r_c_isLatin1 (va_Pc [.ref ks.1] (gp D ks [] [] sz)) (q_c_isLatin1 D (va_A [] sz)) 0 0 (va_A [] sz) := by
  refine g_met (q_c_isLatin1 D) (by decide) (Nat.le_of_ble_eq_true rfl) ?_
  intro p e s m below meth c A ls H locs hx hb hr hml hown hg hlocks hin hnw hgk hP hK hD hS hA hl
  have hown : s.vm.findClass RJ0 = some m.cls := hown
  have hl : lv_has ls 1 [(0, .ref ks.1)] := hl
  refine va_gets (v := .int 1) hx hb hgk.2.1.1 hS hown (hg _ w205) (fun _ h9 => h9) dJ0_isLatin1_aae02_0 ?_
  refine lv_if_eq (tgt := 17) hx hb dJ0_isLatin1_aae02_3 (by decide) (fun q => absurd q (by decide)) (fun _ => ?_)
  refine lv_aload_n hx hb dJ0_isLatin1_aae02_6 rfl (lv_at hl 0 rfl) ?_
  refine vk_getf (v := .int 0) hx hb (hgk.1.1.1 0 (by decide)).2.1 hS hown (hg _ w2403) (fun _ h9 => h9) dJ0_isLatin1_aae02_7 ?_
  refine lv_if_ne (tgt := 17) hx hb dJ0_isLatin1_aae02_10 (by decide) (fun q => absurd rfl q) (fun _ => ?_)
  refine lv_iconst (v := 1) hx hb dJ0_isLatin1_aae02_13 (by decide) ?_
  refine lv_goto (tgt := 18) hx hb dJ0_isLatin1_aae02_14 (by decide) ?_
  refine W.widen (k := 0) (n := 0) (Nat.le_of_ble_eq_true rfl) (Nat.le_of_ble_eq_true rfl) ?_
  have hP9 := hP.sub (ws' := []) [] rfl
  have hD9 := hD.sub (ws' := []) [] (by decide) rfl
  have hK9 := hK.sub (tys' := []) [] rfl
  exact W.zret (v := 1) hx hb hr rfl (fun t ht hW => ⟨⟨1, (), rfl, (by first | rfl | trivial | assumption | decide), by rw [ht]; exact hP9, va_K.moved hW.alike hK9, hD9⟩, hS.F ht⟩) hS.2.2 dJ0_isLatin1_aae02_18
abbrev r_c_coder : Room := { frames := 0, cells := 0, slots := 0, locals := 0 }
abbrev q_c_coder (D : va_G) (A : Nat → Prop) : Array Value → State → Outcome → State → Prop := va_Qi (fun (r : Int32) (_ : Unit) => r = 0) (fun u t => gq D A ((fun (_ : Unit) => []) u) ((fun (_ : Unit) => ([] : List (ClassId × FieldType))) u) t) A
set_option maxHeartbeats 4000000 in
set_option maxRecDepth 100000 in
theorem c_coder (l : Launch) (D : va_G) (ks : Nat × Nat × Option Nat) (sz : Nat) : Met l yJ0_coder_7d493 (Cond.code yJ0_coder_7d493 cJ0_coder_7d493 1 (some .byte) :: GW) r_c_coder (va_Pc [.ref ks.1] (gp D ks [] [] sz)) (q_c_coder D (va_A [] sz)) 0 0 (va_A [] sz) := by
  refine g_met (q_c_coder D) (by decide) (Nat.le_of_ble_eq_true rfl) ?_
  intro p e s m below meth c A ls H locs hx hb hr hml hown hg hlocks hin hnw hgk hP hK hD hS hA hl
  have hown : s.vm.findClass RJ0 = some m.cls := hown
  have hl : lv_has ls 1 [(0, .ref ks.1)] := hl
  refine va_gets (v := .int 1) hx hb hgk.2.1.1 hS hown (hg _ w205) (fun _ h9 => h9) dJ0_coder_7d493_0 ?_
  refine lv_if_eq (tgt := 13) hx hb dJ0_coder_7d493_3 (by decide) (fun q => absurd q (by decide)) (fun _ => ?_)
  refine lv_aload_n hx hb dJ0_coder_7d493_6 rfl (lv_at hl 0 rfl) ?_
  refine vk_getf (v := .int 0) hx hb (hgk.1.1.1 0 (by decide)).2.1 hS hown (hg _ w2403) (fun _ h9 => h9) dJ0_coder_7d493_7 ?_
  refine lv_goto (tgt := 14) hx hb dJ0_coder_7d493_10 (by decide) ?_
  refine W.widen (k := 0) (n := 0) (Nat.le_of_ble_eq_true rfl) (Nat.le_of_ble_eq_true rfl) ?_
  have hP9 := hP.sub (ws' := []) [] rfl
  have hD9 := hD.sub (ws' := []) [] (by decide) rfl
  have hK9 := hK.sub (tys' := []) [] rfl
  exact W.zret (v := 0) hx hb hr rfl (fun t ht hW => ⟨⟨0, (), rfl, (by first | rfl | trivial | assumption | decide), by rw [ht]; exact hP9, va_K.moved hW.alike hK9, hD9⟩, hS.F ht⟩) hS.2.2 dJ0_coder_7d493_14
abbrev r_c_length : Room := { frames := 1, cells := 0, slots := 0, locals := 20 }
abbrev q_c_length (D : va_G) (A : Nat → Prop) : Array Value → State → Outcome → State → Prop := va_Qi (fun (r : Int32) (_ : Unit) => r = 155) (fun u t => gq D A ((fun (_ : Unit) => []) u) ((fun (_ : Unit) => ([] : List (ClassId × FieldType))) u) t) A
set_option maxHeartbeats 4000000 in
set_option maxRecDepth 100000 in
theorem c_length (l : Launch) (D : va_G) (ks : Nat × Nat × Option Nat) (sz : Nat) : Met l yJ0_length_8abf5 (Cond.code yJ0_length_8abf5 cJ0_length_8abf5 1 (some .int) :: GW) r_c_length (va_Pc [.ref ks.1] (gp D ks [] [] sz)) (q_c_length D (va_A [] sz)) 0 0 (va_A [] sz) := by
  refine g_met (q_c_length D) (by decide) (Nat.le_of_ble_eq_true rfl) ?_
  intro p e s m below meth c A ls H locs hx hb hr hml hown hg hlocks hin hnw hgk hP hK hD hS hA hl
  have hown : s.vm.findClass RJ0 = some m.cls := hown
  have hl : lv_has ls 1 [(0, .ref ks.1)] := hl
  refine lv_aload_n hx hb dJ0_length_8abf5_0 rfl (lv_at hl 0 rfl) ?_
  refine vk_getf (v := .ref ks.2.1) hx hb (hgk.1.1.1 0 (by decide)).2.2.1 hS hown (hg _ w2402) (fun _ h9 => h9) dJ0_length_8abf5_1 ?_
  refine va_tlen (v := 155) hx hb (hgk.1.1.1 0 (by decide)).2.2.2 hS rfl dJ0_length_8abf5_4 ?_
  refine lv_aload_n hx hb dJ0_length_8abf5_5 rfl (lv_at hl 0 rfl) ?_
  refine g_int (wr := []) (tr := []) (g_runW (As := []) (rest := [.int 155]) (wc := []) (tc := []) (C := RJ0) hx hb hml hown hg gw_self hP hD hK hS hA hnw hgk [] [] (by decide) rfl rfl (c_coder l D ks H.size) w201 w202 w203 w158 w204 (vk_recv (i := 0) hgk.1.1 (by decide) hS) hdV_yJ0_coder_7d493 ⟨Nat.le_of_ble_eq_true rfl, Nat.le_of_ble_eq_true rfl⟩ rfl hl.1 rfl (Nat.le_of_ble_eq_true rfl) dJ0_length_8abf5_6 ⟨Nat.le_of_ble_eq_true rfl, Nat.le_of_ble_eq_true rfl⟩) hP hD hK hS hA [] [] [] rfl rfl (by decide) (by decide) rfl (fun r3 u2 H locs hw1 hP hD hK hS => ?_)
  have hw1 : r3 = 0 := hw1
  subst hw1
  have hP : va_P D vwCl [] H := hP
  have hD : va_D A [] := hD
  have hK : va_K D vwCl [] s := hK
  refine lv_ishr hx hb dJ0_length_8abf5_9 ?_
  refine g_top (v := 155) (by decide) ?_
  refine W.widen (k := 0) (n := 0) (Nat.le_of_ble_eq_true rfl) (Nat.le_of_ble_eq_true rfl) ?_
  have hP9 := hP.sub (ws' := []) [] rfl
  have hD9 := hD.sub (ws' := []) [] (by decide) rfl
  have hK9 := hK.sub (tys' := []) [] rfl
  exact W.iret (v := 155) hx hb hr (fun t ht hW => ⟨⟨155, (), rfl, (by first | rfl | trivial | assumption | decide), by rw [ht]; exact hP9, va_K.moved hW.alike hK9, hD9⟩, hS.F ht⟩) hS.2.2 dJ0_length_8abf5_10
abbrev r_c_charAt : Room := { frames := 3, cells := 0, slots := 0, locals := 64 }
abbrev q_c_charAt (D : va_G) (i : Nat) (A : Nat → Prop) : Array Value → State → Outcome → State → Prop := va_Qi (fun (r : Int32) (_ : Unit) => r = kwc i) (fun u t => gq D A ((fun (_ : Unit) => []) u) ((fun (_ : Unit) => ([] : List (ClassId × FieldType))) u) t) A
set_option maxHeartbeats 4000000 in
set_option maxRecDepth 100000 in
theorem c_charAt (l : Launch) (D : va_G) (ks : Nat × Nat × Option Nat) (sz : Nat) (i : Nat) (hi : i < 155) : Met l yJ0_charAt_5068e (Cond.code yJ0_charAt_5068e cJ0_charAt_5068e 2 (some .char) :: GW) r_c_charAt (va_Pc [.ref ks.1, .int (nI i)] (gp D ks [] [] sz)) (q_c_charAt D i (va_A [] sz)) 0 0 (va_A [] sz) := by
  refine g_met (q_c_charAt D i) (by decide) (Nat.le_of_ble_eq_true rfl) ?_
  intro p e s m below meth c A ls H locs hx hb hr hml hown hg hlocks hin hnw hgk hP hK hD hS hA hl
  have hown : s.vm.findClass RJ0 = some m.cls := hown
  have hl : lv_has ls 2 [(0, .ref ks.1), (1, .int (nI i))] := hl
  refine lv_aload_n hx hb dJ0_charAt_5068e_0 rfl (lv_at hl 0 rfl) ?_
  refine g_int (wr := []) (tr := []) (g_runW (As := []) (rest := []) (wc := []) (tc := []) (C := RJ0) hx hb hml hown hg gw_self hP hD hK hS hA hnw hgk [] [] (by decide) rfl rfl (c_isLatin1 l D ks H.size) w211 w212 w213 w158 w214 (vk_recv (i := 0) hgk.1.1 (by decide) hS) hdV_yJ0_isLatin1_aae02 ⟨Nat.le_of_ble_eq_true rfl, Nat.le_of_ble_eq_true rfl⟩ rfl hl.1 rfl (Nat.le_of_ble_eq_true rfl) dJ0_charAt_5068e_1 ⟨Nat.le_of_ble_eq_true rfl, Nat.le_of_ble_eq_true rfl⟩) hP hD hK hS hA [] [] [] rfl rfl (by decide) (by decide) rfl (fun r3 u2 H locs hw1 hP hD hK hS => ?_)
  have hw1 : r3 = 1 := hw1
  subst hw1
  have hP : va_P D vwCl [] H := hP
  have hD : va_D A [] := hD
  have hK : va_K D vwCl [] s := hK
  refine lv_if_eq (tgt := 16) hx hb dJ0_charAt_5068e_4 (by decide) (fun q => absurd q (by decide)) (fun _ => ?_)
  refine lv_aload_n hx hb dJ0_charAt_5068e_7 rfl (lv_at hl 0 rfl) ?_
  refine vk_getf (v := .ref ks.2.1) hx hb (hgk.1.1.1 0 (by decide)).2.2.1 hS hown (hg _ w2402) (fun _ h9 => h9) dJ0_charAt_5068e_8 ?_
  refine lv_iload_n hx hb dJ0_charAt_5068e_11 rfl (lv_at hl 1 rfl) ?_
  refine g_int (wr := []) (tr := []) (g_runS (As := [.ref ks.2.1, .int (nI i)]) (rest := []) (wc := []) (tc := []) hx hb hml hown hg gw_self hP hD hK hS hA hnw hgk [] [] (by decide) rfl rfl (c_L1_charAt l D ks H.size i hi) w215 w216 w159 w217 hdS_yJ1_charAt_3b067 ⟨Nat.le_of_ble_eq_true rfl, Nat.le_of_ble_eq_true rfl⟩ rfl hl.1 rfl (Nat.le_of_ble_eq_true rfl) dJ0_charAt_5068e_12 ⟨Nat.le_of_ble_eq_true rfl, Nat.le_of_ble_eq_true rfl⟩) hP hD hK hS hA [] [] [] rfl rfl (by decide) (by decide) rfl (fun r6 u5 H locs hw4 hP hD hK hS => ?_)
  have hw4 : r6 = kwc i := hw4
  subst hw4
  have hP : va_P D vwCl [] H := hP
  have hD : va_D A [] := hD
  have hK : va_K D vwCl [] s := hK
  refine W.widen (k := 0) (n := 0) (Nat.le_of_ble_eq_true rfl) (Nat.le_of_ble_eq_true rfl) ?_
  have hP9 := hP.sub (ws' := []) [] rfl
  have hD9 := hD.sub (ws' := []) [] (by decide) rfl
  have hK9 := hK.sub (tys' := []) [] rfl
  exact W.zret (v := (kwc i)) hx hb hr (kwc_nar i hi) (fun t ht hW => ⟨⟨(kwc i), (), rfl, (by first | rfl | trivial | assumption | decide), by rw [ht]; exact hP9, va_K.moved hW.alike hK9, hD9⟩, hS.F ht⟩) hS.2.2 dJ0_charAt_5068e_15
