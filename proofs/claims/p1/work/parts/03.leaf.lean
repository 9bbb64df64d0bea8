theorem w478 : Cond.methodLink RX6 3 objectInit ∈ GW := gw_mem 478 (by decide +kernel) rfl
theorem w188 : Cond.instanceMethod objectInit ∈ GW := gw_mem 188 (by decide +kernel) rfl
theorem w296 : Cond.arrayClass .long ∈ GW := gw_mem 296 (by decide +kernel) rfl
theorem w479 : Cond.fieldLink RX6 9 "WiringHouse$Names" "words" "[J" ∈ GW := gw_mem 479 (by decide +kernel) rfl
theorem w574 : Cond.methodLink RX10 1 objectInit ∈ GW := gw_mem 574 (by decide +kernel) rfl
theorem w498 : Cond.methodLink RX3 3 objectInit ∈ GW := gw_mem 498 (by decide +kernel) rfl
theorem w297 : Cond.arrayClass .int ∈ GW := gw_mem 297 (by decide +kernel) rfl
theorem w499 : Cond.fieldLink RX3 9 "WiringHouse$Component" "needTypes" "[I" ∈ GW := gw_mem 499 (by decide +kernel) rfl
theorem w501 : Cond.fieldLink RX3 15 "WiringHouse$Component" "needWords" "[I" ∈ GW := gw_mem 501 (by decide +kernel) rfl
theorem w503 : Cond.fieldLink RX3 18 "WiringHouse$Component" "needKinds" "[I" ∈ GW := gw_mem 503 (by decide +kernel) rfl
theorem w507 : Cond.fieldLink RX3 21 "WiringHouse$Component" "methodStarts" "[I" ∈ GW := gw_mem 507 (by decide +kernel) rfl
theorem w434 : Cond.methodLink RX7 3 objectInit ∈ GW := gw_mem 434 (by decide +kernel) rfl
theorem w435 : Cond.fieldLink RX7 9 "WiringHouse$Notes" "thingKinds" "[I" ∈ GW := gw_mem 435 (by decide +kernel) rfl
theorem w436 : Cond.fieldLink RX7 15 "WiringHouse$Notes" "things" "[I" ∈ GW := gw_mem 436 (by decide +kernel) rfl
theorem w437 : Cond.fieldLink RX7 18 "WiringHouse$Notes" "thingArgs" "[I" ∈ GW := gw_mem 437 (by decide +kernel) rfl
theorem w438 : Cond.fieldLink RX7 21 "WiringHouse$Notes" "closings" "[I" ∈ GW := gw_mem 438 (by decide +kernel) rfl
theorem w439 : Cond.fieldLink RX7 24 "WiringHouse$Notes" "closingKinds" "[I" ∈ GW := gw_mem 439 (by decide +kernel) rfl
theorem dX6_init_0 : decode cX6_init 0 = .ok (.aload_n 0, 1) := by decide +kernel
theorem dX6_init_1 : decode cX6_init 1 = .ok (.invokespecial 3, 3) := by decide +kernel
theorem dX6_init_4 : decode cX6_init 4 = .ok (.aload_n 0, 1) := by decide +kernel
theorem dX6_init_5 : decode cX6_init 5 = .ok (.iload_n 1, 1) := by decide +kernel
theorem dX6_init_6 : decode cX6_init 6 = .ok (.ifCond .le 7, 3) := by decide +kernel
theorem dX6_init_9 : decode cX6_init 9 = .ok (.iload_n 1, 1) := by decide +kernel
theorem dX6_init_10 : decode cX6_init 10 = .ok (.goto 4, 3) := by decide +kernel
theorem dX6_init_14 : decode cX6_init 14 = .ok (.newarray .long, 2) := by decide +kernel
theorem dX6_init_16 : decode cX6_init 16 = .ok (.putfield 9, 3) := by decide +kernel
theorem dX6_init_19 : decode cX6_init 19 = .ok (.return_, 1) := by decide +kernel
theorem dX10_init_0 : decode cX10_init 0 = .ok (.aload_n 0, 1) := by decide +kernel
theorem dX10_init_1 : decode cX10_init 1 = .ok (.invokespecial 1, 3) := by decide +kernel
theorem dX10_init_4 : decode cX10_init 4 = .ok (.return_, 1) := by decide +kernel
theorem dX3_init_0 : decode cX3_init 0 = .ok (.aload_n 0, 1) := by decide +kernel
theorem dX3_init_1 : decode cX3_init 1 = .ok (.invokespecial 3, 3) := by decide +kernel
theorem dX3_init_4 : decode cX3_init 4 = .ok (.aload_n 0, 1) := by decide +kernel
theorem dX3_init_5 : decode cX3_init 5 = .ok (.bipush 8, 2) := by decide +kernel
theorem dX3_init_7 : decode cX3_init 7 = .ok (.newarray .int, 2) := by decide +kernel
theorem dX3_init_9 : decode cX3_init 9 = .ok (.putfield 9, 3) := by decide +kernel
theorem dX3_init_12 : decode cX3_init 12 = .ok (.aload_n 0, 1) := by decide +kernel
theorem dX3_init_13 : decode cX3_init 13 = .ok (.bipush 8, 2) := by decide +kernel
theorem dX3_init_15 : decode cX3_init 15 = .ok (.newarray .int, 2) := by decide +kernel
theorem dX3_init_17 : decode cX3_init 17 = .ok (.putfield 15, 3) := by decide +kernel
theorem dX3_init_20 : decode cX3_init 20 = .ok (.aload_n 0, 1) := by decide +kernel
theorem dX3_init_21 : decode cX3_init 21 = .ok (.bipush 8, 2) := by decide +kernel
theorem dX3_init_23 : decode cX3_init 23 = .ok (.newarray .int, 2) := by decide +kernel
theorem dX3_init_25 : decode cX3_init 25 = .ok (.putfield 18, 3) := by decide +kernel
theorem dX3_init_28 : decode cX3_init 28 = .ok (.aload_n 0, 1) := by decide +kernel
theorem dX3_init_29 : decode cX3_init 29 = .ok (.bipush 20, 2) := by decide +kernel
theorem dX3_init_31 : decode cX3_init 31 = .ok (.newarray .int, 2) := by decide +kernel
theorem dX3_init_33 : decode cX3_init 33 = .ok (.putfield 21, 3) := by decide +kernel
theorem dX3_init_36 : decode cX3_init 36 = .ok (.return_, 1) := by decide +kernel
theorem dX7_init_0 : decode cX7_init 0 = .ok (.aload_n 0, 1) := by decide +kernel
theorem dX7_init_1 : decode cX7_init 1 = .ok (.invokespecial 3, 3) := by decide +kernel
theorem dX7_init_4 : decode cX7_init 4 = .ok (.aload_n 0, 1) := by decide +kernel
theorem dX7_init_5 : decode cX7_init 5 = .ok (.bipush 100, 2) := by decide +kernel
theorem dX7_init_7 : decode cX7_init 7 = .ok (.newarray .int, 2) := by decide +kernel
theorem dX7_init_9 : decode cX7_init 9 = .ok (.putfield 9, 3) := by decide +kernel
theorem dX7_init_12 : decode cX7_init 12 = .ok (.aload_n 0, 1) := by decide +kernel
theorem dX7_init_13 : decode cX7_init 13 = .ok (.bipush 100, 2) := by decide +kernel
theorem dX7_init_15 : decode cX7_init 15 = .ok (.newarray .int, 2) := by decide +kernel
theorem dX7_init_17 : decode cX7_init 17 = .ok (.putfield 15, 3) := by decide +kernel
theorem dX7_init_20 : decode cX7_init 20 = .ok (.aload_n 0, 1) := by decide +kernel
theorem dX7_init_21 : decode cX7_init 21 = .ok (.bipush 100, 2) := by decide +kernel
theorem dX7_init_23 : decode cX7_init 23 = .ok (.newarray .int, 2) := by decide +kernel
theorem dX7_init_25 : decode cX7_init 25 = .ok (.putfield 18, 3) := by decide +kernel
theorem dX7_init_28 : decode cX7_init 28 = .ok (.aload_n 0, 1) := by decide +kernel
theorem dX7_init_29 : decode cX7_init 29 = .ok (.sipush 300, 3) := by decide +kernel
theorem dX7_init_32 : decode cX7_init 32 = .ok (.newarray .int, 2) := by decide +kernel
theorem dX7_init_34 : decode cX7_init 34 = .ok (.putfield 21, 3) := by decide +kernel
theorem dX7_init_37 : decode cX7_init 37 = .ok (.aload_n 0, 1) := by decide +kernel
theorem dX7_init_38 : decode cX7_init 38 = .ok (.sipush 300, 3) := by decide +kernel
theorem dX7_init_41 : decode cX7_init 41 = .ok (.newarray .int, 2) := by decide +kernel
theorem dX7_init_43 : decode cX7_init 43 = .ok (.putfield 24, 3) := by decide +kernel
theorem dX7_init_46 : decode cX7_init 46 = .ok (.return_, 1) := by decide +kernel
abbrev r_c_Names_init24 : Room := { frames := 1, cells := 1, slots := 24, locals := 20 }
abbrev q_c_Names_init24 (D : va_G) (h0 : Nat) (A : Nat → Prop) : Array Value → State → Outcome → State → Prop := va_Qv (fun (u : Nat) => True) (fun u t => gq D A ((fun (u : Nat) => [(h0, .inr (6, [.ref u, .int 0]))]) u) ((fun (u : Nat) => ([] : List (ClassId × FieldType))) u) t) A
set_option maxHeartbeats 4000000 in
set_option maxRecDepth 100000 in
/-- Names(24) -/
theorem c_Names_init24 (l : Launch) (D : va_G) (ks : Nat × Nat × Option Nat) (sz : Nat) (h0 : Nat) : Met l yX6_init (Cond.code yX6_init cX6_init 2 none :: GW) r_c_Names_init24 (va_Pc [.ref h0, .int 24] (gp D ks [(h0, .inr (6, [.null, .int 0]))] [] sz)) (q_c_Names_init24 D h0 (va_A [(h0, .inr (6, [.null, .int 0]))] sz)) 1 24 (va_A [(h0, .inr (6, [.null, .int 0]))] sz) := by
  refine g_met (q_c_Names_init24 D h0) (by decide) (Nat.le_of_ble_eq_true rfl) ?_
  intro p e s m below meth c A ls H locs hx hb hr hml hown hg hlocks hin hnw hgk hP hK hD hS hA hl
  have hown : s.vm.findClass RX6 = some m.cls := hown
  have hin : meth.name = "<init>" := hin
  have hl : lv_has ls 2 [(0, .ref h0), (1, .int 24)] := hl
  refine lv_aload_n hx hb dX6_init_0 rfl (lv_at hl 0 rfl) ?_
  refine W.objInit hx hb hown (hg _ w478) (hg _ w188) (hg _ wobj) rfl (by rw [hml]; exact hl.1) rfl dX6_init_1 (Nat.le_of_ble_eq_true rfl) (Nat.le_of_ble_eq_true rfl) ?_
  refine W.eq (g2 := F0 m 4 ls []) rfl ?_
  refine lv_aload_n hx hb dX6_init_4 rfl (lv_at hl 0 rfl) ?_
  refine lv_iload_n hx hb dX6_init_5 rfl (lv_at hl 1 rfl) ?_
  refine lv_if_le (tgt := 13) hx hb dX6_init_6 (by decide) (fun q => absurd q (by decide)) (fun _ => ?_)
  refine lv_iload_n hx hb dX6_init_9 rfl (lv_at hl 1 rfl) ?_
  refine lv_goto (tgt := 14) hx hb dX6_init_10 (by decide) ?_
  refine va_newa (D := D) (atype := .long) (ty := .long) (n := 24) (N' := 24) (a0 := (24, .inr (.inl (fun _ => 0)))) hx hb (hg _ w296) rfl hK hP hD hS hA (fun _ => rfl) (by decide) (by decide) (by decide) (Nat.le_of_ble_eq_true rfl) (Nat.le_of_ble_eq_true rfl) dX6_init_14 (fun q1 k2 H hK hP hD hS => ?_)
  have hP : va_P D vwCl [(h0, .inr (6, [.null, .int 0])), (q1, .inl (k2, 24, .inr (.inl (fun _ => 0))))] H := hP
  have hD : va_D A [(h0, .inr (6, [.null, .int 0])), (q1, .inl (k2, 24, .inr (.inl (fun _ => 0))))] := hD
  have hK : va_K D vwCl [(k2, .long)] s := hK
  refine va_putF (D := D) (ci := 6) (v := .ref q1) (ty := tyX6 0) (C := RX6) (T := TX6) (N := 2) hx hb hg inX6 tyX6 tyX6_ok nmX6 hown hK hP hD hS 0 rfl rfl 0 (by decide) (hg _ w479) (fun _ h9 => h9) rfl hin rfl (tyX6_ok 0 (by decide)) rfl rfl (Nat.le_of_ble_eq_true rfl) dX6_init_16 (fun H locs hP hD hS => ?_)
  have hP : va_P D vwCl [(h0, .inr (6, [.ref q1, .int 0])), (q1, .inl (k2, 24, .inr (.inl (fun _ => 0))))] H := hP
  have hD : va_D A [(h0, .inr (6, [.ref q1, .int 0])), (q1, .inl (k2, 24, .inr (.inl (fun _ => 0))))] := hD
  refine W.widen (k := 1) (n := 24) (Nat.le_of_ble_eq_true rfl) (Nat.le_of_ble_eq_true rfl) ?_
  have hP9 := hP.sub (ws' := [(h0, .inr (6, [.ref q1, .int 0]))]) [0] rfl
  have hD9 := hD.sub (ws' := [(h0, .inr (6, [.ref q1, .int 0]))]) [0] (by decide) rfl
  have hK9 := hK.sub (tys' := []) [] rfl
  exact W.vret hx hb hr (fun t ht hW => ⟨⟨(q1), rfl, (by first | rfl | trivial | assumption | decide), by rw [ht]; exact hP9, va_K.moved hW.alike hK9, hD9⟩, hS.F ht⟩) hS.2.2 dX6_init_19
abbrev r_c_Names_init12 : Room := { frames := 1, cells := 1, slots := 12, locals := 20 }
abbrev q_c_Names_init12 (D : va_G) (h0 : Nat) (A : Nat → Prop) : Array Value → State → Outcome → State → Prop := va_Qv (fun (u : Nat) => True) (fun u t => gq D A ((fun (u : Nat) => [(h0, .inr (6, [.ref u, .int 0]))]) u) ((fun (u : Nat) => ([] : List (ClassId × FieldType))) u) t) A
set_option maxHeartbeats 4000000 in
set_option maxRecDepth 100000 in
/-- Names(12) -/
theorem c_Names_init12 (l : Launch) (D : va_G) (ks : Nat × Nat × Option Nat) (sz : Nat) (h0 : Nat) : Met l yX6_init (Cond.code yX6_init cX6_init 2 none :: GW) r_c_Names_init12 (va_Pc [.ref h0, .int 12] (gp D ks [(h0, .inr (6, [.null, .int 0]))] [] sz)) (q_c_Names_init12 D h0 (va_A [(h0, .inr (6, [.null, .int 0]))] sz)) 1 12 (va_A [(h0, .inr (6, [.null, .int 0]))] sz) := by
  refine g_met (q_c_Names_init12 D h0) (by decide) (Nat.le_of_ble_eq_true rfl) ?_
  intro p e s m below meth c A ls H locs hx hb hr hml hown hg hlocks hin hnw hgk hP hK hD hS hA hl
  have hown : s.vm.findClass RX6 = some m.cls := hown
  have hin : meth.name = "<init>" := hin
  have hl : lv_has ls 2 [(0, .ref h0), (1, .int 12)] := hl
  refine lv_aload_n hx hb dX6_init_0 rfl (lv_at hl 0 rfl) ?_
  refine W.objInit hx hb hown (hg _ w478) (hg _ w188) (hg _ wobj) rfl (by rw [hml]; exact hl.1) rfl dX6_init_1 (Nat.le_of_ble_eq_true rfl) (Nat.le_of_ble_eq_true rfl) ?_
  refine W.eq (g2 := F0 m 4 ls []) rfl ?_
  refine lv_aload_n hx hb dX6_init_4 rfl (lv_at hl 0 rfl) ?_
  refine lv_iload_n hx hb dX6_init_5 rfl (lv_at hl 1 rfl) ?_
  refine lv_if_le (tgt := 13) hx hb dX6_init_6 (by decide) (fun q => absurd q (by decide)) (fun _ => ?_)
  refine lv_iload_n hx hb dX6_init_9 rfl (lv_at hl 1 rfl) ?_
  refine lv_goto (tgt := 14) hx hb dX6_init_10 (by decide) ?_
  refine va_newa (D := D) (atype := .long) (ty := .long) (n := 12) (N' := 12) (a0 := (12, .inr (.inl (fun _ => 0)))) hx hb (hg _ w296) rfl hK hP hD hS hA (fun _ => rfl) (by decide) (by decide) (by decide) (Nat.le_of_ble_eq_true rfl) (Nat.le_of_ble_eq_true rfl) dX6_init_14 (fun q1 k2 H hK hP hD hS => ?_)
  have hP : va_P D vwCl [(h0, .inr (6, [.null, .int 0])), (q1, .inl (k2, 12, .inr (.inl (fun _ => 0))))] H := hP
  have hD : va_D A [(h0, .inr (6, [.null, .int 0])), (q1, .inl (k2, 12, .inr (.inl (fun _ => 0))))] := hD
  have hK : va_K D vwCl [(k2, .long)] s := hK
  refine va_putF (D := D) (ci := 6) (v := .ref q1) (ty := tyX6 0) (C := RX6) (T := TX6) (N := 2) hx hb hg inX6 tyX6 tyX6_ok nmX6 hown hK hP hD hS 0 rfl rfl 0 (by decide) (hg _ w479) (fun _ h9 => h9) rfl hin rfl (tyX6_ok 0 (by decide)) rfl rfl (Nat.le_of_ble_eq_true rfl) dX6_init_16 (fun H locs hP hD hS => ?_)
  have hP : va_P D vwCl [(h0, .inr (6, [.ref q1, .int 0])), (q1, .inl (k2, 12, .inr (.inl (fun _ => 0))))] H := hP
  have hD : va_D A [(h0, .inr (6, [.ref q1, .int 0])), (q1, .inl (k2, 12, .inr (.inl (fun _ => 0))))] := hD
  refine W.widen (k := 1) (n := 12) (Nat.le_of_ble_eq_true rfl) (Nat.le_of_ble_eq_true rfl) ?_
  have hP9 := hP.sub (ws' := [(h0, .inr (6, [.ref q1, .int 0]))]) [0] rfl
  have hD9 := hD.sub (ws' := [(h0, .inr (6, [.ref q1, .int 0]))]) [0] (by decide) rfl
  have hK9 := hK.sub (tys' := []) [] rfl
  exact W.vret hx hb hr (fun t ht hW => ⟨⟨(q1), rfl, (by first | rfl | trivial | assumption | decide), by rw [ht]; exact hP9, va_K.moved hW.alike hK9, hD9⟩, hS.F ht⟩) hS.2.2 dX6_init_19
abbrev r_c_Names_init20 : Room := { frames := 1, cells := 1, slots := 20, locals := 20 }
abbrev q_c_Names_init20 (D : va_G) (h0 : Nat) (A : Nat → Prop) : Array Value → State → Outcome → State → Prop := va_Qv (fun (u : Nat) => True) (fun u t => gq D A ((fun (u : Nat) => [(h0, .inr (6, [.ref u, .int 0]))]) u) ((fun (u : Nat) => ([] : List (ClassId × FieldType))) u) t) A
set_option maxHeartbeats 4000000 in
set_option maxRecDepth 100000 in
/-- Names(20) -/
theorem c_Names_init20 (l : Launch) (D : va_G) (ks : Nat × Nat × Option Nat) (sz : Nat) (h0 : Nat) : Met l yX6_init (Cond.code yX6_init cX6_init 2 none :: GW) r_c_Names_init20 (va_Pc [.ref h0, .int 20] (gp D ks [(h0, .inr (6, [.null, .int 0]))] [] sz)) (q_c_Names_init20 D h0 (va_A [(h0, .inr (6, [.null, .int 0]))] sz)) 1 20 (va_A [(h0, .inr (6, [.null, .int 0]))] sz) := by
  refine g_met (q_c_Names_init20 D h0) (by decide) (Nat.le_of_ble_eq_true rfl) ?_
  intro p e s m below meth c A ls H locs hx hb hr hml hown hg hlocks hin hnw hgk hP hK hD hS hA hl
  have hown : s.vm.findClass RX6 = some m.cls := hown
  have hin : meth.name = "<init>" := hin
  have hl : lv_has ls 2 [(0, .ref h0), (1, .int 20)] := hl
  refine lv_aload_n hx hb dX6_init_0 rfl (lv_at hl 0 rfl) ?_
  refine W.objInit hx hb hown (hg _ w478) (hg _ w188) (hg _ wobj) rfl (by rw [hml]; exact hl.1) rfl dX6_init_1 (Nat.le_of_ble_eq_true rfl) (Nat.le_of_ble_eq_true rfl) ?_
  refine W.eq (g2 := F0 m 4 ls []) rfl ?_
  refine lv_aload_n hx hb dX6_init_4 rfl (lv_at hl 0 rfl) ?_
  refine lv_iload_n hx hb dX6_init_5 rfl (lv_at hl 1 rfl) ?_
  refine lv_if_le (tgt := 13) hx hb dX6_init_6 (by decide) (fun q => absurd q (by decide)) (fun _ => ?_)
  refine lv_iload_n hx hb dX6_init_9 rfl (lv_at hl 1 rfl) ?_
  refine lv_goto (tgt := 14) hx hb dX6_init_10 (by decide) ?_
  refine va_newa (D := D) (atype := .long) (ty := .long) (n := 20) (N' := 20) (a0 := (20, .inr (.inl (fun _ => 0)))) hx hb (hg _ w296) rfl hK hP hD hS hA (fun _ => rfl) (by decide) (by decide) (by decide) (Nat.le_of_ble_eq_true rfl) (Nat.le_of_ble_eq_true rfl) dX6_init_14 (fun q1 k2 H hK hP hD hS => ?_)
  have hP : va_P D vwCl [(h0, .inr (6, [.null, .int 0])), (q1, .inl (k2, 20, .inr (.inl (fun _ => 0))))] H := hP
  have hD : va_D A [(h0, .inr (6, [.null, .int 0])), (q1, .inl (k2, 20, .inr (.inl (fun _ => 0))))] := hD
  have hK : va_K D vwCl [(k2, .long)] s := hK
  refine va_putF (D := D) (ci := 6) (v := .ref q1) (ty := tyX6 0) (C := RX6) (T := TX6) (N := 2) hx hb hg inX6 tyX6 tyX6_ok nmX6 hown hK hP hD hS 0 rfl rfl 0 (by decide) (hg _ w479) (fun _ h9 => h9) rfl hin rfl (tyX6_ok 0 (by decide)) rfl rfl (Nat.le_of_ble_eq_true rfl) dX6_init_16 (fun H locs hP hD hS => ?_)
  have hP : va_P D vwCl [(h0, .inr (6, [.ref q1, .int 0])), (q1, .inl (k2, 20, .inr (.inl (fun _ => 0))))] H := hP
  have hD : va_D A [(h0, .inr (6, [.ref q1, .int 0])), (q1, .inl (k2, 20, .inr (.inl (fun _ => 0))))] := hD
  refine W.widen (k := 1) (n := 20) (Nat.le_of_ble_eq_true rfl) (Nat.le_of_ble_eq_true rfl) ?_
  have hP9 := hP.sub (ws' := [(h0, .inr (6, [.ref q1, .int 0]))]) [0] rfl
  have hD9 := hD.sub (ws' := [(h0, .inr (6, [.ref q1, .int 0]))]) [0] (by decide) rfl
  have hK9 := hK.sub (tys' := []) [] rfl
  exact W.vret hx hb hr (fun t ht hW => ⟨⟨(q1), rfl, (by first | rfl | trivial | assumption | decide), by rw [ht]; exact hP9, va_K.moved hW.alike hK9, hD9⟩, hS.F ht⟩) hS.2.2 dX6_init_19
abbrev r_c_Wrap_init : Room := { frames := 1, cells := 0, slots := 0, locals := 20 }
abbrev q_c_Wrap_init (D : va_G) (h0 : Nat) (A : Nat → Prop) : Array Value → State → Outcome → State → Prop := va_Qv (fun (_ : Unit) => True) (fun u t => gq D A ((fun (_ : Unit) => [(h0, .inr (10, [.int 0, .int 0, .int 0, .int 0, .int 0]))]) u) ((fun (_ : Unit) => ([] : List (ClassId × FieldType))) u) t) A
set_option maxHeartbeats 4000000 in
set_option maxRecDepth 100000 in
theorem c_Wrap_init (l : Launch) (D : va_G) (ks : Nat × Nat × Option Nat) (sz : Nat) (h0 : Nat) : Met l yX10_init (Cond.code yX10_init cX10_init 1 none :: GW) r_c_Wrap_init (va_Pc [.ref h0] (gp D ks [(h0, .inr (10, [.int 0, .int 0, .int 0, .int 0, .int 0]))] [] sz)) (q_c_Wrap_init D h0 (va_A [(h0, .inr (10, [.int 0, .int 0, .int 0, .int 0, .int 0]))] sz)) 0 0 (va_A [(h0, .inr (10, [.int 0, .int 0, .int 0, .int 0, .int 0]))] sz) := by
  refine g_met (q_c_Wrap_init D h0) (by decide) (Nat.le_of_ble_eq_true rfl) ?_
  intro p e s m below meth c A ls H locs hx hb hr hml hown hg hlocks hin hnw hgk hP hK hD hS hA hl
  have hown : s.vm.findClass RX10 = some m.cls := hown
  have hin : meth.name = "<init>" := hin
  have hl : lv_has ls 1 [(0, .ref h0)] := hl
  refine lv_aload_n hx hb dX10_init_0 rfl (lv_at hl 0 rfl) ?_
  refine W.objInit hx hb hown (hg _ w574) (hg _ w188) (hg _ wobj) rfl (by rw [hml]; exact hl.1) rfl dX10_init_1 (Nat.le_of_ble_eq_true rfl) (Nat.le_of_ble_eq_true rfl) ?_
  refine W.eq (g2 := F0 m 4 ls []) rfl ?_
  refine W.widen (k := 0) (n := 0) (Nat.le_of_ble_eq_true rfl) (Nat.le_of_ble_eq_true rfl) ?_
  have hP9 := hP.sub (ws' := [(h0, .inr (10, [.int 0, .int 0, .int 0, .int 0, .int 0]))]) [0] rfl
  have hD9 := hD.sub (ws' := [(h0, .inr (10, [.int 0, .int 0, .int 0, .int 0, .int 0]))]) [0] (by decide) rfl
  have hK9 := hK.sub (tys' := []) [] rfl
  exact W.vret hx hb hr (fun t ht hW => ⟨⟨(), rfl, (by first | rfl | trivial | assumption | decide), by rw [ht]; exact hP9, va_K.moved hW.alike hK9, hD9⟩, hS.F ht⟩) hS.2.2 dX10_init_4
abbrev r_c_Component_init : Room := { frames := 1, cells := 4, slots := 44, locals := 20 }
abbrev q_c_Component_init (D : va_G) (h0 : Nat) (A : Nat → Prop) : Array Value → State → Outcome → State → Prop := va_Qv (fun (u : List Value) => True) (fun u t => gq D A ((fun (u : List Value) => [(h0, .inr (3, u))]) u) ((fun (u : List Value) => ([] : List (ClassId × FieldType))) u) t) A
set_option maxHeartbeats 4000000 in
set_option maxRecDepth 100000 in
theorem c_Component_init (l : Launch) (D : va_G) (ks : Nat × Nat × Option Nat) (sz : Nat) (h0 : Nat) : Met l yX3_init (Cond.code yX3_init cX3_init 1 none :: GW) r_c_Component_init (va_Pc [.ref h0] (gp D ks [(h0, .inr (3, [.null, .null, .null, .null, .int 0, .int 0, .int 0, .int 0, .int 0, .int 0, .int 0, .int 0, .int 0]))] [] sz)) (q_c_Component_init D h0 (va_A [(h0, .inr (3, [.null, .null, .null, .null, .int 0, .int 0, .int 0, .int 0, .int 0, .int 0, .int 0, .int 0, .int 0]))] sz)) 4 44 (va_A [(h0, .inr (3, [.null, .null, .null, .null, .int 0, .int 0, .int 0, .int 0, .int 0, .int 0, .int 0, .int 0, .int 0]))] sz) := by
  refine g_met (q_c_Component_init D h0) (by decide) (Nat.le_of_ble_eq_true rfl) ?_
  intro p e s m below meth c A ls H locs hx hb hr hml hown hg hlocks hin hnw hgk hP hK hD hS hA hl
  have hown : s.vm.findClass RX3 = some m.cls := hown
  have hin : meth.name = "<init>" := hin
  have hl : lv_has ls 1 [(0, .ref h0)] := hl
  refine lv_aload_n hx hb dX3_init_0 rfl (lv_at hl 0 rfl) ?_
  refine W.objInit hx hb hown (hg _ w498) (hg _ w188) (hg _ wobj) rfl (by rw [hml]; exact hl.1) rfl dX3_init_1 (Nat.le_of_ble_eq_true rfl) (Nat.le_of_ble_eq_true rfl) ?_
  refine W.eq (g2 := F0 m 4 ls []) rfl ?_
  refine lv_aload_n hx hb dX3_init_4 rfl (lv_at hl 0 rfl) ?_
  refine lv_bipush (v := 8) hx hb dX3_init_5 (by decide) ?_
  refine va_newa (D := D) (atype := .int) (ty := .int) (n := 8) (N' := 8) (a0 := (8, .inl (fun _ => 0))) hx hb (hg _ w297) rfl hK hP hD hS hA (fun _ => rfl) (by decide) (by decide) (by decide) (Nat.le_of_ble_eq_true rfl) (Nat.le_of_ble_eq_true rfl) dX3_init_7 (fun q1 k2 H hK hP hD hS => ?_)
  have hP : va_P D vwCl [(h0, .inr (3, [.null, .null, .null, .null, .int 0, .int 0, .int 0, .int 0, .int 0, .int 0, .int 0, .int 0, .int 0])), (q1, .inl (k2, 8, .inl (fun _ => 0)))] H := hP
  have hD : va_D A [(h0, .inr (3, [.null, .null, .null, .null, .int 0, .int 0, .int 0, .int 0, .int 0, .int 0, .int 0, .int 0, .int 0])), (q1, .inl (k2, 8, .inl (fun _ => 0)))] := hD
  have hK : va_K D vwCl [(k2, .int)] s := hK
  refine va_putF (D := D) (ci := 3) (v := .ref q1) (ty := tyX3 0) (C := RX3) (T := TX3) (N := 13) hx hb hg inX3 tyX3 tyX3_ok nmX3 hown hK hP hD hS 0 rfl rfl 0 (by decide) (hg _ w499) (fun _ h9 => h9) rfl hin rfl (tyX3_ok 0 (by decide)) rfl rfl (Nat.le_of_ble_eq_true rfl) dX3_init_9 (fun H locs hP hD hS => ?_)
  have hP : va_P D vwCl [(h0, .inr (3, [.ref q1, .null, .null, .null, .int 0, .int 0, .int 0, .int 0, .int 0, .int 0, .int 0, .int 0, .int 0])), (q1, .inl (k2, 8, .inl (fun _ => 0)))] H := hP
  have hD : va_D A [(h0, .inr (3, [.ref q1, .null, .null, .null, .int 0, .int 0, .int 0, .int 0, .int 0, .int 0, .int 0, .int 0, .int 0])), (q1, .inl (k2, 8, .inl (fun _ => 0)))] := hD
  refine lv_aload_n hx hb dX3_init_12 rfl (lv_at hl 0 rfl) ?_
  refine lv_bipush (v := 8) hx hb dX3_init_13 (by decide) ?_
  refine va_newa (D := D) (atype := .int) (ty := .int) (n := 8) (N' := 8) (a0 := (8, .inl (fun _ => 0))) hx hb (hg _ w297) rfl hK hP hD hS hA (fun _ => rfl) (by decide) (by decide) (by decide) (Nat.le_of_ble_eq_true rfl) (Nat.le_of_ble_eq_true rfl) dX3_init_15 (fun q3 k4 H hK hP hD hS => ?_)
  have hP : va_P D vwCl [(h0, .inr (3, [.ref q1, .null, .null, .null, .int 0, .int 0, .int 0, .int 0, .int 0, .int 0, .int 0, .int 0, .int 0])), (q1, .inl (k2, 8, .inl (fun _ => 0))), (q3, .inl (k4, 8, .inl (fun _ => 0)))] H := hP
  have hD : va_D A [(h0, .inr (3, [.ref q1, .null, .null, .null, .int 0, .int 0, .int 0, .int 0, .int 0, .int 0, .int 0, .int 0, .int 0])), (q1, .inl (k2, 8, .inl (fun _ => 0))), (q3, .inl (k4, 8, .inl (fun _ => 0)))] := hD
  have hK : va_K D vwCl [(k2, .int), (k4, .int)] s := hK
  refine va_putF (D := D) (ci := 3) (v := .ref q3) (ty := tyX3 1) (C := RX3) (T := TX3) (N := 13) hx hb hg inX3 tyX3 tyX3_ok nmX3 hown hK hP hD hS 0 rfl rfl 1 (by decide) (hg _ w501) (fun _ h9 => h9) rfl hin rfl (tyX3_ok 1 (by decide)) rfl rfl (Nat.le_of_ble_eq_true rfl) dX3_init_17 (fun H locs hP hD hS => ?_)
  have hP : va_P D vwCl [(h0, .inr (3, [.ref q1, .ref q3, .null, .null, .int 0, .int 0, .int 0, .int 0, .int 0, .int 0, .int 0, .int 0, .int 0])), (q1, .inl (k2, 8, .inl (fun _ => 0))), (q3, .inl (k4, 8, .inl (fun _ => 0)))] H := hP
  have hD : va_D A [(h0, .inr (3, [.ref q1, .ref q3, .null, .null, .int 0, .int 0, .int 0, .int 0, .int 0, .int 0, .int 0, .int 0, .int 0])), (q1, .inl (k2, 8, .inl (fun _ => 0))), (q3, .inl (k4, 8, .inl (fun _ => 0)))] := hD
  refine lv_aload_n hx hb dX3_init_20 rfl (lv_at hl 0 rfl) ?_
  refine lv_bipush (v := 8) hx hb dX3_init_21 (by decide) ?_
  refine va_newa (D := D) (atype := .int) (ty := .int) (n := 8) (N' := 8) (a0 := (8, .inl (fun _ => 0))) hx hb (hg _ w297) rfl hK hP hD hS hA (fun _ => rfl) (by decide) (by decide) (by decide) (Nat.le_of_ble_eq_true rfl) (Nat.le_of_ble_eq_true rfl) dX3_init_23 (fun q5 k6 H hK hP hD hS => ?_)
  have hP : va_P D vwCl [(h0, .inr (3, [.ref q1, .ref q3, .null, .null, .int 0, .int 0, .int 0, .int 0, .int 0, .int 0, .int 0, .int 0, .int 0])), (q1, .inl (k2, 8, .inl (fun _ => 0))), (q3, .inl (k4, 8, .inl (fun _ => 0))), (q5, .inl (k6, 8, .inl (fun _ => 0)))] H := hP
  have hD : va_D A [(h0, .inr (3, [.ref q1, .ref q3, .null, .null, .int 0, .int 0, .int 0, .int 0, .int 0, .int 0, .int 0, .int 0, .int 0])), (q1, .inl (k2, 8, .inl (fun _ => 0))), (q3, .inl (k4, 8, .inl (fun _ => 0))), (q5, .inl (k6, 8, .inl (fun _ => 0)))] := hD
  have hK : va_K D vwCl [(k2, .int), (k4, .int), (k6, .int)] s := hK
  refine va_putF (D := D) (ci := 3) (v := .ref q5) (ty := tyX3 2) (C := RX3) (T := TX3) (N := 13) hx hb hg inX3 tyX3 tyX3_ok nmX3 hown hK hP hD hS 0 rfl rfl 2 (by decide) (hg _ w503) (fun _ h9 => h9) rfl hin rfl (tyX3_ok 2 (by decide)) rfl rfl (Nat.le_of_ble_eq_true rfl) dX3_init_25 (fun H locs hP hD hS => ?_)
  have hP : va_P D vwCl [(h0, .inr (3, [.ref q1, .ref q3, .ref q5, .null, .int 0, .int 0, .int 0, .int 0, .int 0, .int 0, .int 0, .int 0, .int 0])), (q1, .inl (k2, 8, .inl (fun _ => 0))), (q3, .inl (k4, 8, .inl (fun _ => 0))), (q5, .inl (k6, 8, .inl (fun _ => 0)))] H := hP
  have hD : va_D A [(h0, .inr (3, [.ref q1, .ref q3, .ref q5, .null, .int 0, .int 0, .int 0, .int 0, .int 0, .int 0, .int 0, .int 0, .int 0])), (q1, .inl (k2, 8, .inl (fun _ => 0))), (q3, .inl (k4, 8, .inl (fun _ => 0))), (q5, .inl (k6, 8, .inl (fun _ => 0)))] := hD
  refine lv_aload_n hx hb dX3_init_28 rfl (lv_at hl 0 rfl) ?_
  refine lv_bipush (v := 20) hx hb dX3_init_29 (by decide) ?_
  refine va_newa (D := D) (atype := .int) (ty := .int) (n := 20) (N' := 20) (a0 := (20, .inl (fun _ => 0))) hx hb (hg _ w297) rfl hK hP hD hS hA (fun _ => rfl) (by decide) (by decide) (by decide) (Nat.le_of_ble_eq_true rfl) (Nat.le_of_ble_eq_true rfl) dX3_init_31 (fun q7 k8 H hK hP hD hS => ?_)
  have hP : va_P D vwCl [(h0, .inr (3, [.ref q1, .ref q3, .ref q5, .null, .int 0, .int 0, .int 0, .int 0, .int 0, .int 0, .int 0, .int 0, .int 0])), (q1, .inl (k2, 8, .inl (fun _ => 0))), (q3, .inl (k4, 8, .inl (fun _ => 0))), (q5, .inl (k6, 8, .inl (fun _ => 0))), (q7, .inl (k8, 20, .inl (fun _ => 0)))] H := hP
  have hD : va_D A [(h0, .inr (3, [.ref q1, .ref q3, .ref q5, .null, .int 0, .int 0, .int 0, .int 0, .int 0, .int 0, .int 0, .int 0, .int 0])), (q1, .inl (k2, 8, .inl (fun _ => 0))), (q3, .inl (k4, 8, .inl (fun _ => 0))), (q5, .inl (k6, 8, .inl (fun _ => 0))), (q7, .inl (k8, 20, .inl (fun _ => 0)))] := hD
  have hK : va_K D vwCl [(k2, .int), (k4, .int), (k6, .int), (k8, .int)] s := hK
  refine va_putF (D := D) (ci := 3) (v := .ref q7) (ty := tyX3 3) (C := RX3) (T := TX3) (N := 13) hx hb hg inX3 tyX3 tyX3_ok nmX3 hown hK hP hD hS 0 rfl rfl 3 (by decide) (hg _ w507) (fun _ h9 => h9) rfl hin rfl (tyX3_ok 3 (by decide)) rfl rfl (Nat.le_of_ble_eq_true rfl) dX3_init_33 (fun H locs hP hD hS => ?_)
  have hP : va_P D vwCl [(h0, .inr (3, [.ref q1, .ref q3, .ref q5, .ref q7, .int 0, .int 0, .int 0, .int 0, .int 0, .int 0, .int 0, .int 0, .int 0])), (q1, .inl (k2, 8, .inl (fun _ => 0))), (q3, .inl (k4, 8, .inl (fun _ => 0))), (q5, .inl (k6, 8, .inl (fun _ => 0))), (q7, .inl (k8, 20, .inl (fun _ => 0)))] H := hP
  have hD : va_D A [(h0, .inr (3, [.ref q1, .ref q3, .ref q5, .ref q7, .int 0, .int 0, .int 0, .int 0, .int 0, .int 0, .int 0, .int 0, .int 0])), (q1, .inl (k2, 8, .inl (fun _ => 0))), (q3, .inl (k4, 8, .inl (fun _ => 0))), (q5, .inl (k6, 8, .inl (fun _ => 0))), (q7, .inl (k8, 20, .inl (fun _ => 0)))] := hD
  refine W.widen (k := 4) (n := 44) (Nat.le_of_ble_eq_true rfl) (Nat.le_of_ble_eq_true rfl) ?_
  have hP9 := hP.sub (ws' := [(h0, .inr (3, [.ref q1, .ref q3, .ref q5, .ref q7, .int 0, .int 0, .int 0, .int 0, .int 0, .int 0, .int 0, .int 0, .int 0]))]) [0] rfl
  have hD9 := hD.sub (ws' := [(h0, .inr (3, [.ref q1, .ref q3, .ref q5, .ref q7, .int 0, .int 0, .int 0, .int 0, .int 0, .int 0, .int 0, .int 0, .int 0]))]) [0] (by decide) rfl
  have hK9 := hK.sub (tys' := []) [] rfl
  exact W.vret hx hb hr (fun t ht hW => ⟨⟨([.ref q1, .ref q3, .ref q5, .ref q7, .int 0, .int 0, .int 0, .int 0, .int 0, .int 0, .int 0, .int 0, .int 0]), rfl, (by first | rfl | trivial | assumption | decide), by rw [ht]; exact hP9, va_K.moved hW.alike hK9, hD9⟩, hS.F ht⟩) hS.2.2 dX3_init_36
abbrev r_c_Notes_init : Room := { frames := 1, cells := 5, slots := 900, locals := 20 }
abbrev q_c_Notes_init (D : va_G) (h0 : Nat) (A : Nat → Prop) : Array Value → State → Outcome → State → Prop := va_Qv (fun (u : Nat × Nat × Nat × Nat × Nat) => True) (fun u t => gq D A ((fun (u : Nat × Nat × Nat × Nat × Nat) => [(h0, .inr (7, [.ref u.1, .ref u.2.1, .ref u.2.2.1, .ref u.2.2.2.1, .ref u.2.2.2.2, .int 0, .int 0, .int 0, .int 0, .int 0]))]) u) ((fun (u : Nat × Nat × Nat × Nat × Nat) => ([] : List (ClassId × FieldType))) u) t) A
set_option maxHeartbeats 4000000 in
set_option maxRecDepth 100000 in
theorem c_Notes_init (l : Launch) (D : va_G) (ks : Nat × Nat × Option Nat) (sz : Nat) (h0 : Nat) : Met l yX7_init (Cond.code yX7_init cX7_init 1 none :: GW) r_c_Notes_init (va_Pc [.ref h0] (gp D ks [(h0, .inr (7, [.null, .null, .null, .null, .null, .int 0, .int 0, .int 0, .int 0, .int 0]))] [] sz)) (q_c_Notes_init D h0 (va_A [(h0, .inr (7, [.null, .null, .null, .null, .null, .int 0, .int 0, .int 0, .int 0, .int 0]))] sz)) 5 900 (va_A [(h0, .inr (7, [.null, .null, .null, .null, .null, .int 0, .int 0, .int 0, .int 0, .int 0]))] sz) := by
  refine g_met (q_c_Notes_init D h0) (by decide) (Nat.le_of_ble_eq_true rfl) ?_
  intro p e s m below meth c A ls H locs hx hb hr hml hown hg hlocks hin hnw hgk hP hK hD hS hA hl
  have hown : s.vm.findClass RX7 = some m.cls := hown
  have hin : meth.name = "<init>" := hin
  have hl : lv_has ls 1 [(0, .ref h0)] := hl
  refine lv_aload_n hx hb dX7_init_0 rfl (lv_at hl 0 rfl) ?_
  refine W.objInit hx hb hown (hg _ w434) (hg _ w188) (hg _ wobj) rfl (by rw [hml]; exact hl.1) rfl dX7_init_1 (Nat.le_of_ble_eq_true rfl) (Nat.le_of_ble_eq_true rfl) ?_
  refine W.eq (g2 := F0 m 4 ls []) rfl ?_
  refine lv_aload_n hx hb dX7_init_4 rfl (lv_at hl 0 rfl) ?_
  refine lv_bipush (v := 100) hx hb dX7_init_5 (by decide) ?_
  refine va_newa (D := D) (atype := .int) (ty := .int) (n := 100) (N' := 100) (a0 := (100, .inl (fun _ => 0))) hx hb (hg _ w297) rfl hK hP hD hS hA (fun _ => rfl) (by decide) (by decide) (by decide) (Nat.le_of_ble_eq_true rfl) (Nat.le_of_ble_eq_true rfl) dX7_init_7 (fun q1 k2 H hK hP hD hS => ?_)
  have hP : va_P D vwCl [(h0, .inr (7, [.null, .null, .null, .null, .null, .int 0, .int 0, .int 0, .int 0, .int 0])), (q1, .inl (k2, 100, .inl (fun _ => 0)))] H := hP
  have hD : va_D A [(h0, .inr (7, [.null, .null, .null, .null, .null, .int 0, .int 0, .int 0, .int 0, .int 0])), (q1, .inl (k2, 100, .inl (fun _ => 0)))] := hD
  have hK : va_K D vwCl [(k2, .int)] s := hK
  refine va_putF (D := D) (ci := 7) (v := .ref q1) (ty := tyX7 0) (C := RX7) (T := TX7) (N := 10) hx hb hg inX7 tyX7 tyX7_ok nmX7 hown hK hP hD hS 0 rfl rfl 0 (by decide) (hg _ w435) (fun _ h9 => h9) rfl hin rfl (tyX7_ok 0 (by decide)) rfl rfl (Nat.le_of_ble_eq_true rfl) dX7_init_9 (fun H locs hP hD hS => ?_)
  have hP : va_P D vwCl [(h0, .inr (7, [.ref q1, .null, .null, .null, .null, .int 0, .int 0, .int 0, .int 0, .int 0])), (q1, .inl (k2, 100, .inl (fun _ => 0)))] H := hP
  have hD : va_D A [(h0, .inr (7, [.ref q1, .null, .null, .null, .null, .int 0, .int 0, .int 0, .int 0, .int 0])), (q1, .inl (k2, 100, .inl (fun _ => 0)))] := hD
  refine lv_aload_n hx hb dX7_init_12 rfl (lv_at hl 0 rfl) ?_
  refine lv_bipush (v := 100) hx hb dX7_init_13 (by decide) ?_
  refine va_newa (D := D) (atype := .int) (ty := .int) (n := 100) (N' := 100) (a0 := (100, .inl (fun _ => 0))) hx hb (hg _ w297) rfl hK hP hD hS hA (fun _ => rfl) (by decide) (by decide) (by decide) (Nat.le_of_ble_eq_true rfl) (Nat.le_of_ble_eq_true rfl) dX7_init_15 (fun q3 k4 H hK hP hD hS => ?_)
  have hP : va_P D vwCl [(h0, .inr (7, [.ref q1, .null, .null, .null, .null, .int 0, .int 0, .int 0, .int 0, .int 0])), (q1, .inl (k2, 100, .inl (fun _ => 0))), (q3, .inl (k4, 100, .inl (fun _ => 0)))] H := hP
  have hD : va_D A [(h0, .inr (7, [.ref q1, .null, .null, .null, .null, .int 0, .int 0, .int 0, .int 0, .int 0])), (q1, .inl (k2, 100, .inl (fun _ => 0))), (q3, .inl (k4, 100, .inl (fun _ => 0)))] := hD
  have hK : va_K D vwCl [(k2, .int), (k4, .int)] s := hK
  refine va_putF (D := D) (ci := 7) (v := .ref q3) (ty := tyX7 1) (C := RX7) (T := TX7) (N := 10) hx hb hg inX7 tyX7 tyX7_ok nmX7 hown hK hP hD hS 0 rfl rfl 1 (by decide) (hg _ w436) (fun _ h9 => h9) rfl hin rfl (tyX7_ok 1 (by decide)) rfl rfl (Nat.le_of_ble_eq_true rfl) dX7_init_17 (fun H locs hP hD hS => ?_)
  have hP : va_P D vwCl [(h0, .inr (7, [.ref q1, .ref q3, .null, .null, .null, .int 0, .int 0, .int 0, .int 0, .int 0])), (q1, .inl (k2, 100, .inl (fun _ => 0))), (q3, .inl (k4, 100, .inl (fun _ => 0)))] H := hP
  have hD : va_D A [(h0, .inr (7, [.ref q1, .ref q3, .null, .null, .null, .int 0, .int 0, .int 0, .int 0, .int 0])), (q1, .inl (k2, 100, .inl (fun _ => 0))), (q3, .inl (k4, 100, .inl (fun _ => 0)))] := hD
  refine lv_aload_n hx hb dX7_init_20 rfl (lv_at hl 0 rfl) ?_
  refine lv_bipush (v := 100) hx hb dX7_init_21 (by decide) ?_
  refine va_newa (D := D) (atype := .int) (ty := .int) (n := 100) (N' := 100) (a0 := (100, .inl (fun _ => 0))) hx hb (hg _ w297) rfl hK hP hD hS hA (fun _ => rfl) (by decide) (by decide) (by decide) (Nat.le_of_ble_eq_true rfl) (Nat.le_of_ble_eq_true rfl) dX7_init_23 (fun q5 k6 H hK hP hD hS => ?_)
  have hP : va_P D vwCl [(h0, .inr (7, [.ref q1, .ref q3, .null, .null, .null, .int 0, .int 0, .int 0, .int 0, .int 0])), (q1, .inl (k2, 100, .inl (fun _ => 0))), (q3, .inl (k4, 100, .inl (fun _ => 0))), (q5, .inl (k6, 100, .inl (fun _ => 0)))] H := hP
  have hD : va_D A [(h0, .inr (7, [.ref q1, .ref q3, .null, .null, .null, .int 0, .int 0, .int 0, .int 0, .int 0])), (q1, .inl (k2, 100, .inl (fun _ => 0))), (q3, .inl (k4, 100, .inl (fun _ => 0))), (q5, .inl (k6, 100, .inl (fun _ => 0)))] := hD
  have hK : va_K D vwCl [(k2, .int), (k4, .int), (k6, .int)] s := hK
  refine va_putF (D := D) (ci := 7) (v := .ref q5) (ty := tyX7 2) (C := RX7) (T := TX7) (N := 10) hx hb hg inX7 tyX7 tyX7_ok nmX7 hown hK hP hD hS 0 rfl rfl 2 (by decide) (hg _ w437) (fun _ h9 => h9) rfl hin rfl (tyX7_ok 2 (by decide)) rfl rfl (Nat.le_of_ble_eq_true rfl) dX7_init_25 (fun H locs hP hD hS => ?_)
  have hP : va_P D vwCl [(h0, .inr (7, [.ref q1, .ref q3, .ref q5, .null, .null, .int 0, .int 0, .int 0, .int 0, .int 0])), (q1, .inl (k2, 100, .inl (fun _ => 0))), (q3, .inl (k4, 100, .inl (fun _ => 0))), (q5, .inl (k6, 100, .inl (fun _ => 0)))] H := hP
  have hD : va_D A [(h0, .inr (7, [.ref q1, .ref q3, .ref q5, .null, .null, .int 0, .int 0, .int 0, .int 0, .int 0])), (q1, .inl (k2, 100, .inl (fun _ => 0))), (q3, .inl (k4, 100, .inl (fun _ => 0))), (q5, .inl (k6, 100, .inl (fun _ => 0)))] := hD
  refine lv_aload_n hx hb dX7_init_28 rfl (lv_at hl 0 rfl) ?_
  refine lv_sipush (v := 300) hx hb dX7_init_29 (by decide) ?_
  refine va_newa (D := D) (atype := .int) (ty := .int) (n := 300) (N' := 300) (a0 := (300, .inl (fun _ => 0))) hx hb (hg _ w297) rfl hK hP hD hS hA (fun _ => rfl) (by decide) (by decide) (by decide) (Nat.le_of_ble_eq_true rfl) (Nat.le_of_ble_eq_true rfl) dX7_init_32 (fun q7 k8 H hK hP hD hS => ?_)
  have hP : va_P D vwCl [(h0, .inr (7, [.ref q1, .ref q3, .ref q5, .null, .null, .int 0, .int 0, .int 0, .int 0, .int 0])), (q1, .inl (k2, 100, .inl (fun _ => 0))), (q3, .inl (k4, 100, .inl (fun _ => 0))), (q5, .inl (k6, 100, .inl (fun _ => 0))), (q7, .inl (k8, 300, .inl (fun _ => 0)))] H := hP
  have hD : va_D A [(h0, .inr (7, [.ref q1, .ref q3, .ref q5, .null, .null, .int 0, .int 0, .int 0, .int 0, .int 0])), (q1, .inl (k2, 100, .inl (fun _ => 0))), (q3, .inl (k4, 100, .inl (fun _ => 0))), (q5, .inl (k6, 100, .inl (fun _ => 0))), (q7, .inl (k8, 300, .inl (fun _ => 0)))] := hD
  have hK : va_K D vwCl [(k2, .int), (k4, .int), (k6, .int), (k8, .int)] s := hK
  refine va_putF (D := D) (ci := 7) (v := .ref q7) (ty := tyX7 3) (C := RX7) (T := TX7) (N := 10) hx hb hg inX7 tyX7 tyX7_ok nmX7 hown hK hP hD hS 0 rfl rfl 3 (by decide) (hg _ w438) (fun _ h9 => h9) rfl hin rfl (tyX7_ok 3 (by decide)) rfl rfl (Nat.le_of_ble_eq_true rfl) dX7_init_34 (fun H locs hP hD hS => ?_)
  have hP : va_P D vwCl [(h0, .inr (7, [.ref q1, .ref q3, .ref q5, .ref q7, .null, .int 0, .int 0, .int 0, .int 0, .int 0])), (q1, .inl (k2, 100, .inl (fun _ => 0))), (q3, .inl (k4, 100, .inl (fun _ => 0))), (q5, .inl (k6, 100, .inl (fun _ => 0))), (q7, .inl (k8, 300, .inl (fun _ => 0)))] H := hP
  have hD : va_D A [(h0, .inr (7, [.ref q1, .ref q3, .ref q5, .ref q7, .null, .int 0, .int 0, .int 0, .int 0, .int 0])), (q1, .inl (k2, 100, .inl (fun _ => 0))), (q3, .inl (k4, 100, .inl (fun _ => 0))), (q5, .inl (k6, 100, .inl (fun _ => 0))), (q7, .inl (k8, 300, .inl (fun _ => 0)))] := hD
  refine lv_aload_n hx hb dX7_init_37 rfl (lv_at hl 0 rfl) ?_
  refine lv_sipush (v := 300) hx hb dX7_init_38 (by decide) ?_
  refine va_newa (D := D) (atype := .int) (ty := .int) (n := 300) (N' := 300) (a0 := (300, .inl (fun _ => 0))) hx hb (hg _ w297) rfl hK hP hD hS hA (fun _ => rfl) (by decide) (by decide) (by decide) (Nat.le_of_ble_eq_true rfl) (Nat.le_of_ble_eq_true rfl) dX7_init_41 (fun q9 k10 H hK hP hD hS => ?_)
  have hP : va_P D vwCl [(h0, .inr (7, [.ref q1, .ref q3, .ref q5, .ref q7, .null, .int 0, .int 0, .int 0, .int 0, .int 0])), (q1, .inl (k2, 100, .inl (fun _ => 0))), (q3, .inl (k4, 100, .inl (fun _ => 0))), (q5, .inl (k6, 100, .inl (fun _ => 0))), (q7, .inl (k8, 300, .inl (fun _ => 0))), (q9, .inl (k10, 300, .inl (fun _ => 0)))] H := hP
  have hD : va_D A [(h0, .inr (7, [.ref q1, .ref q3, .ref q5, .ref q7, .null, .int 0, .int 0, .int 0, .int 0, .int 0])), (q1, .inl (k2, 100, .inl (fun _ => 0))), (q3, .inl (k4, 100, .inl (fun _ => 0))), (q5, .inl (k6, 100, .inl (fun _ => 0))), (q7, .inl (k8, 300, .inl (fun _ => 0))), (q9, .inl (k10, 300, .inl (fun _ => 0)))] := hD
  have hK : va_K D vwCl [(k2, .int), (k4, .int), (k6, .int), (k8, .int), (k10, .int)] s := hK
  refine va_putF (D := D) (ci := 7) (v := .ref q9) (ty := tyX7 4) (C := RX7) (T := TX7) (N := 10) hx hb hg inX7 tyX7 tyX7_ok nmX7 hown hK hP hD hS 0 rfl rfl 4 (by decide) (hg _ w439) (fun _ h9 => h9) rfl hin rfl (tyX7_ok 4 (by decide)) rfl rfl (Nat.le_of_ble_eq_true rfl) dX7_init_43 (fun H locs hP hD hS => ?_)
  have hP : va_P D vwCl [(h0, .inr (7, [.ref q1, .ref q3, .ref q5, .ref q7, .ref q9, .int 0, .int 0, .int 0, .int 0, .int 0])), (q1, .inl (k2, 100, .inl (fun _ => 0))), (q3, .inl (k4, 100, .inl (fun _ => 0))), (q5, .inl (k6, 100, .inl (fun _ => 0))), (q7, .inl (k8, 300, .inl (fun _ => 0))), (q9, .inl (k10, 300, .inl (fun _ => 0)))] H := hP
  have hD : va_D A [(h0, .inr (7, [.ref q1, .ref q3, .ref q5, .ref q7, .ref q9, .int 0, .int 0, .int 0, .int 0, .int 0])), (q1, .inl (k2, 100, .inl (fun _ => 0))), (q3, .inl (k4, 100, .inl (fun _ => 0))), (q5, .inl (k6, 100, .inl (fun _ => 0))), (q7, .inl (k8, 300, .inl (fun _ => 0))), (q9, .inl (k10, 300, .inl (fun _ => 0)))] := hD
  refine W.widen (k := 5) (n := 900) (Nat.le_of_ble_eq_true rfl) (Nat.le_of_ble_eq_true rfl) ?_
  have hP9 := hP.sub (ws' := [(h0, .inr (7, [.ref q1, .ref q3, .ref q5, .ref q7, .ref q9, .int 0, .int 0, .int 0, .int 0, .int 0]))]) [0] rfl
  have hD9 := hD.sub (ws' := [(h0, .inr (7, [.ref q1, .ref q3, .ref q5, .ref q7, .ref q9, .int 0, .int 0, .int 0, .int 0, .int 0]))]) [0] (by decide) rfl
  have hK9 := hK.sub (tys' := []) [] rfl
  exact W.vret hx hb hr (fun t ht hW => ⟨⟨(q1, q3, q5, q7, q9), rfl, (by first | rfl | trivial | assumption | decide), by rw [ht]; exact hP9, va_K.moved hW.alike hK9, hD9⟩, hS.F ht⟩) hS.2.2 dX7_init_46
