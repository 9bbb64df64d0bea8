/-! the faults told: the same on both sides -/
def KF (V Vm : Vf) : Prop := ∃ F, FLc V F ∧ FLm Vm F
theorem KF.mv {V V1 Vm Vm1 : Vf} (h : KF V Vm) (a0 : V1 2 7 = V 2 7) (a1 : V1 15 = V 15) (a2 : V1 16 = V 16) (a3 : V1 17 = V 17) (a4 : V1 18 = V 18) (b0 : Vm1 0 81 = Vm 0 81) (b1 : Vm1 82 = Vm 82) (b2 : Vm1 83 = Vm 83) (b3 : Vm1 84 = Vm 84) (b4 : Vm1 85 = Vm 85) : KF V1 Vm1 := by
  obtain ⟨F, c, m⟩ := h
  exact ⟨F, c.fo a0 a1 a2 a3 a4, m.fo b0 b1 b2 b3 b4⟩
theorem KF.z {V Vm : Vf} (h : (V 2 7).toInt = 0) (g : (Vm 0 81).toInt = 0) : KF V Vm := ⟨(0, fun _ _ => 0), ⟨FLT.z h, F24.z⟩, ⟨FLT.z g, F24.z⟩⟩
/-- two pictures -/
theorem LKg.of {D : va_G} {ad : Nat → Nat} {kk : Nat → ClassId} {V V2 : Vf} {L L2 : Lf} {Z : XZ} {H : Heap} (h : va_P D vwCl (xw ad kk V L Z) H) (h' : va_P D vwCl (xw ad kk V2 L2 Z) H) : V2 2 7 = V 2 7 := by
  have z : Value.int (V2 2 7) = Value.int (V 2 7) := at_o (h' _ _ xgChecker) (h _ _ xgChecker) (r := (RX2, TX2, 8)) rfl (k := 7) (by decide)
  injection z with z
def LKq (V V2 : Vf) : Prop := V2 0 81 = V 0 81 ∧ (∀ k, k < 100 → V2 82 k = V 82 k ∧ V2 83 k = V 83 k ∧ V2 84 k = V 84 k) ∧ ∀ k, k < 2400 → V2 85 k = V 85 k
theorem LKq.of {D : va_G} {ad : Nat → Nat} {kk : Nat → ClassId} {k1 : Nat} {V V2 : Vf} {L L2 : Lf} {H : Heap} (h : va_P D vwCl (mw ad kk k1 V L) H) (h' : va_P D vwCl (mw ad kk k1 V2 L2) H) : LKq V V2 := by
  refine ⟨?_, fun k hk => ⟨at_i (h' 58 _ rfl) (h 58 _ rfl) hk, at_i (h' 59 _ rfl) (h 59 _ rfl) hk, at_i (h' 60 _ rfl) (h 60 _ rfl) hk⟩, fun k hk => at_i (h' 61 _ rfl) (h 61 _ rfl) hk⟩
  have z : Value.int (V2 0 81) = Value.int (V 0 81) := at_o (h' 0 _ rfl) (h 0 _ rfl) (r := (RX12, TX12, 100)) rfl (k := 81) (by decide)
  injection z with z
theorem FLm.lk {V V2 : Vf} {F : FSt} (h : FLm V2 F) (l : LKq V V2) : FLm V F := by
  refine ⟨⟨by rw [← l.1]; exact h.1.1, fun i a b => ?_⟩, h.2⟩
  have z := h.1.2 i a b
  have e := l.2.1 i b
  rw [← e.1, ← e.2.1, ← e.2.2]
  refine ⟨z.1, z.2.1, z.2.2.1, fun w q hq => ?_⟩
  have y := h.2 i a w
  rw [← l.2.2 _ (by omega)]
  exact z.2.2.2 w q hq


abbrev r_x_kclear7 : Room := { frames := 0, cells := 0, slots := 0, locals := 0 }
abbrev q_x_kclear7 (D : va_G) (ks : KS) (ad : Nat → Nat) (kk : Nat → ClassId) (V : Vf) (L : Lf) (Z : XZ) (A : Nat → Prop) : Array Value → State → Outcome → State → Prop := va_Qv (fun (u : Vf × Lf) => rgd bX u.1 ∧ agr [(2, 7)] [] V u.1 ∧ u.2 = L ∧ ((u.1 2 7).toInt = 0)) (fun u t => gq D A (xw ad kk u.1 u.2 Z) (xty kk Z) t) A
set_option maxHeartbeats 4000000 in
set_option maxRecDepth 100000 in
theorem x_kclear7 (l : Launch) (D : va_G) (ks : KS) (sz : Nat) (ad : Nat → Nat) (kk : Nat → ClassId) (V : Vf) (L : Lf) (Z : XZ)  (hMV : rgd bX V)  : Met l yX2_clear (Cond.code yX2_clear cX2_clear 1 none :: GW) r_x_kclear7 (va_Pc [.ref (ad 2)] (gp D ks (xw ad kk V L Z) (xty kk Z) sz)) (q_x_kclear7 D ks ad kk V L Z  (va_A (xw ad kk V L Z) sz)) 0 0 (va_A (xw ad kk V L Z) sz) := by
  refine g_met (q_x_kclear7 D ks ad kk V L Z) (by decide) (Nat.le_of_ble_eq_true rfl) ?_
  intro p e s m below meth c A ls H locs hx hb hr hml hown hg hlocks hin hnw hgk hP hK hD hS hA hl
  have hown : s.vm.findClass RX2 = some m.cls := hown
  have hl : lv_has ls 1 [(0, .ref (ad 2))] := hl
  have hP : va_P D vwCl (xw ad kk V L Z) H := hP
  have hD : va_D A (xw ad kk V L Z) := hD
  have hK : va_K D vwCl (xty kk Z) s := hK
  have agV : agr [(2, 7)] [] V V := agr.rf
  refine lv_aload_n hx hb dX2_clear_0 rfl (lv_at hl 0 rfl) ?_
  refine lv_iconst (v := 0) hx hb dX2_clear_1 (by decide) ?_
  refine va_put (D := D) (ci := 2) (v := .int 0) (ty := tyX2 7) (fs := (xfChecker ad V L Z)) (C := RX2) (T := TX2) (N := 8) hx hb hg inX2 tyX2 tyX2_ok nmX2 hown hK hP hD hS 2 xgChecker rfl 7 (by decide) (hg _ w345) (fun _ h9 => h9) rfl (tyX2_ok 7 (by decide)) rfl rfl (Nat.le_of_ble_eq_true rfl) dX2_clear_2 (fun H locs hP hD hS => ?_)
  obtain ⟨V1, hV1⟩ : ∃ z, z = up2 V 2 7 0 := ⟨_, rfl⟩
  have ew2 : (xw ad kk V L Z).set 2 ((ad 2), .inr (2, (xfChecker ad V L Z).set 7 (.int 0))) = xw ad kk V1 L Z := by rw [hV1]; exact xw_ss (by decide) rfl (xb_si (by decide))
  have hP : va_P D vwCl (xw ad kk V1 L Z) H := by rw [← ew2]; exact hP
  have hD : va_D A (xw ad kk V1 L Z) := by rw [← ew2]; exact hD
  have hMV1 : rgd bX V1 := hMV.put hV1 (by decide)
  have agV1 : agr [(2, 7)] [] V V1 := agV.up hV1 rfl
  have pq3 : (V1 2 7).toInt = 0 := (congrArg Int32.toInt (up2_s hV1)).trans (by decide)
  exact W.vret hx hb hr (fun t ht hW => ⟨⟨(V1, L), rfl, ⟨hMV1, agV1, rfl, (show (V1 2 7).toInt = 0 from by (first | exact om_b66ba74381d5 pq3 | omega))⟩, by rw [ht]; exact hP, va_K.moved hW.alike hK, hD⟩, hS.F ht⟩) hS.2.2 dX2_clear_5
abbrev r_x_h_book7 : Room := { frames := 94, cells := 0, slots := 0, locals := 2751 }
abbrev q_x_h_book7 (D : va_G) (ks : KS) (ad : Nat → Nat) (kk : Nat → ClassId) (V : Vf) (L : Lf) (Z : XZ) (b : Nat) (b1 : Nat) (A : Nat → Prop) : Array Value → State → Outcome → State → Prop := va_Qi (fun (r : Int32) (u : Vf × Lf) => rgd bX u.1 ∧ agr [(0, 6), (0, 7), (0, 8), (0, 9), (1, 1), (1, 2), (1, 3), (1, 4), (1, 6), (1, 7), (1, 8), (2, 7), (3, 12), (3, 13), (3, 14), (3, 15), (4, 5), (4, 6), (4, 7), (4, 8), (5, 5), (5, 6), (5, 7), (5, 8), (5, 9), (5, 13), (6, 5), (6, 6), (6, 7), (6, 8), (6, 9), (6, 10)] [12, 13, 14, 23, 24, 25, 41, 42, 43, 44, 45, 46, 47, 48, 49, 50, 51, 52, 53, 54, 55, 56, 57, 58, 59, 60, 61, 62, 63, 64, 65, 66] V u.1 ∧ agL [1, 6, 14, 44] L u.2 ∧ ((r.toInt = 0 ∧ (u.1 2 7).toInt = 0) ∨ (r.toInt ≠ 0 ∧ (u.1 2 7).toInt = (V 2 7).toInt))) (fun u t => gq D A (xw ad kk u.1 u.2 Z) (xty kk Z) t) A
set_option maxHeartbeats 4000000 in
set_option maxRecDepth 100000 in
theorem x_h_book7 (l : Launch) (D : va_G) (ks : KS) (sz : Nat) (ad : Nat → Nat) (kk : Nat → ClassId) (V : Vf) (L : Lf) (Z : XZ) (b : Nat) (b1 : Nat) (hMV : rgd bX V) (hb2 : b < 2) (hb1 : b1 < 2) (hbb : b + b1 = 1) (shk : (V 0 6).toInt = (b : Int)) (spk : (V 0 7).toInt = (b1 : Int))  : Met l yX11_book (Cond.code yX11_book cX11_book 3 (some .int) :: GW) r_x_h_book7 (va_Pc [.ref (ad 0)] (gp D ks (xw ad kk V L Z) (xty kk Z) sz)) (q_x_h_book7 D ks ad kk V L Z  b b1 (va_A (xw ad kk V L Z) sz)) 0 0 (va_A (xw ad kk V L Z) sz) := by
  refine g_met (q_x_h_book7 D ks ad kk V L Z  b b1) (by decide) (Nat.le_of_ble_eq_true rfl) ?_
  intro p e s m below meth c A ls H locs hx hb hr hml hown hg hlocks hin hnw hgk hP hK hD hS hA hl
  have hown : s.vm.findClass RX11 = some m.cls := hown
  have hl : lv_has ls 3 [(0, .ref (ad 0))] := hl
  have hP : va_P D vwCl (xw ad kk V L Z) H := hP
  have hD : va_D A (xw ad kk V L Z) := hD
  have hK : va_K D vwCl (xty kk Z) s := hK
  have agV : agr [(0, 6), (0, 7), (0, 8), (0, 9), (1, 1), (1, 2), (1, 3), (1, 4), (1, 6), (1, 7), (1, 8), (2, 7), (3, 12), (3, 13), (3, 14), (3, 15), (4, 5), (4, 6), (4, 7), (4, 8), (5, 5), (5, 6), (5, 7), (5, 8), (5, 9), (5, 13), (6, 5), (6, 6), (6, 7), (6, 8), (6, 9), (6, 10)] [12, 13, 14, 23, 24, 25, 41, 42, 43, 44, 45, 46, 47, 48, 49, 50, 51, 52, 53, 54, 55, 56, 57, 58, 59, 60, 61, 62, 63, 64, 65, 66] V V := agr.rf
  have alL : agL [1, 6, 14, 44] L L := agL.rf
  have r1 : 0 ≤ ((V 0 6)).toInt ∧ ((V 0 6)).toInt ≤ 1 := hMV 0 6
  have r2 : 0 ≤ ((V 0 7)).toInt ∧ ((V 0 7)).toInt ≤ 1 := hMV 0 7
  refine lv_aload_n hx hb dX11_book_0 rfl (lv_at hl 0 rfl) ?_
  refine va_get (D := D) (ci := 11) (v := .ref (ad 1)) (fs := (xfHouse ad V L Z)) (C := RX11) (T := TX11) (N := 10) hx hb hg inX11 hown hK hP 0 xgHouse rfl 1 (by decide) (hg _ w716) (fun _ h9 => h9) rfl dX11_book_1 ?_
  refine lv_aload_n hx hb dX11_book_4 rfl (lv_at hl 0 rfl) ?_
  refine va_get (D := D) (ci := 11) (v := .ref (ad (38 + Int32.toNatClampNeg (V 0 7)))) (fs := (xfHouse ad V L Z)) (C := RX11) (T := TX11) (N := 10) hx hb hg inX11 hown hK hP 0 xgHouse rfl 7 (by decide) (hg _ w722) (fun _ h9 => h9) rfl dX11_book_5 ?_
  refine g_topv (v := .ref (ad (38 + b1))) (rfP (by omega)) ?_
  refine gA_int (gA_runV (As := [.ref (ad (38 + b1))]) (rest := []) (ci := 1) (q0 := 1) hx hb hml hown hg hP hD hK hS hA hnw hgk (x_read l D ks H.size ad kk V L Z (b1) hMV (show b1 < 2 from by (first | exact om_f940a4667dd6 hb1 | omega))) w758 w759 w760 w162 w761 rfl xgReader hdV_yX1_read ⟨Nat.le_of_ble_eq_true rfl, Nat.le_of_ble_eq_true rfl⟩ rfl hl.1 rfl (Nat.le_of_ble_eq_true rfl) dX11_book_8 ⟨Nat.le_of_ble_eq_true rfl, Nat.le_of_ble_eq_true rfl⟩) hP hD hK hS hA (fun z3 u4 H locs w5 hP hD hK hS => ?_)
  obtain ⟨V7, L8⟩ := u4
  obtain ⟨hMV7, ajV7, axL8, fyV7, t6⟩ := w5
  have alL8 : agL [1, 6, 14, 44] L L8 := agL.tr alL axL8 (by decide)
  have hP : va_P D vwCl (xw ad kk V7 L8 Z) H := hP
  have hD : va_D A (xw ad kk V7 L8 Z) := hD
  have hMV7 : rgd bX V7 := hMV7
  have ajV7 : agr [(1, 1), (1, 2), (1, 3), (1, 4), (1, 6), (1, 7), (1, 8), (6, 6), (6, 7), (6, 8), (6, 9), (6, 10)] [12, 13, 14, 41, 42, 43, 44, 45, 46, 47, 48, 49, 50, 51, 52, 53, 54, 55, 56, 57, 58, 59, 60, 61, 62, 63, 64, 65, 66] V V7 := ajV7
  have agV7 : agr [(0, 6), (0, 7), (0, 8), (0, 9), (1, 1), (1, 2), (1, 3), (1, 4), (1, 6), (1, 7), (1, 8), (2, 7), (3, 12), (3, 13), (3, 14), (3, 15), (4, 5), (4, 6), (4, 7), (4, 8), (5, 5), (5, 6), (5, 7), (5, 8), (5, 9), (5, 13), (6, 5), (6, 6), (6, 7), (6, 8), (6, 9), (6, 10)] [12, 13, 14, 23, 24, 25, 41, 42, 43, 44, 45, 46, 47, 48, 49, 50, 51, 52, 53, 54, 55, 56, 57, 58, 59, 60, 61, 62, 63, 64, 65, 66] V V7 := agV.tr ajV7 (by decide) (by decide)
  have t6 : Imp (z3.toInt = 0) (CD V7 b1 ∧ TX V7 b1) := t6
  refine lv_istore_n (lv' := [(1, .int z3), (0, .ref (ad 0))]) hx hb dX11_book_11 rfl hl (by decide) rfl (fun ls hl => ?_)
  refine lv_aload_n hx hb dX11_book_12 rfl (lv_at hl 1 rfl) ?_
  refine va_get (D := D) (ci := 11) (v := .ref (ad 6)) (fs := (xfHouse ad V7 L8 Z)) (C := RX11) (T := TX11) (N := 10) hx hb hg inX11 hown hK hP 0 xgHouse rfl 0 (by decide) (hg _ w715) (fun _ h9 => h9) rfl dX11_book_13 ?_
  refine gA_void (gA_runV (As := []) (rest := []) (ci := 9) (q0 := 6) hx hb hml hown hg hP hD hK hS hA hnw hgk (x_empty l D ks H.size ad kk V7 L8 Z  hMV7 ) w1019 w1020 w1021 w157 w1022 rfl xgTape hdV_yX9_empty ⟨Nat.le_of_ble_eq_true rfl, Nat.le_of_ble_eq_true rfl⟩ rfl hl.1 rfl (Nat.le_of_ble_eq_true rfl) dX11_book_16 ⟨Nat.le_of_ble_eq_true rfl, Nat.le_of_ble_eq_true rfl⟩) hP hD hK hS hA (fun u10 H locs w11 hP hD hK hS => ?_)
  obtain ⟨V13, L14⟩ := u10
  obtain ⟨hMV13, ajV13, axL14, t12⟩ := w11
  have axL14 : L8 = L14 := Eq.symm axL14
  subst axL14
  have hP : va_P D vwCl (xw ad kk V13 L8 Z) H := hP
  have hD : va_D A (xw ad kk V13 L8 Z) := hD
  have hMV13 : rgd bX V13 := hMV13
  have ajV13 : agr [(6, 5)] [] V7 V13 := ajV13
  have agV13 : agr [(0, 6), (0, 7), (0, 8), (0, 9), (1, 1), (1, 2), (1, 3), (1, 4), (1, 6), (1, 7), (1, 8), (2, 7), (3, 12), (3, 13), (3, 14), (3, 15), (4, 5), (4, 6), (4, 7), (4, 8), (5, 5), (5, 6), (5, 7), (5, 8), (5, 9), (5, 13), (6, 5), (6, 6), (6, 7), (6, 8), (6, 9), (6, 10)] [12, 13, 14, 23, 24, 25, 41, 42, 43, 44, 45, 46, 47, 48, 49, 50, 51, 52, 53, 54, 55, 56, 57, 58, 59, 60, 61, 62, 63, 64, 65, 66] V V13 := agV7.tr ajV13 (by decide) (by decide)
  have t12 : (V13 6 5).toInt = 0 := t12
  have r15 : 0 ≤ ((V13 6 5)).toInt ∧ ((V13 6 5)).toInt ≤ 4000 := hMV13 6 5
  refine lv_iload_n hx hb dX11_book_19 rfl (lv_at hl 0 rfl) ?_
  refine lv_if_eq (tgt := 25) hx hb dX11_book_20 (by decide) (fun c16 => ?_) (fun c16 => ?_)
  · skip
    have f17 : z3.toInt = 0 := b_eq rfl (by decide) c16
    refine lv_aload_n hx hb dX11_book_25 rfl (lv_at hl 1 rfl) ?_
    refine va_get (D := D) (ci := 11) (v := .ref (ad (38 + Int32.toNatClampNeg (V13 0 6)))) (fs := (xfHouse ad V13 L8 Z)) (C := RX11) (T := TX11) (N := 10) hx hb hg inX11 hown hK hP 0 xgHouse rfl 6 (by decide) (hg _ w721) (fun _ h9 => h9) rfl dX11_book_26 ?_
    have pq18 : (V13 0 6).toInt = ((V 0 6)).toInt := congrArg Int32.toInt ((ajV13 0 6 rfl).trans (ajV7 0 6 rfl))
    refine g_topv (v := .ref (ad (38 + b))) (rfP (by omega)) ?_
    refine lv_astore_n (lv' := [(2, .ref (ad (38 + b))), (1, .int z3), (0, .ref (ad 0))]) hx hb dX11_book_29 rfl hl (by decide) rfl (fun ls hl => ?_)
    refine lv_aload_n hx hb dX11_book_30 rfl (lv_at hl 2 rfl) ?_
    refine lv_aload_n hx hb dX11_book_31 rfl (lv_at hl 2 rfl) ?_
    refine va_get (D := D) (ci := 11) (v := .ref (ad (38 + Int32.toNatClampNeg (V13 0 7)))) (fs := (xfHouse ad V13 L8 Z)) (C := RX11) (T := TX11) (N := 10) hx hb hg inX11 hown hK hP 0 xgHouse rfl 7 (by decide) (hg _ w722) (fun _ h9 => h9) rfl dX11_book_32 ?_
    have pq19 : (V13 0 7).toInt = ((V 0 7)).toInt := congrArg Int32.toInt ((ajV13 0 7 rfl).trans (ajV7 0 7 rfl))
    refine g_topv (v := .ref (ad (38 + b1))) (rfP (by omega)) ?_
    refine va_put (D := D) (ci := 11) (v := .ref (ad (38 + b1))) (ty := tyX11 6) (fs := (xfHouse ad V13 L8 Z)) (C := RX11) (T := TX11) (N := 10) hx hb hg inX11 tyX11 tyX11_ok nmX11 hown hK hP hD hS 0 xgHouse rfl 6 (by decide) (hg _ w721) (fun _ h9 => h9) rfl (tyX11_ok 6 (by decide)) rfl rfl (Nat.le_of_ble_eq_true rfl) dX11_book_35 (fun H locs hP hD hS => ?_)
    have r20 : (nI b1).toInt = ((b1 : Nat) : Int) := nI_toInt (by omega)
    obtain ⟨V21, hV21⟩ : ∃ z, z = up2 V13 0 6 (nI b1) := ⟨_, rfl⟩
    have ew22 : (xw ad kk V13 L8 Z).set 0 ((ad 0), .inr (11, (xfHouse ad V13 L8 Z).set 6 (.ref (ad (38 + b1))))) = xw ad kk V21 L8 Z := by rw [hV21]; exact xr_shelf hb1
    have hP : va_P D vwCl (xw ad kk V21 L8 Z) H := by rw [← ew22]; exact hP
    have hD : va_D A (xw ad kk V21 L8 Z) := by rw [← ew22]; exact hD
    have hMV21 : rgd bX V21 := hMV13.put hV21 (show 0 ≤ ((nI b1)).toInt ∧ ((nI b1)).toInt ≤ 1 from by (first | exact om_d98fff7a4861 hb1 r20 | omega))
    have agV21 : agr [(0, 6), (0, 7), (0, 8), (0, 9), (1, 1), (1, 2), (1, 3), (1, 4), (1, 6), (1, 7), (1, 8), (2, 7), (3, 12), (3, 13), (3, 14), (3, 15), (4, 5), (4, 6), (4, 7), (4, 8), (5, 5), (5, 6), (5, 7), (5, 8), (5, 9), (5, 13), (6, 5), (6, 6), (6, 7), (6, 8), (6, 9), (6, 10)] [12, 13, 14, 23, 24, 25, 41, 42, 43, 44, 45, 46, 47, 48, 49, 50, 51, 52, 53, 54, 55, 56, 57, 58, 59, 60, 61, 62, 63, 64, 65, 66] V V21 := agV13.up hV21 rfl
    refine lv_aload_n hx hb dX11_book_38 rfl (lv_at hl 2 rfl) ?_
    refine lv_aload_n hx hb dX11_book_39 rfl (lv_at hl 0 rfl) ?_
    refine va_put (D := D) (ci := 11) (v := .ref (ad (38 + b))) (ty := tyX11 7) (fs := (xfHouse ad V21 L8 Z)) (C := RX11) (T := TX11) (N := 10) hx hb hg inX11 tyX11 tyX11_ok nmX11 hown hK hP hD hS 0 xgHouse rfl 7 (by decide) (hg _ w722) (fun _ h9 => h9) rfl (tyX11_ok 7 (by decide)) rfl rfl (Nat.le_of_ble_eq_true rfl) dX11_book_40 (fun H locs hP hD hS => ?_)
    have r23 : (nI b).toInt = ((b : Nat) : Int) := nI_toInt (by omega)
    obtain ⟨V24, hV24⟩ : ∃ z, z = up2 V21 0 7 (nI b) := ⟨_, rfl⟩
    have ew25 : (xw ad kk V21 L8 Z).set 0 ((ad 0), .inr (11, (xfHouse ad V21 L8 Z).set 7 (.ref (ad (38 + b))))) = xw ad kk V24 L8 Z := by rw [hV24]; exact xr_spare hb2
    have hP : va_P D vwCl (xw ad kk V24 L8 Z) H := by rw [← ew25]; exact hP
    have hD : va_D A (xw ad kk V24 L8 Z) := by rw [← ew25]; exact hD
    have hMV24 : rgd bX V24 := hMV21.put hV24 (show 0 ≤ ((nI b)).toInt ∧ ((nI b)).toInt ≤ 1 from by (first | exact om_cf08f328c789 hb1 hbb r23 | omega))
    have agV24 : agr [(0, 6), (0, 7), (0, 8), (0, 9), (1, 1), (1, 2), (1, 3), (1, 4), (1, 6), (1, 7), (1, 8), (2, 7), (3, 12), (3, 13), (3, 14), (3, 15), (4, 5), (4, 6), (4, 7), (4, 8), (5, 5), (5, 6), (5, 7), (5, 8), (5, 9), (5, 13), (6, 5), (6, 6), (6, 7), (6, 8), (6, 9), (6, 10)] [12, 13, 14, 23, 24, 25, 41, 42, 43, 44, 45, 46, 47, 48, 49, 50, 51, 52, 53, 54, 55, 56, 57, 58, 59, 60, 61, 62, 63, 64, 65, 66] V V24 := agV21.up hV24 rfl
    refine lv_aload_n hx hb dX11_book_43 rfl (lv_at hl 2 rfl) ?_
    refine va_get (D := D) (ci := 11) (v := .ref (ad 3)) (fs := (xfHouse ad V24 L8 Z)) (C := RX11) (T := TX11) (N := 10) hx hb hg inX11 hown hK hP 0 xgHouse rfl 3 (by decide) (hg _ w718) (fun _ h9 => h9) rfl dX11_book_44 ?_
    refine gA_void (gA_runV (As := []) (rest := []) (ci := 8) (q0 := 3) hx hb hml hown hg hP hD hK hS hA hnw hgk (x_sclear2 l D ks H.size ad kk V24 L8 Z  hMV24 ) w1023 w1024 w1025 w164 w1026 rfl xgStock hdV_yX8_clear ⟨Nat.le_of_ble_eq_true rfl, Nat.le_of_ble_eq_true rfl⟩ rfl hl.1 rfl (Nat.le_of_ble_eq_true rfl) dX11_book_47 ⟨Nat.le_of_ble_eq_true rfl, Nat.le_of_ble_eq_true rfl⟩) hP hD hK hS hA (fun u27 H locs w28 hP hD hK hS => ?_)
    obtain ⟨V32, L33⟩ := u27
    obtain ⟨hMV32, ajV32, axL33, t29, t30, t31⟩ := w28
    have axL33 : L8 = L33 := Eq.symm axL33
    subst axL33
    have hP : va_P D vwCl (xw ad kk V32 L8 Z) H := hP
    have hD : va_D A (xw ad kk V32 L8 Z) := hD
    have hMV32 : rgd bX V32 := hMV32
    have ajV32 : agr [(3, 12), (3, 13), (3, 14), (3, 15)] [23, 24, 25] V24 V32 := ajV32
    have agV32 : agr [(0, 6), (0, 7), (0, 8), (0, 9), (1, 1), (1, 2), (1, 3), (1, 4), (1, 6), (1, 7), (1, 8), (2, 7), (3, 12), (3, 13), (3, 14), (3, 15), (4, 5), (4, 6), (4, 7), (4, 8), (5, 5), (5, 6), (5, 7), (5, 8), (5, 9), (5, 13), (6, 5), (6, 6), (6, 7), (6, 8), (6, 9), (6, 10)] [12, 13, 14, 23, 24, 25, 41, 42, 43, 44, 45, 46, 47, 48, 49, 50, 51, 52, 53, 54, 55, 56, 57, 58, 59, 60, 61, 62, 63, 64, 65, 66] V V32 := agV24.tr ajV32 (by decide) (by decide)
    have t29 : (V32 3 13).toInt = 0 := t29
    have t30 : (V32 3 15).toInt = 0 := t30
    have t31 : ∀ q : Nat, q < 960 → (V32 25 q).toInt = -1 := t31
    have r34 : 0 ≤ ((V32 3 13)).toInt ∧ ((V32 3 13)).toInt ≤ 300 := hMV32 3 13
    have r35 : 0 ≤ ((V32 3 15)).toInt ∧ ((V32 3 15)).toInt ≤ 262144 := hMV32 3 15
    refine lv_aload_n hx hb dX11_book_50 rfl (lv_at hl 2 rfl) ?_
    refine va_get (D := D) (ci := 11) (v := .ref (ad 4)) (fs := (xfHouse ad V32 L8 Z)) (C := RX11) (T := TX11) (N := 10) hx hb hg inX11 hown hK hP 0 xgHouse rfl 4 (by decide) (hg _ w719) (fun _ h9 => h9) rfl dX11_book_51 ?_
    refine gA_void (gA_runV (As := []) (rest := []) (ci := 7) (q0 := 4) hx hb hml hown hg hP hD hK hS hA hnw hgk (x_Nclear l D ks H.size ad kk V32 L8 Z  hMV32 ) w1031 w1032 w1033 w166 w1034 rfl xgNotes hdV_yX7_clear ⟨Nat.le_of_ble_eq_true rfl, Nat.le_of_ble_eq_true rfl⟩ rfl hl.1 rfl (Nat.le_of_ble_eq_true rfl) dX11_book_54 ⟨Nat.le_of_ble_eq_true rfl, Nat.le_of_ble_eq_true rfl⟩) hP hD hK hS hA (fun u37 H locs w38 hP hD hK hS => ?_)
    obtain ⟨V39, L40⟩ := u37
    obtain ⟨hMV39, ajV39, axL40⟩ := w38
    have axL40 : L8 = L40 := Eq.symm axL40
    subst axL40
    have hP : va_P D vwCl (xw ad kk V39 L8 Z) H := hP
    have hD : va_D A (xw ad kk V39 L8 Z) := hD
    have hMV39 : rgd bX V39 := hMV39
    have ajV39 : agr [(4, 5), (4, 6), (4, 7), (4, 8)] [] V32 V39 := ajV39
    have agV39 : agr [(0, 6), (0, 7), (0, 8), (0, 9), (1, 1), (1, 2), (1, 3), (1, 4), (1, 6), (1, 7), (1, 8), (2, 7), (3, 12), (3, 13), (3, 14), (3, 15), (4, 5), (4, 6), (4, 7), (4, 8), (5, 5), (5, 6), (5, 7), (5, 8), (5, 9), (5, 13), (6, 5), (6, 6), (6, 7), (6, 8), (6, 9), (6, 10)] [12, 13, 14, 23, 24, 25, 41, 42, 43, 44, 45, 46, 47, 48, 49, 50, 51, 52, 53, 54, 55, 56, 57, 58, 59, 60, 61, 62, 63, 64, 65, 66] V V39 := agV32.tr ajV39 (by decide) (by decide)
    refine lv_aload_n hx hb dX11_book_57 rfl (lv_at hl 2 rfl) ?_
    refine va_get (D := D) (ci := 11) (v := .ref (ad 2)) (fs := (xfHouse ad V39 L8 Z)) (C := RX11) (T := TX11) (N := 10) hx hb hg inX11 hown hK hP 0 xgHouse rfl 2 (by decide) (hg _ w717) (fun _ h9 => h9) rfl dX11_book_58 ?_
    refine gA_void (gA_runV (As := []) (rest := []) (ci := 2) (q0 := 2) hx hb hml hown hg hP hD hK hS hA hnw hgk (x_kclear7 l D ks H.size ad kk V39 L8 Z  hMV39 ) w1035 w1036 w1037 w163 w1038 rfl xgChecker hdV_yX2_clear ⟨Nat.le_of_ble_eq_true rfl, Nat.le_of_ble_eq_true rfl⟩ rfl hl.1 rfl (Nat.le_of_ble_eq_true rfl) dX11_book_61 ⟨Nat.le_of_ble_eq_true rfl, Nat.le_of_ble_eq_true rfl⟩) hP hD hK hS hA (fun u42 H locs w43 hP hD hK hS => ?_)
    obtain ⟨V45, L46⟩ := u42
    obtain ⟨hMV45, ajV45, axL46, t44⟩ := w43
    have axL46 : L8 = L46 := Eq.symm axL46
    subst axL46
    have hP : va_P D vwCl (xw ad kk V45 L8 Z) H := hP
    have hD : va_D A (xw ad kk V45 L8 Z) := hD
    have hMV45 : rgd bX V45 := hMV45
    have ajV45 : agr [(2, 7)] [] V39 V45 := ajV45
    have agV45 : agr [(0, 6), (0, 7), (0, 8), (0, 9), (1, 1), (1, 2), (1, 3), (1, 4), (1, 6), (1, 7), (1, 8), (2, 7), (3, 12), (3, 13), (3, 14), (3, 15), (4, 5), (4, 6), (4, 7), (4, 8), (5, 5), (5, 6), (5, 7), (5, 8), (5, 9), (5, 13), (6, 5), (6, 6), (6, 7), (6, 8), (6, 9), (6, 10)] [12, 13, 14, 23, 24, 25, 41, 42, 43, 44, 45, 46, 47, 48, 49, 50, 51, 52, 53, 54, 55, 56, 57, 58, 59, 60, 61, 62, 63, 64, 65, 66] V V45 := agV39.tr ajV45 (by decide) (by decide)
    have t44 : (V45 2 7).toInt = 0 := t44
    have r47 : 0 ≤ ((V45 2 7)).toInt ∧ ((V45 2 7)).toInt ≤ 1000000 := hMV45 2 7
    refine lv_aload_n hx hb dX11_book_64 rfl (lv_at hl 2 rfl) ?_
    refine va_get (D := D) (ci := 11) (v := .ref (ad 5)) (fs := (xfHouse ad V45 L8 Z)) (C := RX11) (T := TX11) (N := 10) hx hb hg inX11 hown hK hP 0 xgHouse rfl 5 (by decide) (hg _ w720) (fun _ h9 => h9) rfl dX11_book_65 ?_
    refine lv_aload_n hx hb dX11_book_68 rfl (lv_at hl 2 rfl) ?_
    refine va_get (D := D) (ci := 11) (v := .ref (ad (38 + Int32.toNatClampNeg (V45 0 6)))) (fs := (xfHouse ad V45 L8 Z)) (C := RX11) (T := TX11) (N := 10) hx hb hg inX11 hown hK hP 0 xgHouse rfl 6 (by decide) (hg _ w721) (fun _ h9 => h9) rfl dX11_book_69 ?_
    have pq48 : (V45 0 6).toInt = ((nI b1)).toInt := congrArg Int32.toInt ((ajV45 0 6 rfl).trans ((ajV39 0 6 rfl).trans ((ajV32 0 6 rfl).trans ((up2_k hV24 (by decide)).trans (up2_s hV21)))))
    refine g_topv (v := .ref (ad (38 + b1))) (rfP (by omega)) ?_
    refine gA_void (gA_runV (As := [.ref (ad (38 + b1))]) (rest := []) (ci := 5) (q0 := 5) hx hb hml hown hg hP hD hK hS hA hnw hgk (x_takeBook l D ks H.size ad kk V45 L8 Z (b1) hMV45 (show b1 < 2 from by (first | exact om_f940a4667dd6 hb1 | omega))) w1039 w1040 w1041 w171 w1042 rfl xgMachine hdV_yX5_takeBook ⟨Nat.le_of_ble_eq_true rfl, Nat.le_of_ble_eq_true rfl⟩ rfl hl.1 rfl (Nat.le_of_ble_eq_true rfl) dX11_book_72 ⟨Nat.le_of_ble_eq_true rfl, Nat.le_of_ble_eq_true rfl⟩) hP hD hK hS hA (fun u50 H locs w51 hP hD hK hS => ?_)
    obtain ⟨V54, L55⟩ := u50
    obtain ⟨hMV54, ajV54, axL55, t52, t53⟩ := w51
    have axL55 : L8 = L55 := Eq.symm axL55
    subst axL55
    have hP : va_P D vwCl (xw ad kk V54 L8 Z) H := hP
    have hD : va_D A (xw ad kk V54 L8 Z) := hD
    have hMV54 : rgd bX V54 := hMV54
    have ajV54 : agr [(5, 5), (5, 6), (5, 7), (5, 8), (5, 9), (5, 13)] [] V45 V54 := ajV54
    have agV54 : agr [(0, 6), (0, 7), (0, 8), (0, 9), (1, 1), (1, 2), (1, 3), (1, 4), (1, 6), (1, 7), (1, 8), (2, 7), (3, 12), (3, 13), (3, 14), (3, 15), (4, 5), (4, 6), (4, 7), (4, 8), (5, 5), (5, 6), (5, 7), (5, 8), (5, 9), (5, 13), (6, 5), (6, 6), (6, 7), (6, 8), (6, 9), (6, 10)] [12, 13, 14, 23, 24, 25, 41, 42, 43, 44, 45, 46, 47, 48, 49, 50, 51, 52, 53, 54, 55, 56, 57, 58, 59, 60, 61, 62, 63, 64, 65, 66] V V54 := agV45.tr ajV54 (by decide) (by decide)
    have t52 : (V54 5 5).toInt = (b1 : Int) := t52
    have t53 : (V54 5 6).toInt = 0 := t53
    have r56 : 0 ≤ ((V54 5 5)).toInt ∧ ((V54 5 5)).toInt ≤ 1 := hMV54 5 5
    have r57 : 0 ≤ ((V54 5 6)).toInt ∧ ((V54 5 6)).toInt ≤ 400 := hMV54 5 6
    refine lv_aload_n hx hb dX11_book_75 rfl (lv_at hl 2 rfl) ?_
    refine lv_iconst (v := 0) hx hb dX11_book_76 (by decide) ?_
    refine va_put (D := D) (ci := 11) (v := .int 0) (ty := tyX11 8) (fs := (xfHouse ad V54 L8 Z)) (C := RX11) (T := TX11) (N := 10) hx hb hg inX11 tyX11 tyX11_ok nmX11 hown hK hP hD hS 0 xgHouse rfl 8 (by decide) (hg _ w723) (fun _ h9 => h9) rfl (tyX11_ok 8 (by decide)) rfl rfl (Nat.le_of_ble_eq_true rfl) dX11_book_77 (fun H locs hP hD hS => ?_)
    obtain ⟨V58, hV58⟩ : ∃ z, z = up2 V54 0 8 0 := ⟨_, rfl⟩
    have ew59 : (xw ad kk V54 L8 Z).set 0 ((ad 0), .inr (11, (xfHouse ad V54 L8 Z).set 8 (.int 0))) = xw ad kk V58 L8 Z := by rw [hV58]; exact xw_ss (by decide) rfl (xb_si (by decide))
    have hP : va_P D vwCl (xw ad kk V58 L8 Z) H := by rw [← ew59]; exact hP
    have hD : va_D A (xw ad kk V58 L8 Z) := by rw [← ew59]; exact hD
    have hMV58 : rgd bX V58 := hMV54.put hV58 (by decide)
    have agV58 : agr [(0, 6), (0, 7), (0, 8), (0, 9), (1, 1), (1, 2), (1, 3), (1, 4), (1, 6), (1, 7), (1, 8), (2, 7), (3, 12), (3, 13), (3, 14), (3, 15), (4, 5), (4, 6), (4, 7), (4, 8), (5, 5), (5, 6), (5, 7), (5, 8), (5, 9), (5, 13), (6, 5), (6, 6), (6, 7), (6, 8), (6, 9), (6, 10)] [12, 13, 14, 23, 24, 25, 41, 42, 43, 44, 45, 46, 47, 48, 49, 50, 51, 52, 53, 54, 55, 56, 57, 58, 59, 60, 61, 62, 63, 64, 65, 66] V V58 := agV54.up hV58 rfl
    refine lv_aload_n hx hb dX11_book_80 rfl (lv_at hl 2 rfl) ?_
    refine lv_iconst (v := 0) hx hb dX11_book_81 (by decide) ?_
    refine va_put (D := D) (ci := 11) (v := .int 0) (ty := tyX11 9) (fs := (xfHouse ad V58 L8 Z)) (C := RX11) (T := TX11) (N := 10) hx hb hg inX11 tyX11 tyX11_ok nmX11 hown hK hP hD hS 0 xgHouse rfl 9 (by decide) (hg _ w724) (fun _ h9 => h9) rfl (tyX11_ok 9 (by decide)) rfl rfl (Nat.le_of_ble_eq_true rfl) dX11_book_82 (fun H locs hP hD hS => ?_)
    obtain ⟨V60, hV60⟩ : ∃ z, z = up2 V58 0 9 0 := ⟨_, rfl⟩
    have ew61 : (xw ad kk V58 L8 Z).set 0 ((ad 0), .inr (11, (xfHouse ad V58 L8 Z).set 9 (.int 0))) = xw ad kk V60 L8 Z := by rw [hV60]; exact xw_ss (by decide) rfl (xb_si (by decide))
    have hP : va_P D vwCl (xw ad kk V60 L8 Z) H := by rw [← ew61]; exact hP
    have hD : va_D A (xw ad kk V60 L8 Z) := by rw [← ew61]; exact hD
    have hMV60 : rgd bX V60 := hMV58.put hV60 (i_full _)
    have agV60 : agr [(0, 6), (0, 7), (0, 8), (0, 9), (1, 1), (1, 2), (1, 3), (1, 4), (1, 6), (1, 7), (1, 8), (2, 7), (3, 12), (3, 13), (3, 14), (3, 15), (4, 5), (4, 6), (4, 7), (4, 8), (5, 5), (5, 6), (5, 7), (5, 8), (5, 9), (5, 13), (6, 5), (6, 6), (6, 7), (6, 8), (6, 9), (6, 10)] [12, 13, 14, 23, 24, 25, 41, 42, 43, 44, 45, 46, 47, 48, 49, 50, 51, 52, 53, 54, 55, 56, 57, 58, 59, 60, 61, 62, 63, 64, 65, 66] V V60 := agV58.up hV60 rfl
    refine lv_iconst (v := 0) hx hb dX11_book_85 (by decide) ?_
    have pq62 : (V60 2 7).toInt = ((V45 2 7)).toInt := congrArg Int32.toInt ((up2_o hV60 (by decide)).trans ((up2_o hV58 (by decide)).trans (ajV54 2 7 rfl)))
    exact W.iret (v := 0) hx hb hr (fun t ht hW => ⟨⟨0, (V60, L8), rfl, ⟨hMV60, agV60, alL8, (show (0 = 0 ∧ (V60 2 7).toInt = 0) ∨ (0 ≠ 0 ∧ (V60 2 7).toInt = (V 2 7).toInt) from by omega)⟩, by rw [ht]; exact hP, va_K.moved hW.alike hK, hD⟩, hS.F ht⟩) hS.2.2 dX11_book_86
  · skip
    have f63 : z3.toInt ≠ 0 := b_neq rfl (by decide) c16
    refine lv_iload_n hx hb dX11_book_23 rfl (lv_at hl 0 rfl) ?_
    have pq64 : (V13 2 7).toInt = ((V 2 7)).toInt := congrArg Int32.toInt ((ajV13 2 7 rfl).trans (ajV7 2 7 rfl))
    have r65 : 0 ≤ ((V 2 7)).toInt ∧ ((V 2 7)).toInt ≤ 1000000 := hMV 2 7
    exact W.iret (v := z3) hx hb hr (fun t ht hW => ⟨⟨z3, (V13, L8), rfl, ⟨hMV13, agV13, alL8, (show (z3.toInt = 0 ∧ (V13 2 7).toInt = 0) ∨ (z3.toInt ≠ 0 ∧ (V13 2 7).toInt = (V 2 7).toInt) from by omega)⟩, by rw [ht]; exact hP, va_K.moved hW.alike hK, hD⟩, hS.F ht⟩) hS.2.2 dX11_book_24
abbrev r_s_forget7 : Room := { frames := 0, cells := 0, slots := 0, locals := 0 }
abbrev q_s_forget7 (D : va_G) (ks : KS) (ad : Nat → Nat) (kk : Nat → ClassId) (V : Vf) (L : Lf) (A : Nat → Prop) : Array Value → State → Outcome → State → Prop := va_Qv (fun (u : Vf × Lf) => rgd bM u.1 ∧ agr [(0, 54), (0, 55), (0, 60), (0, 65), (0, 69), (0, 70), (0, 71), (0, 72), (0, 73), (0, 76), (0, 81)] [56, 57, 59] V u.1 ∧ u.2 = L ∧ ((u.1 0 60).toInt = 0 ∧ (u.1 0 54).toInt = 0 ∧ (u.1 0 65).toInt = 0 ∧ (u.1 0 73).toInt = 0 ∧ (u.1 0 76).toInt = 0) ∧ ((u.1 0 55).toInt = 1) ∧ ((u.1 0 81).toInt = 0)) (fun u t => gq D A (mw ad kk ks.1 u.1 u.2) (mty kk) t) A