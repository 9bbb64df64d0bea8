/-! two contracts of one method -/
theorem Met.bothi {l : Launch} {y : MethodName} {ws : List Cond} {rm : Room} {Pc : Array Value → State → Prop} {S S2 : Type} {p1 : Int32 → S → Prop} {p2 : Int32 → S2 → Prop} {B1 : S → State → Prop} {B2 : S2 → State → Prop} {A : Nat → Prop} {mc ms : Nat} {free : Addr → Prop} (h1 : Met l y ws rm Pc (va_Qi p1 B1 A) mc ms free) (h2 : Met l y ws rm Pc (va_Qi p2 B2 A) mc ms free) : Met l y ws rm Pc (va_Qi (fun r u => p1 r u ∧ ∃ u2, p2 r u2) B1 A) mc ms free := by
  unfold Met MetFree at h1 h2 ⊢
  intro p e ha hf hc s m args below hfr hS hP hK
  obtain ⟨n, o, w, r, en, q, fr⟩ := h1 p e ha hf hc s m args below hfr hS hP hK
  obtain ⟨n', o', w', r', en', q', fr'⟩ := h2 p e ha hf hc s m args below hfr hS hP hK
  have hn : n = n' := by
    rcases Nat.lt_trichotomy n n' with h | h | h
    · exact absurd (w' n h) en.not_within
    · exact h
    · exact absurd (w n' h) en'.not_within
  subst hn
  have ho := en.outcome_unique en'
  subst ho
  obtain ⟨⟨r1, u1, e1, k1, b1⟩, f1⟩ := q
  obtain ⟨⟨r2, u2, e2, k2, b2⟩, f2⟩ := q'
  have er : r1 = r2 := by
    have z := e1.symm.trans e2
    cases z
    rfl
  subst er
  exact ⟨n, o, w, r, en, ⟨⟨r1, u1, e1, ⟨k1, u2, k2⟩, b1⟩, f1⟩, fr⟩
/-! the tokens of the class are the reference's -/
theorem TKR.mx {V W Vm Wm : Vf} {L M Mm : Lf} (c : CTx V L W M) (r : RTE Vm Wm Mm) (hn : (V 6 5).toInt = (Vm 0 2).toInt) (h0 : 0 ≤ (W 6 7).toInt) (hL : ∀ k : Nat, k < 28 → L 11 k = kg 155 k) (q : eqB (V 6 5).toInt.toNat (V 10) (Vm 1)) : ∃ t, TKR W M Wm Mm t := by
  obtain ⟨⟨S, E, k1, k2⟩, c2, c3, c4⟩ := c
  obtain ⟨t, ht, ⟨S', E', m1, m2⟩, r2, r3⟩ := r
  rw [← hn] at m1
  rw [c2] at k1
  have k3 := k1.ex q
  obtain ⟨e1, e2, e3⟩ := k3.uq m1
  refine ⟨t, ht, by omega, fun j hj => ?_, by rw [← e1, c3]; decide, by rw [r2]; decide, by rw [r3, ← e1, c4, hn]⟩
  have hj' : j < (W 6 7).toInt.toNat := by omega
  have a := k2 j hj'
  have b := m2 j hj
  rw [← e3 j hj', ← e2 (j + 1) (by omega)] at b
  exact ⟨by rw [a.1, b.1], KR.mk hL q (k1.2.1 j hj').2.2.2 a.2 b.2⟩
theorem TkM.of {V W Vm Wm : Vf} {L M Mm : Lf} (c : CTx V L W M) (r : RTE Vm Wm Mm) (hn : (V 6 5).toInt = (Vm 0 2).toInt) (h0 : 0 ≤ (W 6 7).toInt) (hL : ∀ k : Nat, k < 28 → L 11 k = kg 155 k) (q : eqB (V 6 5).toInt.toNat (V 10) (Vm 1)) (hk : ∀ k : Nat, k < 28 → Mm 10 k = kg 155 k) : TkM Wm Mm (tkOf W M) (W 6 7).toInt.toNat := by
  obtain ⟨t, t0, t1, t2, t3, t4, t5⟩ := TKR.mx c r hn h0 hL q
  have e : (W 6 7).toInt.toNat = t := by omega
  rw [e]
  exact ⟨t0, fun j hj => ⟨(t2 j hj).2, (t2 j hj).1⟩, t3, t4, t5, hk⟩
theorem BRES.eq {T : Tk} {a b : Int} {P Q : St → Prop} (h : BRES T a P) (k : BRES T b Q) : a = b := by
  unfold BRES at h k
  rcases h with ⟨h0, s, h1, _⟩ | h1
  · rcases k with ⟨k0, s', k1, _⟩ | k1
    · rw [h0, k0]
    · have z := h1.uq k1 trivial trivial
      injection z with z
      cases z
  · rcases k with ⟨k0, s', k1, _⟩ | k1
    · have z := h1.uq k1 trivial trivial
      injection z with z
      cases z
    · have z := h1.uq k1 trivial trivial
      injection z with z
      injection z with z
/-! what the law keeps of tape and words -/
def LQ (V : Vf) (L : Lf) (Vm : Vf) (Lm : Lf) : Prop := eqB (V 6 5).toInt.toNat (V 10) (Vm 1) ∧ allTp (V 6 5).toInt.toNat (V 10) ∧ (∀ k : Nat, k < 28 → L 11 k = kg 155 k) ∧ ∀ k : Nat, k < 28 → Lm 10 k = kg 155 k
section LQs
variable {V V1 Vm Vm1 : Vf} {L L1 Lm Lm1 : Lf}
theorem LQ.mv (h : LQ V L Vm Lm) (e5 : V1 6 5 = V 6 5) (e10 : V1 10 = V 10) (e1 : Vm1 1 = Vm 1) (k11 : L1 11 = L 11) (k10 : Lm1 10 = Lm 10) : LQ V1 L1 Vm1 Lm1 := by
  unfold LQ at h ⊢
  rw [e5, e10, e1, k11, k10]
  exact h
theorem LQ.nil (h : LQ V L Vm Lm) (e5 : (V1 6 5).toInt = 0) (k11 : L1 11 = L 11) (k10 : Lm1 10 = Lm 10) : LQ V1 L1 Vm1 Lm1 := by
  unfold LQ at h ⊢
  rw [e5, k11, k10]
  exact ⟨fun q hq => absurd hq (Nat.not_lt_zero _), fun q hq => absurd hq (Nat.not_lt_zero _), h.2.2⟩
theorem LQ.feed {a b c : Int64} (h : LQ V L Vm Lm) (e5 : (V1 6 5).toInt = ((apk 8 c (apk 8 b (apk 8 a (V 6 5).toInt.toNat)) : Nat) : Int)) (e10 : V1 10 = apF sgc 8 c (apk 8 b (apk 8 a (V 6 5).toInt.toNat)) (apF sgc 8 b (apk 8 a (V 6 5).toInt.toNat) (apF sgc 8 a (V 6 5).toInt.toNat (V 10)))) (e1 : Vm1 1 = apF sgm 8 c (apm 8 b (apm 8 a (V 6 5).toInt.toNat)) (apF sgm 8 b (apm 8 a (V 6 5).toInt.toNat) (apF sgm 8 a (V 6 5).toInt.toNat (Vm 1)))) (k11 : L1 11 = L 11) (k10 : Lm1 10 = Lm 10) : LQ V1 L1 Vm1 Lm1 := by
  unfold LQ at h ⊢
  rw [e5, e10, e1, k11, k10, Int.toNat_natCast, ← apF_cm, ← apF_cm, ← apF_cm, ← apk_apm8, ← apk_apm8]
  exact ⟨eqB.ap 8 c _ _ _ (eqB.ap 8 b _ _ _ (eqB.ap 8 a _ _ _ h.1)), allTp.ap 8 c _ _ (allTp.ap 8 b _ _ (allTp.ap 8 a _ _ h.2.1)), h.2.2⟩
end LQs


abbrev r_x_h_book3 : Room := { frames := 94, cells := 0, slots := 0, locals := 2751 }
abbrev q_x_h_book3 (D : va_G) (ks : KS) (ad : Nat → Nat) (kk : Nat → ClassId) (V : Vf) (L : Lf) (Z : XZ) (b : Nat) (b1 : Nat) (A : Nat → Prop) : Array Value → State → Outcome → State → Prop := va_Qi (fun (r : Int32) (u : Vf × Lf) => rgd bX u.1 ∧ agr [(0, 6), (0, 7), (0, 8), (0, 9), (1, 1), (1, 2), (1, 3), (1, 4), (1, 6), (1, 7), (1, 8), (2, 7), (3, 12), (3, 13), (3, 14), (3, 15), (4, 5), (4, 6), (4, 7), (4, 8), (5, 5), (5, 6), (5, 7), (5, 8), (5, 9), (5, 13), (6, 5), (6, 6), (6, 7), (6, 8), (6, 9), (6, 10)] [12, 13, 14, 23, 24, 25, 41, 42, 43, 44, 45, 46, 47, 48, 49, 50, 51, 52, 53, 54, 55, 56, 57, 58, 59, 60, 61, 62, 63, 64, 65, 66] V u.1 ∧ agL [1, 6, 14, 44] L u.2 ∧ (∃ (W9 : Vf) (M9 : Lf), CTx V L W9 M9 ∧ 0 ≤ (W9 6 7).toInt ∧ BRES (tkOf W9 M9) r.toInt (fun s9 => TBc W9 M9 b1 s9))) (fun u t => gq D A (xw ad kk u.1 u.2 Z) (xty kk Z) t) A
set_option maxHeartbeats 4000000 in
set_option maxRecDepth 100000 in
theorem x_h_book3 (l : Launch) (D : va_G) (ks : KS) (sz : Nat) (ad : Nat → Nat) (kk : Nat → ClassId) (V : Vf) (L : Lf) (Z : XZ) (b : Nat) (b1 : Nat) (hMV : rgd bX V) (hb2 : b < 2) (hb1 : b1 < 2) (hbb : b + b1 = 1) (shk : (V 0 6).toInt = (b : Int)) (spk : (V 0 7).toInt = (b1 : Int)) (bp1 : ∀ k : Nat, (k : Int) < (V 6 5).toInt → isTp (V 10 k))  : Met l yX11_book (Cond.code yX11_book cX11_book 3 (some .int) :: GW) r_x_h_book3 (va_Pc [.ref (ad 0)] (gp D ks (xw ad kk V L Z) (xty kk Z) sz)) (q_x_h_book3 D ks ad kk V L Z  b b1 (va_A (xw ad kk V L Z) sz)) 0 0 (va_A (xw ad kk V L Z) sz) := by
  refine g_met (q_x_h_book3 D ks ad kk V L Z  b b1) (by decide) (Nat.le_of_ble_eq_true rfl) ?_
  intro p e s m below meth c A ls H locs hx hb hr hml hown hg hlocks hin hnw hgk hP hK hD hS hA hl
  have hown : s.vm.findClass RX11 = some m.cls := hown
  have hl : lv_has ls 3 [(0, .ref (ad 0))] := hl
  have hP : va_P D vwCl (xw ad kk V L Z) H := hP
  have hD : va_D A (xw ad kk V L Z) := hD
  have hK : va_K D vwCl (xty kk Z) s := hK
  have agV : agr [(0, 6), (0, 7), (0, 8), (0, 9), (1, 1), (1, 2), (1, 3), (1, 4), (1, 6), (1, 7), (1, 8), (2, 7), (3, 12), (3, 13), (3, 14), (3, 15), (4, 5), (4, 6), (4, 7), (4, 8), (5, 5), (5, 6), (5, 7), (5, 8), (5, 9), (5, 13), (6, 5), (6, 6), (6, 7), (6, 8), (6, 9), (6, 10)] [12, 13, 14, 23, 24, 25, 41, 42, 43, 44, 45, 46, 47, 48, 49, 50, 51, 52, 53, 54, 55, 56, 57, 58, 59, 60, 61, 62, 63, 64, 65, 66] V V := agr.rf
  have alL : agL [1, 6, 14, 44] L L := agL.rf
  have r1 : 0 ≤ ((V 0 6)).toInt ∧ ((V 0 6)).toInt ≤ 1 := hMV 0 6
  have r2 : 0 ≤ ((V 0 7)).toInt ∧ ((V 0 7)).toInt ≤ 1 := hMV 0 7
  refine lv_aload_n hx hb dX11_book_0 rfl (lv_at hl 0 rfl) ?_
  refine va_get (D := D) (ci := 11) (v := .ref (ad 1)) (fs := (xfHouse ad V L Z)) (C := RX11) (T := TX11) (N := 10) hx hb hg inX11 hown hK hP 0 xgHouse rfl 1 (by decide) (hg _ w716) (fun _ h9 => h9) rfl dX11_book_1 ?_
  refine lv_aload_n hx hb dX11_book_4 rfl (lv_at hl 0 rfl) ?_
  refine va_get (D := D) (ci := 11) (v := .ref (ad (38 + Int32.toNatClampNeg (V 0 7)))) (fs := (xfHouse ad V L Z)) (C := RX11) (T := TX11) (N := 10) hx hb hg inX11 hown hK hP 0 xgHouse rfl 7 (by decide) (hg _ w722) (fun _ h9 => h9) rfl dX11_book_5 ?_
  refine g_topv (v := .ref (ad (38 + b1))) (rfP (by first | omega | ((try (have i_bp1 := Imp.go bp1 (by omega))); omega))) ?_
  refine gA_int (gA_runV (As := [.ref (ad (38 + b1))]) (rest := []) (ci := 1) (q0 := 1) hx hb hml hown hg hP hD hK hS hA hnw hgk (x_read3 l D ks H.size ad kk V L Z (b1) hMV (show b1 < 2 from by first | omega | ((try (have i_bp1 := Imp.go bp1 (by omega))); omega)) bp1) w758 w759 w760 w162 w761 rfl xgReader hdV_yX1_read ⟨Nat.le_of_ble_eq_true rfl, Nat.le_of_ble_eq_true rfl⟩ rfl hl.1 rfl (Nat.le_of_ble_eq_true rfl) dX11_book_8 ⟨Nat.le_of_ble_eq_true rfl, Nat.le_of_ble_eq_true rfl⟩) hP hD hK hS hA (fun z3 u4 H locs w5 hP hD hK hS => ?_)
  obtain ⟨V8, L9⟩ := u4
  obtain ⟨hMV8, ajV8, axL9, t6, t7⟩ := w5
  have alL9 : agL [1, 6, 14, 44] L L9 := agL.tr alL axL9 (by decide)
  have hP : va_P D vwCl (xw ad kk V8 L9 Z) H := hP
  have hD : va_D A (xw ad kk V8 L9 Z) := hD
  have hMV8 : rgd bX V8 := hMV8
  have ajV8 : agr [(1, 1), (1, 2), (1, 3), (1, 4), (1, 6), (1, 7), (1, 8), (6, 6), (6, 7), (6, 8), (6, 9), (6, 10)] [12, 13, 14, 41, 42, 43, 44, 45, 46, 47, 48, 49, 50, 51, 52, 53, 54, 55, 56, 57, 58, 59, 60, 61, 62, 63, 64, 65, 66] V V8 := ajV8
  have agV8 : agr [(0, 6), (0, 7), (0, 8), (0, 9), (1, 1), (1, 2), (1, 3), (1, 4), (1, 6), (1, 7), (1, 8), (2, 7), (3, 12), (3, 13), (3, 14), (3, 15), (4, 5), (4, 6), (4, 7), (4, 8), (5, 5), (5, 6), (5, 7), (5, 8), (5, 9), (5, 13), (6, 5), (6, 6), (6, 7), (6, 8), (6, 9), (6, 10)] [12, 13, 14, 23, 24, 25, 41, 42, 43, 44, 45, 46, 47, 48, 49, 50, 51, 52, 53, 54, 55, 56, 57, 58, 59, 60, 61, 62, 63, 64, 65, 66] V V8 := agV.tr ajV8 (by decide) (by decide)
  have t6 : CTx V L V8 L9 := t6
  have t7 : BRES (tkOf V8 L9) z3.toInt (fun s9 => TBc V8 L9 b1 s9) := t7
  refine lv_istore_n (lv' := [(1, .int z3), (0, .ref (ad 0))]) hx hb dX11_book_11 rfl hl (by decide) rfl (fun ls hl => ?_)
  refine lv_aload_n hx hb dX11_book_12 rfl (lv_at hl 1 rfl) ?_
  refine va_get (D := D) (ci := 11) (v := .ref (ad 6)) (fs := (xfHouse ad V8 L9 Z)) (C := RX11) (T := TX11) (N := 10) hx hb hg inX11 hown hK hP 0 xgHouse rfl 0 (by decide) (hg _ w715) (fun _ h9 => h9) rfl dX11_book_13 ?_
  refine gA_void (gA_runV (As := []) (rest := []) (ci := 9) (q0 := 6) hx hb hml hown hg hP hD hK hS hA hnw hgk (x_empty l D ks H.size ad kk V8 L9 Z  hMV8 ) w1019 w1020 w1021 w157 w1022 rfl xgTape hdV_yX9_empty ⟨Nat.le_of_ble_eq_true rfl, Nat.le_of_ble_eq_true rfl⟩ rfl hl.1 rfl (Nat.le_of_ble_eq_true rfl) dX11_book_16 ⟨Nat.le_of_ble_eq_true rfl, Nat.le_of_ble_eq_true rfl⟩) hP hD hK hS hA (fun u11 H locs w12 hP hD hK hS => ?_)
  obtain ⟨V14, L15⟩ := u11
  obtain ⟨hMV14, ajV14, axL15, t13⟩ := w12
  have axL15 : L9 = L15 := Eq.symm axL15
  subst axL15
  have hP : va_P D vwCl (xw ad kk V14 L9 Z) H := hP
  have hD : va_D A (xw ad kk V14 L9 Z) := hD
  have hMV14 : rgd bX V14 := hMV14
  have ajV14 : agr [(6, 5)] [] V8 V14 := ajV14
  have agV14 : agr [(0, 6), (0, 7), (0, 8), (0, 9), (1, 1), (1, 2), (1, 3), (1, 4), (1, 6), (1, 7), (1, 8), (2, 7), (3, 12), (3, 13), (3, 14), (3, 15), (4, 5), (4, 6), (4, 7), (4, 8), (5, 5), (5, 6), (5, 7), (5, 8), (5, 9), (5, 13), (6, 5), (6, 6), (6, 7), (6, 8), (6, 9), (6, 10)] [12, 13, 14, 23, 24, 25, 41, 42, 43, 44, 45, 46, 47, 48, 49, 50, 51, 52, 53, 54, 55, 56, 57, 58, 59, 60, 61, 62, 63, 64, 65, 66] V V14 := agV8.tr ajV14 (by decide) (by decide)
  have t13 : (V14 6 5).toInt = 0 := t13
  have r16 : 0 ≤ ((V14 6 5)).toInt ∧ ((V14 6 5)).toInt ≤ 4000 := hMV14 6 5
  refine lv_iload_n hx hb dX11_book_19 rfl (lv_at hl 0 rfl) ?_
  refine lv_if_eq (tgt := 25) hx hb dX11_book_20 (by decide) (fun c17 => ?_) (fun c17 => ?_)
  · skip
    have f18 : z3.toInt = 0 := b_eq rfl (by decide) c17
    refine lv_aload_n hx hb dX11_book_25 rfl (lv_at hl 1 rfl) ?_
    refine va_get (D := D) (ci := 11) (v := .ref (ad (38 + Int32.toNatClampNeg (V14 0 6)))) (fs := (xfHouse ad V14 L9 Z)) (C := RX11) (T := TX11) (N := 10) hx hb hg inX11 hown hK hP 0 xgHouse rfl 6 (by decide) (hg _ w721) (fun _ h9 => h9) rfl dX11_book_26 ?_
    have pq19 : (V14 0 6).toInt = ((V 0 6)).toInt := congrArg Int32.toInt ((ajV14 0 6 rfl).trans (ajV8 0 6 rfl))
    refine g_topv (v := .ref (ad (38 + b))) (rfP (by first | omega | ((try (have i_bp1 := Imp.go bp1 (by omega))); omega))) ?_
    refine lv_astore_n (lv' := [(2, .ref (ad (38 + b))), (1, .int z3), (0, .ref (ad 0))]) hx hb dX11_book_29 rfl hl (by decide) rfl (fun ls hl => ?_)
    refine lv_aload_n hx hb dX11_book_30 rfl (lv_at hl 2 rfl) ?_
    refine lv_aload_n hx hb dX11_book_31 rfl (lv_at hl 2 rfl) ?_
    refine va_get (D := D) (ci := 11) (v := .ref (ad (38 + Int32.toNatClampNeg (V14 0 7)))) (fs := (xfHouse ad V14 L9 Z)) (C := RX11) (T := TX11) (N := 10) hx hb hg inX11 hown hK hP 0 xgHouse rfl 7 (by decide) (hg _ w722) (fun _ h9 => h9) rfl dX11_book_32 ?_
    have pq20 : (V14 0 7).toInt = ((V 0 7)).toInt := congrArg Int32.toInt ((ajV14 0 7 rfl).trans (ajV8 0 7 rfl))
    refine g_topv (v := .ref (ad (38 + b1))) (rfP (by first | omega | ((try (have i_bp1 := Imp.go bp1 (by omega))); omega))) ?_
    refine va_put (D := D) (ci := 11) (v := .ref (ad (38 + b1))) (ty := tyX11 6) (fs := (xfHouse ad V14 L9 Z)) (C := RX11) (T := TX11) (N := 10) hx hb hg inX11 tyX11 tyX11_ok nmX11 hown hK hP hD hS 0 xgHouse rfl 6 (by decide) (hg _ w721) (fun _ h9 => h9) rfl (tyX11_ok 6 (by decide)) rfl rfl (Nat.le_of_ble_eq_true rfl) dX11_book_35 (fun H locs hP hD hS => ?_)
    have r21 : (nI b1).toInt = ((b1 : Nat) : Int) := nI_toInt (by omega)
    obtain ⟨V22, hV22⟩ : ∃ z, z = up2 V14 0 6 (nI b1) := ⟨_, rfl⟩
    have ew23 : (xw ad kk V14 L9 Z).set 0 ((ad 0), .inr (11, (xfHouse ad V14 L9 Z).set 6 (.ref (ad (38 + b1))))) = xw ad kk V22 L9 Z := by rw [hV22]; exact xr_shelf hb1
    have hP : va_P D vwCl (xw ad kk V22 L9 Z) H := by rw [← ew23]; exact hP
    have hD : va_D A (xw ad kk V22 L9 Z) := by rw [← ew23]; exact hD
    have hMV22 : rgd bX V22 := hMV14.put hV22 (show 0 ≤ ((nI b1)).toInt ∧ ((nI b1)).toInt ≤ 1 from by first | omega | ((try (have i_bp1 := Imp.go bp1 (by omega))); omega))
    have agV22 : agr [(0, 6), (0, 7), (0, 8), (0, 9), (1, 1), (1, 2), (1, 3), (1, 4), (1, 6), (1, 7), (1, 8), (2, 7), (3, 12), (3, 13), (3, 14), (3, 15), (4, 5), (4, 6), (4, 7), (4, 8), (5, 5), (5, 6), (5, 7), (5, 8), (5, 9), (5, 13), (6, 5), (6, 6), (6, 7), (6, 8), (6, 9), (6, 10)] [12, 13, 14, 23, 24, 25, 41, 42, 43, 44, 45, 46, 47, 48, 49, 50, 51, 52, 53, 54, 55, 56, 57, 58, 59, 60, 61, 62, 63, 64, 65, 66] V V22 := agV14.up hV22 rfl
    refine lv_aload_n hx hb dX11_book_38 rfl (lv_at hl 2 rfl) ?_
    refine lv_aload_n hx hb dX11_book_39 rfl (lv_at hl 0 rfl) ?_
    refine va_put (D := D) (ci := 11) (v := .ref (ad (38 + b))) (ty := tyX11 7) (fs := (xfHouse ad V22 L9 Z)) (C := RX11) (T := TX11) (N := 10) hx hb hg inX11 tyX11 tyX11_ok nmX11 hown hK hP hD hS 0 xgHouse rfl 7 (by decide) (hg _ w722) (fun _ h9 => h9) rfl (tyX11_ok 7 (by decide)) rfl rfl (Nat.le_of_ble_eq_true rfl) dX11_book_40 (fun H locs hP hD hS => ?_)
    have r24 : (nI b).toInt = ((b : Nat) : Int) := nI_toInt (by omega)
    obtain ⟨V25, hV25⟩ : ∃ z, z = up2 V22 0 7 (nI b) := ⟨_, rfl⟩
    have ew26 : (xw ad kk V22 L9 Z).set 0 ((ad 0), .inr (11, (xfHouse ad V22 L9 Z).set 7 (.ref (ad (38 + b))))) = xw ad kk V25 L9 Z := by rw [hV25]; exact xr_spare hb2
    have hP : va_P D vwCl (xw ad kk V25 L9 Z) H := by rw [← ew26]; exact hP
    have hD : va_D A (xw ad kk V25 L9 Z) := by rw [← ew26]; exact hD
    have hMV25 : rgd bX V25 := hMV22.put hV25 (show 0 ≤ ((nI b)).toInt ∧ ((nI b)).toInt ≤ 1 from by first | omega | ((try (have i_bp1 := Imp.go bp1 (by omega))); omega))
    have agV25 : agr [(0, 6), (0, 7), (0, 8), (0, 9), (1, 1), (1, 2), (1, 3), (1, 4), (1, 6), (1, 7), (1, 8), (2, 7), (3, 12), (3, 13), (3, 14), (3, 15), (4, 5), (4, 6), (4, 7), (4, 8), (5, 5), (5, 6), (5, 7), (5, 8), (5, 9), (5, 13), (6, 5), (6, 6), (6, 7), (6, 8), (6, 9), (6, 10)] [12, 13, 14, 23, 24, 25, 41, 42, 43, 44, 45, 46, 47, 48, 49, 50, 51, 52, 53, 54, 55, 56, 57, 58, 59, 60, 61, 62, 63, 64, 65, 66] V V25 := agV22.up hV25 rfl
    refine lv_aload_n hx hb dX11_book_43 rfl (lv_at hl 2 rfl) ?_
    refine va_get (D := D) (ci := 11) (v := .ref (ad 3)) (fs := (xfHouse ad V25 L9 Z)) (C := RX11) (T := TX11) (N := 10) hx hb hg inX11 hown hK hP 0 xgHouse rfl 3 (by decide) (hg _ w718) (fun _ h9 => h9) rfl dX11_book_44 ?_
    refine gA_void (gA_runV (As := []) (rest := []) (ci := 8) (q0 := 3) hx hb hml hown hg hP hD hK hS hA hnw hgk (x_sclear2 l D ks H.size ad kk V25 L9 Z  hMV25 ) w1023 w1024 w1025 w164 w1026 rfl xgStock hdV_yX8_clear ⟨Nat.le_of_ble_eq_true rfl, Nat.le_of_ble_eq_true rfl⟩ rfl hl.1 rfl (Nat.le_of_ble_eq_true rfl) dX11_book_47 ⟨Nat.le_of_ble_eq_true rfl, Nat.le_of_ble_eq_true rfl⟩) hP hD hK hS hA (fun u28 H locs w29 hP hD hK hS => ?_)
    obtain ⟨V33, L34⟩ := u28
    obtain ⟨hMV33, ajV33, axL34, t30, t31, t32⟩ := w29
    have axL34 : L9 = L34 := Eq.symm axL34
    subst axL34
    have hP : va_P D vwCl (xw ad kk V33 L9 Z) H := hP
    have hD : va_D A (xw ad kk V33 L9 Z) := hD
    have hMV33 : rgd bX V33 := hMV33
    have ajV33 : agr [(3, 12), (3, 13), (3, 14), (3, 15)] [23, 24, 25] V25 V33 := ajV33
    have agV33 : agr [(0, 6), (0, 7), (0, 8), (0, 9), (1, 1), (1, 2), (1, 3), (1, 4), (1, 6), (1, 7), (1, 8), (2, 7), (3, 12), (3, 13), (3, 14), (3, 15), (4, 5), (4, 6), (4, 7), (4, 8), (5, 5), (5, 6), (5, 7), (5, 8), (5, 9), (5, 13), (6, 5), (6, 6), (6, 7), (6, 8), (6, 9), (6, 10)] [12, 13, 14, 23, 24, 25, 41, 42, 43, 44, 45, 46, 47, 48, 49, 50, 51, 52, 53, 54, 55, 56, 57, 58, 59, 60, 61, 62, 63, 64, 65, 66] V V33 := agV25.tr ajV33 (by decide) (by decide)
    have t30 : (V33 3 13).toInt = 0 := t30
    have t31 : (V33 3 15).toInt = 0 := t31
    have t32 : ∀ q : Nat, q < 960 → (V33 25 q).toInt = -1 := t32
    have r35 : 0 ≤ ((V33 3 13)).toInt ∧ ((V33 3 13)).toInt ≤ 300 := hMV33 3 13
    have r36 : 0 ≤ ((V33 3 15)).toInt ∧ ((V33 3 15)).toInt ≤ 262144 := hMV33 3 15
    refine lv_aload_n hx hb dX11_book_50 rfl (lv_at hl 2 rfl) ?_
    refine va_get (D := D) (ci := 11) (v := .ref (ad 4)) (fs := (xfHouse ad V33 L9 Z)) (C := RX11) (T := TX11) (N := 10) hx hb hg inX11 hown hK hP 0 xgHouse rfl 4 (by decide) (hg _ w719) (fun _ h9 => h9) rfl dX11_book_51 ?_
    refine gA_void (gA_runV (As := []) (rest := []) (ci := 7) (q0 := 4) hx hb hml hown hg hP hD hK hS hA hnw hgk (x_Nclear l D ks H.size ad kk V33 L9 Z  hMV33 ) w1031 w1032 w1033 w166 w1034 rfl xgNotes hdV_yX7_clear ⟨Nat.le_of_ble_eq_true rfl, Nat.le_of_ble_eq_true rfl⟩ rfl hl.1 rfl (Nat.le_of_ble_eq_true rfl) dX11_book_54 ⟨Nat.le_of_ble_eq_true rfl, Nat.le_of_ble_eq_true rfl⟩) hP hD hK hS hA (fun u38 H locs w39 hP hD hK hS => ?_)
    obtain ⟨V40, L41⟩ := u38
    obtain ⟨hMV40, ajV40, axL41⟩ := w39
    have axL41 : L9 = L41 := Eq.symm axL41
    subst axL41
    have hP : va_P D vwCl (xw ad kk V40 L9 Z) H := hP
    have hD : va_D A (xw ad kk V40 L9 Z) := hD
    have hMV40 : rgd bX V40 := hMV40
    have ajV40 : agr [(4, 5), (4, 6), (4, 7), (4, 8)] [] V33 V40 := ajV40
    have agV40 : agr [(0, 6), (0, 7), (0, 8), (0, 9), (1, 1), (1, 2), (1, 3), (1, 4), (1, 6), (1, 7), (1, 8), (2, 7), (3, 12), (3, 13), (3, 14), (3, 15), (4, 5), (4, 6), (4, 7), (4, 8), (5, 5), (5, 6), (5, 7), (5, 8), (5, 9), (5, 13), (6, 5), (6, 6), (6, 7), (6, 8), (6, 9), (6, 10)] [12, 13, 14, 23, 24, 25, 41, 42, 43, 44, 45, 46, 47, 48, 49, 50, 51, 52, 53, 54, 55, 56, 57, 58, 59, 60, 61, 62, 63, 64, 65, 66] V V40 := agV33.tr ajV40 (by decide) (by decide)
    refine lv_aload_n hx hb dX11_book_57 rfl (lv_at hl 2 rfl) ?_
    refine va_get (D := D) (ci := 11) (v := .ref (ad 2)) (fs := (xfHouse ad V40 L9 Z)) (C := RX11) (T := TX11) (N := 10) hx hb hg inX11 hown hK hP 0 xgHouse rfl 2 (by decide) (hg _ w717) (fun _ h9 => h9) rfl dX11_book_58 ?_
    refine gA_void (gA_runV (As := []) (rest := []) (ci := 2) (q0 := 2) hx hb hml hown hg hP hD hK hS hA hnw hgk (x_kclear l D ks H.size ad kk V40 L9 Z  hMV40 ) w1035 w1036 w1037 w163 w1038 rfl xgChecker hdV_yX2_clear ⟨Nat.le_of_ble_eq_true rfl, Nat.le_of_ble_eq_true rfl⟩ rfl hl.1 rfl (Nat.le_of_ble_eq_true rfl) dX11_book_61 ⟨Nat.le_of_ble_eq_true rfl, Nat.le_of_ble_eq_true rfl⟩) hP hD hK hS hA (fun u43 H locs w44 hP hD hK hS => ?_)
    obtain ⟨V45, L46⟩ := u43
    obtain ⟨hMV45, ajV45, axL46⟩ := w44
    have axL46 : L9 = L46 := Eq.symm axL46
    subst axL46
    have hP : va_P D vwCl (xw ad kk V45 L9 Z) H := hP
    have hD : va_D A (xw ad kk V45 L9 Z) := hD
    have hMV45 : rgd bX V45 := hMV45
    have ajV45 : agr [(2, 7)] [] V40 V45 := ajV45
    have agV45 : agr [(0, 6), (0, 7), (0, 8), (0, 9), (1, 1), (1, 2), (1, 3), (1, 4), (1, 6), (1, 7), (1, 8), (2, 7), (3, 12), (3, 13), (3, 14), (3, 15), (4, 5), (4, 6), (4, 7), (4, 8), (5, 5), (5, 6), (5, 7), (5, 8), (5, 9), (5, 13), (6, 5), (6, 6), (6, 7), (6, 8), (6, 9), (6, 10)] [12, 13, 14, 23, 24, 25, 41, 42, 43, 44, 45, 46, 47, 48, 49, 50, 51, 52, 53, 54, 55, 56, 57, 58, 59, 60, 61, 62, 63, 64, 65, 66] V V45 := agV40.tr ajV45 (by decide) (by decide)
    refine lv_aload_n hx hb dX11_book_64 rfl (lv_at hl 2 rfl) ?_
    refine va_get (D := D) (ci := 11) (v := .ref (ad 5)) (fs := (xfHouse ad V45 L9 Z)) (C := RX11) (T := TX11) (N := 10) hx hb hg inX11 hown hK hP 0 xgHouse rfl 5 (by decide) (hg _ w720) (fun _ h9 => h9) rfl dX11_book_65 ?_
    refine lv_aload_n hx hb dX11_book_68 rfl (lv_at hl 2 rfl) ?_
    refine va_get (D := D) (ci := 11) (v := .ref (ad (38 + Int32.toNatClampNeg (V45 0 6)))) (fs := (xfHouse ad V45 L9 Z)) (C := RX11) (T := TX11) (N := 10) hx hb hg inX11 hown hK hP 0 xgHouse rfl 6 (by decide) (hg _ w721) (fun _ h9 => h9) rfl dX11_book_69 ?_
    have pq47 : (V45 0 6).toInt = ((nI b1)).toInt := congrArg Int32.toInt ((ajV45 0 6 rfl).trans ((ajV40 0 6 rfl).trans ((ajV33 0 6 rfl).trans ((up2_k hV25 (by decide)).trans (up2_s hV22)))))
    refine g_topv (v := .ref (ad (38 + b1))) (rfP (by first | omega | ((try (have i_bp1 := Imp.go bp1 (by omega))); omega))) ?_
    refine gA_void (gA_runV (As := [.ref (ad (38 + b1))]) (rest := []) (ci := 5) (q0 := 5) hx hb hml hown hg hP hD hK hS hA hnw hgk (x_takeBook l D ks H.size ad kk V45 L9 Z (b1) hMV45 (show b1 < 2 from by first | omega | ((try (have i_bp1 := Imp.go bp1 (by omega))); omega))) w1039 w1040 w1041 w171 w1042 rfl xgMachine hdV_yX5_takeBook ⟨Nat.le_of_ble_eq_true rfl, Nat.le_of_ble_eq_true rfl⟩ rfl hl.1 rfl (Nat.le_of_ble_eq_true rfl) dX11_book_72 ⟨Nat.le_of_ble_eq_true rfl, Nat.le_of_ble_eq_true rfl⟩) hP hD hK hS hA (fun u49 H locs w50 hP hD hK hS => ?_)
    obtain ⟨V53, L54⟩ := u49
    obtain ⟨hMV53, ajV53, axL54, t51, t52⟩ := w50
    have axL54 : L9 = L54 := Eq.symm axL54
    subst axL54
    have hP : va_P D vwCl (xw ad kk V53 L9 Z) H := hP
    have hD : va_D A (xw ad kk V53 L9 Z) := hD
    have hMV53 : rgd bX V53 := hMV53
    have ajV53 : agr [(5, 5), (5, 6), (5, 7), (5, 8), (5, 9), (5, 13)] [] V45 V53 := ajV53
    have agV53 : agr [(0, 6), (0, 7), (0, 8), (0, 9), (1, 1), (1, 2), (1, 3), (1, 4), (1, 6), (1, 7), (1, 8), (2, 7), (3, 12), (3, 13), (3, 14), (3, 15), (4, 5), (4, 6), (4, 7), (4, 8), (5, 5), (5, 6), (5, 7), (5, 8), (5, 9), (5, 13), (6, 5), (6, 6), (6, 7), (6, 8), (6, 9), (6, 10)] [12, 13, 14, 23, 24, 25, 41, 42, 43, 44, 45, 46, 47, 48, 49, 50, 51, 52, 53, 54, 55, 56, 57, 58, 59, 60, 61, 62, 63, 64, 65, 66] V V53 := agV45.tr ajV53 (by decide) (by decide)
    have t51 : (V53 5 5).toInt = (b1 : Int) := t51
    have t52 : (V53 5 6).toInt = 0 := t52
    have r55 : 0 ≤ ((V53 5 5)).toInt ∧ ((V53 5 5)).toInt ≤ 1 := hMV53 5 5
    have r56 : 0 ≤ ((V53 5 6)).toInt ∧ ((V53 5 6)).toInt ≤ 400 := hMV53 5 6
    refine lv_aload_n hx hb dX11_book_75 rfl (lv_at hl 2 rfl) ?_
    refine lv_iconst (v := 0) hx hb dX11_book_76 (by decide) ?_
    refine va_put (D := D) (ci := 11) (v := .int 0) (ty := tyX11 8) (fs := (xfHouse ad V53 L9 Z)) (C := RX11) (T := TX11) (N := 10) hx hb hg inX11 tyX11 tyX11_ok nmX11 hown hK hP hD hS 0 xgHouse rfl 8 (by decide) (hg _ w723) (fun _ h9 => h9) rfl (tyX11_ok 8 (by decide)) rfl rfl (Nat.le_of_ble_eq_true rfl) dX11_book_77 (fun H locs hP hD hS => ?_)
    obtain ⟨V57, hV57⟩ : ∃ z, z = up2 V53 0 8 0 := ⟨_, rfl⟩
    have ew58 : (xw ad kk V53 L9 Z).set 0 ((ad 0), .inr (11, (xfHouse ad V53 L9 Z).set 8 (.int 0))) = xw ad kk V57 L9 Z := by rw [hV57]; exact xw_ss (by decide) rfl (xb_si (by decide))
    have hP : va_P D vwCl (xw ad kk V57 L9 Z) H := by rw [← ew58]; exact hP
    have hD : va_D A (xw ad kk V57 L9 Z) := by rw [← ew58]; exact hD
    have hMV57 : rgd bX V57 := hMV53.put hV57 (by decide)
    have agV57 : agr [(0, 6), (0, 7), (0, 8), (0, 9), (1, 1), (1, 2), (1, 3), (1, 4), (1, 6), (1, 7), (1, 8), (2, 7), (3, 12), (3, 13), (3, 14), (3, 15), (4, 5), (4, 6), (4, 7), (4, 8), (5, 5), (5, 6), (5, 7), (5, 8), (5, 9), (5, 13), (6, 5), (6, 6), (6, 7), (6, 8), (6, 9), (6, 10)] [12, 13, 14, 23, 24, 25, 41, 42, 43, 44, 45, 46, 47, 48, 49, 50, 51, 52, 53, 54, 55, 56, 57, 58, 59, 60, 61, 62, 63, 64, 65, 66] V V57 := agV53.up hV57 rfl
    refine lv_aload_n hx hb dX11_book_80 rfl (lv_at hl 2 rfl) ?_
    refine lv_iconst (v := 0) hx hb dX11_book_81 (by decide) ?_
    refine va_put (D := D) (ci := 11) (v := .int 0) (ty := tyX11 9) (fs := (xfHouse ad V57 L9 Z)) (C := RX11) (T := TX11) (N := 10) hx hb hg inX11 tyX11 tyX11_ok nmX11 hown hK hP hD hS 0 xgHouse rfl 9 (by decide) (hg _ w724) (fun _ h9 => h9) rfl (tyX11_ok 9 (by decide)) rfl rfl (Nat.le_of_ble_eq_true rfl) dX11_book_82 (fun H locs hP hD hS => ?_)
    obtain ⟨V59, hV59⟩ : ∃ z, z = up2 V57 0 9 0 := ⟨_, rfl⟩
    have ew60 : (xw ad kk V57 L9 Z).set 0 ((ad 0), .inr (11, (xfHouse ad V57 L9 Z).set 9 (.int 0))) = xw ad kk V59 L9 Z := by rw [hV59]; exact xw_ss (by decide) rfl (xb_si (by decide))
    have hP : va_P D vwCl (xw ad kk V59 L9 Z) H := by rw [← ew60]; exact hP
    have hD : va_D A (xw ad kk V59 L9 Z) := by rw [← ew60]; exact hD
    have hMV59 : rgd bX V59 := hMV57.put hV59 (i_full _)
    have agV59 : agr [(0, 6), (0, 7), (0, 8), (0, 9), (1, 1), (1, 2), (1, 3), (1, 4), (1, 6), (1, 7), (1, 8), (2, 7), (3, 12), (3, 13), (3, 14), (3, 15), (4, 5), (4, 6), (4, 7), (4, 8), (5, 5), (5, 6), (5, 7), (5, 8), (5, 9), (5, 13), (6, 5), (6, 6), (6, 7), (6, 8), (6, 9), (6, 10)] [12, 13, 14, 23, 24, 25, 41, 42, 43, 44, 45, 46, 47, 48, 49, 50, 51, 52, 53, 54, 55, 56, 57, 58, 59, 60, 61, 62, 63, 64, 65, 66] V V59 := agV57.up hV59 rfl
    refine lv_iconst (v := 0) hx hb dX11_book_85 (by decide) ?_
    have r61 : Int32.toInt 0 = 0 := by decide
    exact W.iret (v := 0) hx hb hr (fun t ht hW => ⟨⟨0, (V59, L9), rfl, ⟨hMV59, agV59, alL9, ⟨V8, L9, t6, (hMV8 6 7).1, (by rw [show Int32.toInt 0 = z3.toInt from by omega]; exact t7)⟩⟩, by rw [ht]; exact hP, va_K.moved hW.alike hK, hD⟩, hS.F ht⟩) hS.2.2 dX11_book_86
  · skip
    have f62 : z3.toInt ≠ 0 := b_neq rfl (by decide) c17
    refine lv_iload_n hx hb dX11_book_23 rfl (lv_at hl 0 rfl) ?_
    exact W.iret (v := z3) hx hb hr (fun t ht hW => ⟨⟨z3, (V14, L9), rfl, ⟨hMV14, agV14, alL9, ⟨V8, L9, t6, (hMV8 6 7).1, (by rw [show z3.toInt = z3.toInt from by omega]; exact t7)⟩⟩, by rw [ht]; exact hP, va_K.moved hW.alike hK, hD⟩, hS.F ht⟩) hS.2.2 dX11_book_24
