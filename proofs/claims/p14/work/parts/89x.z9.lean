/-! two contracts of one method -/
theorem Met.bothi {l : Launch} {y : MethodName} {ws : List Cond} {rm : Room} {Pc : Array Value → State → Prop} {S S2 : Type} {p1 : Int32 → S → Prop} {p2 : Int32 → S2 → Prop} {B1 : S → State → Prop} {B2 : S2 → State → Prop} {A : Nat → Prop} {mc ms : Nat} {free : Addr → Prop} (h1 : Met l y ws rm Pc (va_Qi p1 B1 A) mc ms free) (h2 : Met l y ws rm Pc (va_Qi p2 B2 A) mc ms free) : Met l y ws rm Pc (va_Qi (fun r u => p1 r u ∧ ∃ u2, p2 r u2) B1 A) mc ms free := by
  unfold Met MetFree at h1 h2 ⊢
  intro p e ha hf hc s m args below hfr hS hP hK
  obtain ⟨n, o, w, r, en, q, fr⟩ := h1 p e ha hf hc s m args below hfr hS hP hK
  obtain ⟨n', o', w', r', en', q', fr'⟩ := h2 p e ha hf hc s m args below hfr hS hP hK
  have hn : n = n' := by
    rcases Nat.lt_trichotomy n n' with h | h | h
    · exact absurd (w' n h) en.not_within
    · exact h
    · exact absurd (w n' h) en'.not_within
  subst hn
  have ho := en.outcome_unique en'
  subst ho
  obtain ⟨⟨r1, u1, e1, k1, b1⟩, f1⟩ := q
  obtain ⟨⟨r2, u2, e2, k2, b2⟩, f2⟩ := q'
  have er : r1 = r2 := by
    have z := e1.symm.trans e2
    cases z
    rfl
  subst er
  exact ⟨n, o, w, r, en, ⟨⟨r1, u1, e1, ⟨k1, u2, k2⟩, b1⟩, f1⟩, fr⟩
/-! the tokens of the class are the reference's -/
theorem TKR.mx {V W Vm Wm : Vf} {L M Mm : Lf} (c : CTx V L W M) (r : RTE Vm Wm Mm) (hn : (V 6 5).toInt = (Vm 0 2).toInt) (h0 : 0 ≤ (W 6 7).toInt) (hL : ∀ k : Nat, k < 28 → L 11 k = kg 155 k) (q : eqB (V 6 5).toInt.toNat (V 10) (Vm 1)) : ∃ t, TKR W M Wm Mm t := by
  obtain ⟨⟨S, E, k1, k2⟩, c2, c3, c4⟩ := c
  obtain ⟨t, ht, ⟨S', E', m1, m2⟩, r2, r3⟩ := r
  rw [← hn] at m1
  rw [c2] at k1
  have k3 := k1.ex q
  obtain ⟨e1, e2, e3⟩ := k3.uq m1
  refine ⟨t, ht, by omega, fun j hj => ?_, by rw [← e1, c3]; decide, by rw [r2]; decide, by rw [r3, ← e1, c4, hn]⟩
  have hj' : j < (W 6 7).toInt.toNat := by omega
  have a := k2 j hj'
  have b := m2 j hj
  rw [← e3 j hj', ← e2 (j + 1) (by omega)] at b
  exact ⟨by rw [a.1, b.1], KR.mk hL q (k1.2.1 j hj').2.2.2 a.2 b.2⟩
theorem TkM.of {V W Vm Wm : Vf} {L M Mm : Lf} (c : CTx V L W M) (r : RTE Vm Wm Mm) (hn : (V 6 5).toInt = (Vm 0 2).toInt) (h0 : 0 ≤ (W 6 7).toInt) (hL : ∀ k : Nat, k < 28 → L 11 k = kg 155 k) (q : eqB (V 6 5).toInt.toNat (V 10) (Vm 1)) (hk : ∀ k : Nat, k < 28 → Mm 10 k = kg 155 k) : TkM Wm Mm (tkOf W M) (W 6 7).toInt.toNat := by
  obtain ⟨t, t0, t1, t2, t3, t4, t5⟩ := TKR.mx c r hn h0 hL q
  have e : (W 6 7).toInt.toNat = t := by omega
  rw [e]
  exact ⟨t0, fun j hj => ⟨(t2 j hj).2, (t2 j hj).1⟩, t3, t4, t5, hk⟩
theorem BRES.eq {T : Tk} {a b : Int} {P Q : St → Prop} (h : BRES T a P) (k : BRES T b Q) : a = b := by
  unfold BRES at h k
  rcases h with ⟨h0, s, h1, _⟩ | h1
  · rcases k with ⟨k0, s', k1, _⟩ | k1
    · rw [h0, k0]
    · have z := h1.uq k1 trivial trivial
      injection z with z
      cases z
  · rcases k with ⟨k0, s', k1, _⟩ | k1
    · have z := h1.uq k1 trivial trivial
      injection z with z
      cases z
    · have z := h1.uq k1 trivial trivial
      injection z with z
      injection z with z
/-! what the law keeps of tape and words -/
def LQ (V : Vf) (L : Lf) (Vm : Vf) (Lm : Lf) : Prop := eqB (V 6 5).toInt.toNat (V 10) (Vm 1) ∧ allTp (V 6 5).toInt.toNat (V 10) ∧ (∀ k : Nat, k < 28 → L 11 k = kg 155 k) ∧ ∀ k : Nat, k < 28 → Lm 10 k = kg 155 k
section LQs
variable {V V1 Vm Vm1 : Vf} {L L1 Lm Lm1 : Lf}
theorem LQ.mv (h : LQ V L Vm Lm) (e5 : V1 6 5 = V 6 5) (e10 : V1 10 = V 10) (e1 : Vm1 1 = Vm 1) (k11 : L1 11 = L 11) (k10 : Lm1 10 = Lm 10) : LQ V1 L1 Vm1 Lm1 := by
  unfold LQ at h ⊢
  rw [e5, e10, e1, k11, k10]
  exact h
theorem LQ.nil (h : LQ V L Vm Lm) (e5 : (V1 6 5).toInt = 0) (k11 : L1 11 = L 11) (k10 : Lm1 10 = Lm 10) : LQ V1 L1 Vm1 Lm1 := by
  unfold LQ at h ⊢
  rw [e5, k11, k10]
  exact ⟨fun q hq => absurd hq (Nat.not_lt_zero _), fun q hq => absurd hq (Nat.not_lt_zero _), h.2.2⟩
theorem LQ.feed {a b c : Int64} (h : LQ V L Vm Lm) (e5 : (V1 6 5).toInt = ((apk 8 c (apk 8 b (apk 8 a (V 6 5).toInt.toNat)) : Nat) : Int)) (e10 : V1 10 = apF sgc 8 c (apk 8 b (apk 8 a (V 6 5).toInt.toNat)) (apF sgc 8 b (apk 8 a (V 6 5).toInt.toNat) (apF sgc 8 a (V 6 5).toInt.toNat (V 10)))) (e1 : Vm1 1 = apF sgm 8 c (apm 8 b (apm 8 a (V 6 5).toInt.toNat)) (apF sgm 8 b (apm 8 a (V 6 5).toInt.toNat) (apF sgm 8 a (V 6 5).toInt.toNat (Vm 1)))) (k11 : L1 11 = L 11) (k10 : Lm1 10 = Lm 10) : LQ V1 L1 Vm1 Lm1 := by
  unfold LQ at h ⊢
  rw [e5, e10, e1, k11, k10, Int.toNat_natCast, ← apF_cm, ← apF_cm, ← apF_cm, ← apk_apm8, ← apk_apm8]
  exact ⟨eqB.ap 8 c _ _ _ (eqB.ap 8 b _ _ _ (eqB.ap 8 a _ _ _ h.1)), allTp.ap 8 c _ _ (allTp.ap 8 b _ _ (allTp.ap 8 a _ _ h.2.1)), h.2.2⟩
end LQs
theorem BRES.mp {T : Tk} {a : Int} {P Q : St → Prop} (h : BRES T a P) (f : ∀ s, P s → Q s) : BRES T a Q := by
  unfold BRES at h ⊢
  rcases h with ⟨h0, s, h1, p⟩ | h1
  · exact Or.inl ⟨h0, s, h1, f s p⟩
  · exact Or.inr h1
theorem TBc.mv {V W : Vf} {L M : Lf} {b : Nat} {s : St} (h : TBc V L b s) (e43 : W 43 = V 43) (m44 : M 44 = L 44) : TBc W M b s := by
  unfold TBc at h ⊢
  rw [e43, m44]
  exact h


abbrev r_x_h_book3 : Room := { frames := 94, cells := 0, slots := 0, locals := 2751 }
abbrev q_x_h_book3 (D : va_G) (ks : KS) (ad : Nat → Nat) (kk : Nat → ClassId) (V : Vf) (L : Lf) (Z : XZ) (b : Nat) (b1 : Nat) (A : Nat → Prop) : Array Value → State → Outcome → State → Prop := va_Qi (fun (r : Int32) (u : Vf × Lf) => rgd bX u.1 ∧ agr [(0, 6), (0, 7), (0, 8), (0, 9), (1, 1), (1, 2), (1, 3), (1, 4), (1, 6), (1, 7), (1, 8), (2, 7), (3, 12), (3, 13), (3, 14), (3, 15), (4, 5), (4, 6), (4, 7), (4, 8), (5, 5), (5, 6), (5, 7), (5, 8), (5, 9), (5, 13), (6, 5), (6, 6), (6, 7), (6, 8), (6, 9), (6, 10)] [12, 13, 14, 23, 24, 25, 41, 42, 43, 44, 45, 46, 47, 48, 49, 50, 51, 52, 53, 54, 55, 56, 57, 58, 59, 60, 61, 62, 63, 64, 65, 66] V u.1 ∧ agL [1, 6, 14, 44] L u.2 ∧ (∃ (W9 : Vf) (M9 : Lf), CTx V L W9 M9 ∧ 0 ≤ (W9 6 7).toInt ∧ BRES (tkOf W9 M9) r.toInt (fun s9 => TBc u.1 u.2 b1 s9 ∧ CNc u.1 b1 s9 ∧ CEo u.1 b1 s9 ∧ WRc u.1 b1 s9)) ∧ (ROWL b1 L u.2)) (fun u t => gq D A (xw ad kk u.1 u.2 Z) (xty kk Z) t) A
set_option maxHeartbeats 4000000 in
set_option maxRecDepth 100000 in
theorem x_h_book3 (l : Launch) (D : va_G) (ks : KS) (sz : Nat) (ad : Nat → Nat) (kk : Nat → ClassId) (V : Vf) (L : Lf) (Z : XZ) (b : Nat) (b1 : Nat) (hMV : rgd bX V) (hb2 : b < 2) (hb1 : b1 < 2) (hbb : b + b1 = 1) (shk : (V 0 6).toInt = (b : Int)) (spk : (V 0 7).toInt = (b1 : Int)) (bp1 : ∀ k : Nat, (k : Int) < (V 6 5).toInt → isTp (V 10 k))  : Met l yX11_book (Cond.code yX11_book cX11_book 3 (some .int) :: GW) r_x_h_book3 (va_Pc [.ref (ad 0)] (gp D ks (xw ad kk V L Z) (xty kk Z) sz)) (q_x_h_book3 D ks ad kk V L Z  b b1 (va_A (xw ad kk V L Z) sz)) 0 0 (va_A (xw ad kk V L Z) sz) := by
  refine g_met (q_x_h_book3 D ks ad kk V L Z  b b1) (by decide) (Nat.le_of_ble_eq_true rfl) ?_
  intro p e s m below meth c A ls H locs hx hb hr hml hown hg hlocks hin hnw hgk hP hK hD hS hA hl
  replace hown : s.vm.findClass RX11 = some m.cls := hown
  replace hl : lv_has ls 3 [(0, .ref (ad 0))] := hl
  replace hP : va_P D vwCl (xw ad kk V L Z) H := hP
  replace hD : va_D A (xw ad kk V L Z) := hD
  replace hK : va_K D vwCl (xty kk Z) s := hK
  have agV : agr [(0, 6), (0, 7), (0, 8), (0, 9), (1, 1), (1, 2), (1, 3), (1, 4), (1, 6), (1, 7), (1, 8), (2, 7), (3, 12), (3, 13), (3, 14), (3, 15), (4, 5), (4, 6), (4, 7), (4, 8), (5, 5), (5, 6), (5, 7), (5, 8), (5, 9), (5, 13), (6, 5), (6, 6), (6, 7), (6, 8), (6, 9), (6, 10)] [12, 13, 14, 23, 24, 25, 41, 42, 43, 44, 45, 46, 47, 48, 49, 50, 51, 52, 53, 54, 55, 56, 57, 58, 59, 60, 61, 62, 63, 64, 65, 66] V V := agr.rf
  have alL : agL [1, 6, 14, 44] L L := agL.rf
  have r1 : 0 ≤ ((V 0 6)).toInt ∧ ((V 0 6)).toInt ≤ 1 := hMV 0 6
  have r2 : 0 ≤ ((V 0 7)).toInt ∧ ((V 0 7)).toInt ≤ 1 := hMV 0 7
  refine lv_aload_n hx hb dX11_book_0 rfl (lv_at hl 0 rfl) ?_
  refine va_get (D := D) (ci := 11) (v := .ref (ad 1)) (fs := (xfHouse ad V L Z)) (C := RX11) (T := TX11) (N := 10) hx hb hg inX11 hown hK hP 0 xgHouse rfl 1 (by decide) (hg _ w716) (fun _ h9 => h9) rfl dX11_book_1 ?_
  refine lv_aload_n hx hb dX11_book_4 rfl (lv_at hl 0 rfl) ?_
  refine va_get (D := D) (ci := 11) (v := .ref (ad (38 + Int32.toNatClampNeg (V 0 7)))) (fs := (xfHouse ad V L Z)) (C := RX11) (T := TX11) (N := 10) hx hb hg inX11 hown hK hP 0 xgHouse rfl 7 (by decide) (hg _ w722) (fun _ h9 => h9) rfl dX11_book_5 ?_
  refine g_topv (v := .ref (ad (38 + b1))) (rfP (by first | omega | ((try (have i_bp1 := Imp.go bp1 (by omega))); omega))) ?_
  refine gA_int (gA_runV (As := [.ref (ad (38 + b1))]) (rest := []) (ci := 1) (q0 := 1) hx hb hml hown hg hP hD hK hS hA hnw hgk (x_read3 l D ks H.size ad kk V L Z (b1) hMV (show b1 < 2 from by first | exact om_f940a4667dd6 hb1 | first | omega | ((try (have i_bp1 := Imp.go bp1 (by omega))); omega)) bp1) w758 w759 w760 w162 w761 rfl xgReader hdV_yX1_read ⟨Nat.le_of_ble_eq_true rfl, Nat.le_of_ble_eq_true rfl⟩ rfl hl.1 rfl (Nat.le_of_ble_eq_true rfl) dX11_book_8 ⟨Nat.le_of_ble_eq_true rfl, Nat.le_of_ble_eq_true rfl⟩) hP hD hK hS hA (fun z3 u4 H locs w5 hP hD hK hS => ?_)
  obtain ⟨V9, L10⟩ := u4
  obtain ⟨hMV9, ajV9, axL10, t6, t7, t8⟩ := w5
  have alL10 : agL [1, 6, 14, 44] L L10 := agL.tr alL axL10 (by decide)
  replace hP : va_P D vwCl (xw ad kk V9 L10 Z) H := hP
  replace hD : va_D A (xw ad kk V9 L10 Z) := hD
  replace hMV9 : rgd bX V9 := hMV9
  replace ajV9 : agr [(1, 1), (1, 2), (1, 3), (1, 4), (1, 6), (1, 7), (1, 8), (6, 6), (6, 7), (6, 8), (6, 9), (6, 10)] [12, 13, 14, 41, 42, 43, 44, 45, 46, 47, 48, 49, 50, 51, 52, 53, 54, 55, 56, 57, 58, 59, 60, 61, 62, 63, 64, 65, 66] V V9 := ajV9
  have agV9 : agr [(0, 6), (0, 7), (0, 8), (0, 9), (1, 1), (1, 2), (1, 3), (1, 4), (1, 6), (1, 7), (1, 8), (2, 7), (3, 12), (3, 13), (3, 14), (3, 15), (4, 5), (4, 6), (4, 7), (4, 8), (5, 5), (5, 6), (5, 7), (5, 8), (5, 9), (5, 13), (6, 5), (6, 6), (6, 7), (6, 8), (6, 9), (6, 10)] [12, 13, 14, 23, 24, 25, 41, 42, 43, 44, 45, 46, 47, 48, 49, 50, 51, 52, 53, 54, 55, 56, 57, 58, 59, 60, 61, 62, 63, 64, 65, 66] V V9 := agV.tr ajV9 (by decide) (by decide)
  replace t6 : CTx V L V9 L10 := t6
  replace t7 : BRES (tkOf V9 L10) z3.toInt (fun s9 => TBc V9 L10 b1 s9 ∧ CNc V9 b1 s9 ∧ CEo V9 b1 s9 ∧ WRc V9 b1 s9) := t7
  replace t8 : ROWL b1 L L10 := t8
  refine lv_istore_n (lv' := [(1, .int z3), (0, .ref (ad 0))]) hx hb dX11_book_11 rfl hl (by decide) rfl (fun ls hl => ?_)
  refine lv_aload_n hx hb dX11_book_12 rfl (lv_at hl 1 rfl) ?_
  refine va_get (D := D) (ci := 11) (v := .ref (ad 6)) (fs := (xfHouse ad V9 L10 Z)) (C := RX11) (T := TX11) (N := 10) hx hb hg inX11 hown hK hP 0 xgHouse rfl 0 (by decide) (hg _ w715) (fun _ h9 => h9) rfl dX11_book_13 ?_
  refine gA_void (gA_runV (As := []) (rest := []) (ci := 9) (q0 := 6) hx hb hml hown hg hP hD hK hS hA hnw hgk (x_empty l D ks H.size ad kk V9 L10 Z  hMV9 ) w1019 w1020 w1021 w157 w1022 rfl xgTape hdV_yX9_empty ⟨Nat.le_of_ble_eq_true rfl, Nat.le_of_ble_eq_true rfl⟩ rfl hl.1 rfl (Nat.le_of_ble_eq_true rfl) dX11_book_16 ⟨Nat.le_of_ble_eq_true rfl, Nat.le_of_ble_eq_true rfl⟩) hP hD hK hS hA (fun u12 H locs w13 hP hD hK hS => ?_)
  obtain ⟨V15, L16⟩ := u12
  obtain ⟨hMV15, ajV15, axL16, t14⟩ := w13
  have axL16 : L10 = L16 := Eq.symm axL16
  subst axL16
  replace hP : va_P D vwCl (xw ad kk V15 L10 Z) H := hP
  replace hD : va_D A (xw ad kk V15 L10 Z) := hD
  replace hMV15 : rgd bX V15 := hMV15
  replace ajV15 : agr [(6, 5)] [] V9 V15 := ajV15
  have agV15 : agr [(0, 6), (0, 7), (0, 8), (0, 9), (1, 1), (1, 2), (1, 3), (1, 4), (1, 6), (1, 7), (1, 8), (2, 7), (3, 12), (3, 13), (3, 14), (3, 15), (4, 5), (4, 6), (4, 7), (4, 8), (5, 5), (5, 6), (5, 7), (5, 8), (5, 9), (5, 13), (6, 5), (6, 6), (6, 7), (6, 8), (6, 9), (6, 10)] [12, 13, 14, 23, 24, 25, 41, 42, 43, 44, 45, 46, 47, 48, 49, 50, 51, 52, 53, 54, 55, 56, 57, 58, 59, 60, 61, 62, 63, 64, 65, 66] V V15 := agV9.tr ajV15 (by decide) (by decide)
  replace t14 : (V15 6 5).toInt = 0 := t14
  have r17 : 0 ≤ ((V15 6 5)).toInt ∧ ((V15 6 5)).toInt ≤ 4000 := hMV15 6 5
  refine lv_iload_n hx hb dX11_book_19 rfl (lv_at hl 0 rfl) ?_
  refine lv_if_eq (tgt := 25) hx hb dX11_book_20 (by decide) (fun c18 => ?_) (fun c18 => ?_)
  · skip
    have f19 : z3.toInt = 0 := b_eq rfl (by decide) c18
    refine lv_aload_n hx hb dX11_book_25 rfl (lv_at hl 1 rfl) ?_
    refine va_get (D := D) (ci := 11) (v := .ref (ad (38 + Int32.toNatClampNeg (V15 0 6)))) (fs := (xfHouse ad V15 L10 Z)) (C := RX11) (T := TX11) (N := 10) hx hb hg inX11 hown hK hP 0 xgHouse rfl 6 (by decide) (hg _ w721) (fun _ h9 => h9) rfl dX11_book_26 ?_
    have pq20 : (V15 0 6).toInt = ((V 0 6)).toInt := congrArg Int32.toInt ((ajV15 0 6 rfl).trans (ajV9 0 6 rfl))
    refine g_topv (v := .ref (ad (38 + b))) (rfP (by first | omega | ((try (have i_bp1 := Imp.go bp1 (by omega))); omega))) ?_
    refine lv_astore_n (lv' := [(2, .ref (ad (38 + b))), (1, .int z3), (0, .ref (ad 0))]) hx hb dX11_book_29 rfl hl (by decide) rfl (fun ls hl => ?_)
    refine lv_aload_n hx hb dX11_book_30 rfl (lv_at hl 2 rfl) ?_
    refine lv_aload_n hx hb dX11_book_31 rfl (lv_at hl 2 rfl) ?_
    refine va_get (D := D) (ci := 11) (v := .ref (ad (38 + Int32.toNatClampNeg (V15 0 7)))) (fs := (xfHouse ad V15 L10 Z)) (C := RX11) (T := TX11) (N := 10) hx hb hg inX11 hown hK hP 0 xgHouse rfl 7 (by decide) (hg _ w722) (fun _ h9 => h9) rfl dX11_book_32 ?_
    have pq21 : (V15 0 7).toInt = ((V 0 7)).toInt := congrArg Int32.toInt ((ajV15 0 7 rfl).trans (ajV9 0 7 rfl))
    refine g_topv (v := .ref (ad (38 + b1))) (rfP (by first | omega | ((try (have i_bp1 := Imp.go bp1 (by omega))); omega))) ?_
    refine va_put (D := D) (ci := 11) (v := .ref (ad (38 + b1))) (ty := tyX11 6) (fs := (xfHouse ad V15 L10 Z)) (C := RX11) (T := TX11) (N := 10) hx hb hg inX11 tyX11 tyX11_ok nmX11 hown hK hP hD hS 0 xgHouse rfl 6 (by decide) (hg _ w721) (fun _ h9 => h9) rfl (tyX11_ok 6 (by decide)) rfl rfl (Nat.le_of_ble_eq_true rfl) dX11_book_35 (fun H locs hP hD hS => ?_)
    have r22 : (nI b1).toInt = ((b1 : Nat) : Int) := nI_toInt (by omega)
    obtain ⟨V23, hV23⟩ : ∃ z, z = up2 V15 0 6 (nI b1) := ⟨_, rfl⟩
    have ew24 : (xw ad kk V15 L10 Z).set 0 ((ad 0), .inr (11, (xfHouse ad V15 L10 Z).set 6 (.ref (ad (38 + b1))))) = xw ad kk V23 L10 Z := by rw [hV23]; exact xr_shelf hb1
    have hP : va_P D vwCl (xw ad kk V23 L10 Z) H := by rw [← ew24]; exact hP
    have hD : va_D A (xw ad kk V23 L10 Z) := by rw [← ew24]; exact hD
    have hMV23 : rgd bX V23 := hMV15.put hV23 (show 0 ≤ ((nI b1)).toInt ∧ ((nI b1)).toInt ≤ 1 from by first | exact om_d98fff7a4861 hb1 r22 | first | omega | ((try (have i_bp1 := Imp.go bp1 (by omega))); omega))
    have agV23 : agr [(0, 6), (0, 7), (0, 8), (0, 9), (1, 1), (1, 2), (1, 3), (1, 4), (1, 6), (1, 7), (1, 8), (2, 7), (3, 12), (3, 13), (3, 14), (3, 15), (4, 5), (4, 6), (4, 7), (4, 8), (5, 5), (5, 6), (5, 7), (5, 8), (5, 9), (5, 13), (6, 5), (6, 6), (6, 7), (6, 8), (6, 9), (6, 10)] [12, 13, 14, 23, 24, 25, 41, 42, 43, 44, 45, 46, 47, 48, 49, 50, 51, 52, 53, 54, 55, 56, 57, 58, 59, 60, 61, 62, 63, 64, 65, 66] V V23 := agV15.up hV23 rfl
    refine lv_aload_n hx hb dX11_book_38 rfl (lv_at hl 2 rfl) ?_
    refine lv_aload_n hx hb dX11_book_39 rfl (lv_at hl 0 rfl) ?_
    refine va_put (D := D) (ci := 11) (v := .ref (ad (38 + b))) (ty := tyX11 7) (fs := (xfHouse ad V23 L10 Z)) (C := RX11) (T := TX11) (N := 10) hx hb hg inX11 tyX11 tyX11_ok nmX11 hown hK hP hD hS 0 xgHouse rfl 7 (by decide) (hg _ w722) (fun _ h9 => h9) rfl (tyX11_ok 7 (by decide)) rfl rfl (Nat.le_of_ble_eq_true rfl) dX11_book_40 (fun H locs hP hD hS => ?_)
    have r25 : (nI b).toInt = ((b : Nat) : Int) := nI_toInt (by omega)
    obtain ⟨V26, hV26⟩ : ∃ z, z = up2 V23 0 7 (nI b) := ⟨_, rfl⟩
    have ew27 : (xw ad kk V23 L10 Z).set 0 ((ad 0), .inr (11, (xfHouse ad V23 L10 Z).set 7 (.ref (ad (38 + b))))) = xw ad kk V26 L10 Z := by rw [hV26]; exact xr_spare hb2
    have hP : va_P D vwCl (xw ad kk V26 L10 Z) H := by rw [← ew27]; exact hP
    have hD : va_D A (xw ad kk V26 L10 Z) := by rw [← ew27]; exact hD
    have hMV26 : rgd bX V26 := hMV23.put hV26 (show 0 ≤ ((nI b)).toInt ∧ ((nI b)).toInt ≤ 1 from by first | exact om_cf08f328c789 hb1 hbb r25 | first | omega | ((try (have i_bp1 := Imp.go bp1 (by omega))); omega))
    have agV26 : agr [(0, 6), (0, 7), (0, 8), (0, 9), (1, 1), (1, 2), (1, 3), (1, 4), (1, 6), (1, 7), (1, 8), (2, 7), (3, 12), (3, 13), (3, 14), (3, 15), (4, 5), (4, 6), (4, 7), (4, 8), (5, 5), (5, 6), (5, 7), (5, 8), (5, 9), (5, 13), (6, 5), (6, 6), (6, 7), (6, 8), (6, 9), (6, 10)] [12, 13, 14, 23, 24, 25, 41, 42, 43, 44, 45, 46, 47, 48, 49, 50, 51, 52, 53, 54, 55, 56, 57, 58, 59, 60, 61, 62, 63, 64, 65, 66] V V26 := agV23.up hV26 rfl
    refine lv_aload_n hx hb dX11_book_43 rfl (lv_at hl 2 rfl) ?_
    refine va_get (D := D) (ci := 11) (v := .ref (ad 3)) (fs := (xfHouse ad V26 L10 Z)) (C := RX11) (T := TX11) (N := 10) hx hb hg inX11 hown hK hP 0 xgHouse rfl 3 (by decide) (hg _ w718) (fun _ h9 => h9) rfl dX11_book_44 ?_
    refine gA_void (gA_runV (As := []) (rest := []) (ci := 8) (q0 := 3) hx hb hml hown hg hP hD hK hS hA hnw hgk (x_sclear2 l D ks H.size ad kk V26 L10 Z  hMV26 ) w1023 w1024 w1025 w164 w1026 rfl xgStock hdV_yX8_clear ⟨Nat.le_of_ble_eq_true rfl, Nat.le_of_ble_eq_true rfl⟩ rfl hl.1 rfl (Nat.le_of_ble_eq_true rfl) dX11_book_47 ⟨Nat.le_of_ble_eq_true rfl, Nat.le_of_ble_eq_true rfl⟩) hP hD hK hS hA (fun u29 H locs w30 hP hD hK hS => ?_)
    obtain ⟨V34, L35⟩ := u29
    obtain ⟨hMV34, ajV34, axL35, t31, t32, t33⟩ := w30
    have axL35 : L10 = L35 := Eq.symm axL35
    subst axL35
    replace hP : va_P D vwCl (xw ad kk V34 L10 Z) H := hP
    replace hD : va_D A (xw ad kk V34 L10 Z) := hD
    replace hMV34 : rgd bX V34 := hMV34
    replace ajV34 : agr [(3, 12), (3, 13), (3, 14), (3, 15)] [23, 24, 25] V26 V34 := ajV34
    have agV34 : agr [(0, 6), (0, 7), (0, 8), (0, 9), (1, 1), (1, 2), (1, 3), (1, 4), (1, 6), (1, 7), (1, 8), (2, 7), (3, 12), (3, 13), (3, 14), (3, 15), (4, 5), (4, 6), (4, 7), (4, 8), (5, 5), (5, 6), (5, 7), (5, 8), (5, 9), (5, 13), (6, 5), (6, 6), (6, 7), (6, 8), (6, 9), (6, 10)] [12, 13, 14, 23, 24, 25, 41, 42, 43, 44, 45, 46, 47, 48, 49, 50, 51, 52, 53, 54, 55, 56, 57, 58, 59, 60, 61, 62, 63, 64, 65, 66] V V34 := agV26.tr ajV34 (by decide) (by decide)
    replace t31 : (V34 3 13).toInt = 0 := t31
    replace t32 : (V34 3 15).toInt = 0 := t32
    replace t33 : ∀ q : Nat, q < 960 → (V34 25 q).toInt = -1 := t33
    have r36 : 0 ≤ ((V34 3 13)).toInt ∧ ((V34 3 13)).toInt ≤ 300 := hMV34 3 13
    have r37 : 0 ≤ ((V34 3 15)).toInt ∧ ((V34 3 15)).toInt ≤ 262144 := hMV34 3 15
    refine lv_aload_n hx hb dX11_book_50 rfl (lv_at hl 2 rfl) ?_
    refine va_get (D := D) (ci := 11) (v := .ref (ad 4)) (fs := (xfHouse ad V34 L10 Z)) (C := RX11) (T := TX11) (N := 10) hx hb hg inX11 hown hK hP 0 xgHouse rfl 4 (by decide) (hg _ w719) (fun _ h9 => h9) rfl dX11_book_51 ?_
    refine gA_void (gA_runV (As := []) (rest := []) (ci := 7) (q0 := 4) hx hb hml hown hg hP hD hK hS hA hnw hgk (x_Nclear l D ks H.size ad kk V34 L10 Z  hMV34 ) w1031 w1032 w1033 w166 w1034 rfl xgNotes hdV_yX7_clear ⟨Nat.le_of_ble_eq_true rfl, Nat.le_of_ble_eq_true rfl⟩ rfl hl.1 rfl (Nat.le_of_ble_eq_true rfl) dX11_book_54 ⟨Nat.le_of_ble_eq_true rfl, Nat.le_of_ble_eq_true rfl⟩) hP hD hK hS hA (fun u39 H locs w40 hP hD hK hS => ?_)
    obtain ⟨V41, L42⟩ := u39
    obtain ⟨hMV41, ajV41, axL42⟩ := w40
    have axL42 : L10 = L42 := Eq.symm axL42
    subst axL42
    replace hP : va_P D vwCl (xw ad kk V41 L10 Z) H := hP
    replace hD : va_D A (xw ad kk V41 L10 Z) := hD
    replace hMV41 : rgd bX V41 := hMV41
    replace ajV41 : agr [(4, 5), (4, 6), (4, 7), (4, 8)] [] V34 V41 := ajV41
    have agV41 : agr [(0, 6), (0, 7), (0, 8), (0, 9), (1, 1), (1, 2), (1, 3), (1, 4), (1, 6), (1, 7), (1, 8), (2, 7), (3, 12), (3, 13), (3, 14), (3, 15), (4, 5), (4, 6), (4, 7), (4, 8), (5, 5), (5, 6), (5, 7), (5, 8), (5, 9), (5, 13), (6, 5), (6, 6), (6, 7), (6, 8), (6, 9), (6, 10)] [12, 13, 14, 23, 24, 25, 41, 42, 43, 44, 45, 46, 47, 48, 49, 50, 51, 52, 53, 54, 55, 56, 57, 58, 59, 60, 61, 62, 63, 64, 65, 66] V V41 := agV34.tr ajV41 (by decide) (by decide)
    refine lv_aload_n hx hb dX11_book_57 rfl (lv_at hl 2 rfl) ?_
    refine va_get (D := D) (ci := 11) (v := .ref (ad 2)) (fs := (xfHouse ad V41 L10 Z)) (C := RX11) (T := TX11) (N := 10) hx hb hg inX11 hown hK hP 0 xgHouse rfl 2 (by decide) (hg _ w717) (fun _ h9 => h9) rfl dX11_book_58 ?_
    refine gA_void (gA_runV (As := []) (rest := []) (ci := 2) (q0 := 2) hx hb hml hown hg hP hD hK hS hA hnw hgk (x_kclear l D ks H.size ad kk V41 L10 Z  hMV41 ) w1035 w1036 w1037 w163 w1038 rfl xgChecker hdV_yX2_clear ⟨Nat.le_of_ble_eq_true rfl, Nat.le_of_ble_eq_true rfl⟩ rfl hl.1 rfl (Nat.le_of_ble_eq_true rfl) dX11_book_61 ⟨Nat.le_of_ble_eq_true rfl, Nat.le_of_ble_eq_true rfl⟩) hP hD hK hS hA (fun u44 H locs w45 hP hD hK hS => ?_)
    obtain ⟨V46, L47⟩ := u44
    obtain ⟨hMV46, ajV46, axL47⟩ := w45
    have axL47 : L10 = L47 := Eq.symm axL47
    subst axL47
    replace hP : va_P D vwCl (xw ad kk V46 L10 Z) H := hP
    replace hD : va_D A (xw ad kk V46 L10 Z) := hD
    replace hMV46 : rgd bX V46 := hMV46
    replace ajV46 : agr [(2, 7)] [] V41 V46 := ajV46
    have agV46 : agr [(0, 6), (0, 7), (0, 8), (0, 9), (1, 1), (1, 2), (1, 3), (1, 4), (1, 6), (1, 7), (1, 8), (2, 7), (3, 12), (3, 13), (3, 14), (3, 15), (4, 5), (4, 6), (4, 7), (4, 8), (5, 5), (5, 6), (5, 7), (5, 8), (5, 9), (5, 13), (6, 5), (6, 6), (6, 7), (6, 8), (6, 9), (6, 10)] [12, 13, 14, 23, 24, 25, 41, 42, 43, 44, 45, 46, 47, 48, 49, 50, 51, 52, 53, 54, 55, 56, 57, 58, 59, 60, 61, 62, 63, 64, 65, 66] V V46 := agV41.tr ajV46 (by decide) (by decide)
    refine lv_aload_n hx hb dX11_book_64 rfl (lv_at hl 2 rfl) ?_
    refine va_get (D := D) (ci := 11) (v := .ref (ad 5)) (fs := (xfHouse ad V46 L10 Z)) (C := RX11) (T := TX11) (N := 10) hx hb hg inX11 hown hK hP 0 xgHouse rfl 5 (by decide) (hg _ w720) (fun _ h9 => h9) rfl dX11_book_65 ?_
    refine lv_aload_n hx hb dX11_book_68 rfl (lv_at hl 2 rfl) ?_
    refine va_get (D := D) (ci := 11) (v := .ref (ad (38 + Int32.toNatClampNeg (V46 0 6)))) (fs := (xfHouse ad V46 L10 Z)) (C := RX11) (T := TX11) (N := 10) hx hb hg inX11 hown hK hP 0 xgHouse rfl 6 (by decide) (hg _ w721) (fun _ h9 => h9) rfl dX11_book_69 ?_
    have pq48 : (V46 0 6).toInt = ((nI b1)).toInt := congrArg Int32.toInt ((ajV46 0 6 rfl).trans ((ajV41 0 6 rfl).trans ((ajV34 0 6 rfl).trans ((up2_k hV26 (by decide)).trans (up2_s hV23)))))
    refine g_topv (v := .ref (ad (38 + b1))) (rfP (by first | omega | ((try (have i_bp1 := Imp.go bp1 (by omega))); omega))) ?_
    refine gA_void (gA_runV (As := [.ref (ad (38 + b1))]) (rest := []) (ci := 5) (q0 := 5) hx hb hml hown hg hP hD hK hS hA hnw hgk (x_takeBook l D ks H.size ad kk V46 L10 Z (b1) hMV46 (show b1 < 2 from by first | exact om_f940a4667dd6 hb1 | first | omega | ((try (have i_bp1 := Imp.go bp1 (by omega))); omega))) w1039 w1040 w1041 w171 w1042 rfl xgMachine hdV_yX5_takeBook ⟨Nat.le_of_ble_eq_true rfl, Nat.le_of_ble_eq_true rfl⟩ rfl hl.1 rfl (Nat.le_of_ble_eq_true rfl) dX11_book_72 ⟨Nat.le_of_ble_eq_true rfl, Nat.le_of_ble_eq_true rfl⟩) hP hD hK hS hA (fun u50 H locs w51 hP hD hK hS => ?_)
    obtain ⟨V54, L55⟩ := u50
    obtain ⟨hMV54, ajV54, axL55, t52, t53⟩ := w51
    have axL55 : L10 = L55 := Eq.symm axL55
    subst axL55
    replace hP : va_P D vwCl (xw ad kk V54 L10 Z) H := hP
    replace hD : va_D A (xw ad kk V54 L10 Z) := hD
    replace hMV54 : rgd bX V54 := hMV54
    replace ajV54 : agr [(5, 5), (5, 6), (5, 7), (5, 8), (5, 9), (5, 13)] [] V46 V54 := ajV54
    have agV54 : agr [(0, 6), (0, 7), (0, 8), (0, 9), (1, 1), (1, 2), (1, 3), (1, 4), (1, 6), (1, 7), (1, 8), (2, 7), (3, 12), (3, 13), (3, 14), (3, 15), (4, 5), (4, 6), (4, 7), (4, 8), (5, 5), (5, 6), (5, 7), (5, 8), (5, 9), (5, 13), (6, 5), (6, 6), (6, 7), (6, 8), (6, 9), (6, 10)] [12, 13, 14, 23, 24, 25, 41, 42, 43, 44, 45, 46, 47, 48, 49, 50, 51, 52, 53, 54, 55, 56, 57, 58, 59, 60, 61, 62, 63, 64, 65, 66] V V54 := agV46.tr ajV54 (by decide) (by decide)
    replace t52 : (V54 5 5).toInt = (b1 : Int) := t52
    replace t53 : (V54 5 6).toInt = 0 := t53
    have r56 : 0 ≤ ((V54 5 5)).toInt ∧ ((V54 5 5)).toInt ≤ 1 := hMV54 5 5
    have r57 : 0 ≤ ((V54 5 6)).toInt ∧ ((V54 5 6)).toInt ≤ 400 := hMV54 5 6
    refine lv_aload_n hx hb dX11_book_75 rfl (lv_at hl 2 rfl) ?_
    refine lv_iconst (v := 0) hx hb dX11_book_76 (by decide) ?_
    refine va_put (D := D) (ci := 11) (v := .int 0) (ty := tyX11 8) (fs := (xfHouse ad V54 L10 Z)) (C := RX11) (T := TX11) (N := 10) hx hb hg inX11 tyX11 tyX11_ok nmX11 hown hK hP hD hS 0 xgHouse rfl 8 (by decide) (hg _ w723) (fun _ h9 => h9) rfl (tyX11_ok 8 (by decide)) rfl rfl (Nat.le_of_ble_eq_true rfl) dX11_book_77 (fun H locs hP hD hS => ?_)
    obtain ⟨V58, hV58⟩ : ∃ z, z = up2 V54 0 8 0 := ⟨_, rfl⟩
    have ew59 : (xw ad kk V54 L10 Z).set 0 ((ad 0), .inr (11, (xfHouse ad V54 L10 Z).set 8 (.int 0))) = xw ad kk V58 L10 Z := by rw [hV58]; exact xw_ss (by decide) rfl (xb_si (by decide))
    have hP : va_P D vwCl (xw ad kk V58 L10 Z) H := by rw [← ew59]; exact hP
    have hD : va_D A (xw ad kk V58 L10 Z) := by rw [← ew59]; exact hD
    have hMV58 : rgd bX V58 := hMV54.put hV58 (by decide)
    have agV58 : agr [(0, 6), (0, 7), (0, 8), (0, 9), (1, 1), (1, 2), (1, 3), (1, 4), (1, 6), (1, 7), (1, 8), (2, 7), (3, 12), (3, 13), (3, 14), (3, 15), (4, 5), (4, 6), (4, 7), (4, 8), (5, 5), (5, 6), (5, 7), (5, 8), (5, 9), (5, 13), (6, 5), (6, 6), (6, 7), (6, 8), (6, 9), (6, 10)] [12, 13, 14, 23, 24, 25, 41, 42, 43, 44, 45, 46, 47, 48, 49, 50, 51, 52, 53, 54, 55, 56, 57, 58, 59, 60, 61, 62, 63, 64, 65, 66] V V58 := agV54.up hV58 rfl
    refine lv_aload_n hx hb dX11_book_80 rfl (lv_at hl 2 rfl) ?_
    refine lv_iconst (v := 0) hx hb dX11_book_81 (by decide) ?_
    refine va_put (D := D) (ci := 11) (v := .int 0) (ty := tyX11 9) (fs := (xfHouse ad V58 L10 Z)) (C := RX11) (T := TX11) (N := 10) hx hb hg inX11 tyX11 tyX11_ok nmX11 hown hK hP hD hS 0 xgHouse rfl 9 (by decide) (hg _ w724) (fun _ h9 => h9) rfl (tyX11_ok 9 (by decide)) rfl rfl (Nat.le_of_ble_eq_true rfl) dX11_book_82 (fun H locs hP hD hS => ?_)
    obtain ⟨V60, hV60⟩ : ∃ z, z = up2 V58 0 9 0 := ⟨_, rfl⟩
    have ew61 : (xw ad kk V58 L10 Z).set 0 ((ad 0), .inr (11, (xfHouse ad V58 L10 Z).set 9 (.int 0))) = xw ad kk V60 L10 Z := by rw [hV60]; exact xw_ss (by decide) rfl (xb_si (by decide))
    have hP : va_P D vwCl (xw ad kk V60 L10 Z) H := by rw [← ew61]; exact hP
    have hD : va_D A (xw ad kk V60 L10 Z) := by rw [← ew61]; exact hD
    have hMV60 : rgd bX V60 := hMV58.put hV60 (i_full _)
    have agV60 : agr [(0, 6), (0, 7), (0, 8), (0, 9), (1, 1), (1, 2), (1, 3), (1, 4), (1, 6), (1, 7), (1, 8), (2, 7), (3, 12), (3, 13), (3, 14), (3, 15), (4, 5), (4, 6), (4, 7), (4, 8), (5, 5), (5, 6), (5, 7), (5, 8), (5, 9), (5, 13), (6, 5), (6, 6), (6, 7), (6, 8), (6, 9), (6, 10)] [12, 13, 14, 23, 24, 25, 41, 42, 43, 44, 45, 46, 47, 48, 49, 50, 51, 52, 53, 54, 55, 56, 57, 58, 59, 60, 61, 62, 63, 64, 65, 66] V V60 := agV58.up hV60 rfl
    refine lv_iconst (v := 0) hx hb dX11_book_85 (by decide) ?_
    have r62 : Int32.toInt 0 = 0 := by decide
    exact W.iret (v := 0) hx hb hr (fun t ht hW => ⟨⟨0, (V60, L10), rfl, ⟨hMV60, agV60, alL10, ⟨V9, L10, t6, (hMV9 6 7).1, (by rw [show Int32.toInt 0 = z3.toInt from by omega]; exact BRES.mp t7 (fun s9 h9 => ⟨TBc.mv h9.1 (by rw [(up2_fo hV60 (by decide) : V60 43 = V58 43), (up2_fo hV58 (by decide) : V58 43 = V54 43), (funext (fun q => ajV54 43 q rfl) : V54 43 = V46 43), (funext (fun q => ajV46 43 q rfl) : V46 43 = V41 43), (funext (fun q => ajV41 43 q rfl) : V41 43 = V34 43), (funext (fun q => ajV34 43 q rfl) : V34 43 = V26 43), (up2_fo hV26 (by decide) : V26 43 = V23 43), (up2_fo hV23 (by decide) : V23 43 = V15 43), (funext (fun q => ajV15 43 q rfl) : V15 43 = V9 43)] : V60 43 = V9 43) rfl, CNc.ag h9.2.1 (show agr [(0, 6), (0, 7), (0, 8), (0, 9), (2, 7), (3, 12), (3, 13), (3, 14), (3, 15), (4, 5), (4, 6), (4, 7), (4, 8), (5, 5), (5, 6), (5, 7), (5, 8), (5, 9), (5, 13), (6, 5)] [23, 24, 25] V9 V60 from (agr.up (agr.up (agr.tr (agr.tr (agr.tr (agr.tr (agr.up (agr.up (agr.tr agr.rf ajV15 (by decide) (by decide)) hV23 rfl) hV26 rfl) ajV34 (by decide) (by decide)) ajV41 (by decide) (by decide)) ajV46 (by decide) (by decide)) ajV54 (by decide) (by decide)) hV58 rfl) hV60 rfl)) (by decide) keepC.rf, ⟨CDc.ag h9.2.2.1.1 (show agr [(0, 6), (0, 7), (0, 8), (0, 9), (2, 7), (3, 12), (3, 13), (3, 14), (3, 15), (4, 5), (4, 6), (4, 7), (4, 8), (5, 5), (5, 6), (5, 7), (5, 8), (5, 9), (5, 13), (6, 5)] [23, 24, 25] V9 V60 from (agr.up (agr.up (agr.tr (agr.tr (agr.tr (agr.tr (agr.up (agr.up (agr.tr agr.rf ajV15 (by decide) (by decide)) hV23 rfl) hV26 rfl) ajV34 (by decide) (by decide)) ajV41 (by decide) (by decide)) ajV46 (by decide) (by decide)) ajV54 (by decide) (by decide)) hV58 rfl) hV60 rfl)) (fun _ => rfl) (fun _ => rfl), REc.ag h9.2.2.1.2.1 (show agr [(0, 6), (0, 7), (0, 8), (0, 9), (2, 7), (3, 12), (3, 13), (3, 14), (3, 15), (4, 5), (4, 6), (4, 7), (4, 8), (5, 5), (5, 6), (5, 7), (5, 8), (5, 9), (5, 13), (6, 5)] [23, 24, 25] V9 V60 from (agr.up (agr.up (agr.tr (agr.tr (agr.tr (agr.tr (agr.up (agr.up (agr.tr agr.rf ajV15 (by decide) (by decide)) hV23 rfl) hV26 rfl) ajV34 (by decide) (by decide)) ajV41 (by decide) (by decide)) ajV46 (by decide) (by decide)) ajV54 (by decide) (by decide)) hV58 rfl) hV60 rfl)) (fun _ => rfl) (fun _ => rfl) (fun _ => rfl) keepE.rf rfl, WWc.ag h9.2.2.1.2.2.1 (show agr [(0, 6), (0, 7), (0, 8), (0, 9), (2, 7), (3, 12), (3, 13), (3, 14), (3, 15), (4, 5), (4, 6), (4, 7), (4, 8), (5, 5), (5, 6), (5, 7), (5, 8), (5, 9), (5, 13), (6, 5)] [23, 24, 25] V9 V60 from (agr.up (agr.up (agr.tr (agr.tr (agr.tr (agr.tr (agr.up (agr.up (agr.tr agr.rf ajV15 (by decide) (by decide)) hV23 rfl) hV26 rfl) ajV34 (by decide) (by decide)) ajV41 (by decide) (by decide)) ajV46 (by decide) (by decide)) ajV54 (by decide) (by decide)) hV58 rfl) hV60 rfl)) (fun _ => ⟨rfl, rfl, rfl, rfl, rfl⟩) keepE.rf rfl, h9.2.2.1.2.2.2⟩, WRc.ag h9.2.2.2 (by rw [(up2_fo hV60 (by decide) : V60 41 = V58 41), (up2_fo hV58 (by decide) : V58 41 = V54 41), (funext (fun q => ajV54 41 q rfl) : V54 41 = V46 41), (funext (fun q => ajV46 41 q rfl) : V46 41 = V41 41), (funext (fun q => ajV41 41 q rfl) : V41 41 = V34 41), (funext (fun q => ajV34 41 q rfl) : V34 41 = V26 41), (up2_fo hV26 (by decide) : V26 41 = V23 41), (up2_fo hV23 (by decide) : V23 41 = V15 41), (funext (fun q => ajV15 41 q rfl) : V15 41 = V9 41)] : V60 41 = V9 41) (by rw [(up2_fo hV60 (by decide) : V60 63 = V58 63), (up2_fo hV58 (by decide) : V58 63 = V54 63), (funext (fun q => ajV54 63 q rfl) : V54 63 = V46 63), (funext (fun q => ajV46 63 q rfl) : V46 63 = V41 63), (funext (fun q => ajV41 63 q rfl) : V41 63 = V34 63), (funext (fun q => ajV34 63 q rfl) : V34 63 = V26 63), (up2_fo hV26 (by decide) : V26 63 = V23 63), (up2_fo hV23 (by decide) : V23 63 = V15 63), (funext (fun q => ajV15 63 q rfl) : V15 63 = V9 63)] : V60 63 = V9 63) (by rw [(up2_fo hV60 (by decide) : V60 65 = V58 65), (up2_fo hV58 (by decide) : V58 65 = V54 65), (funext (fun q => ajV54 65 q rfl) : V54 65 = V46 65), (funext (fun q => ajV46 65 q rfl) : V46 65 = V41 65), (funext (fun q => ajV41 65 q rfl) : V41 65 = V34 65), (funext (fun q => ajV34 65 q rfl) : V34 65 = V26 65), (up2_fo hV26 (by decide) : V26 65 = V23 65), (up2_fo hV23 (by decide) : V23 65 = V15 65), (funext (fun q => ajV15 65 q rfl) : V15 65 = V9 65)] : V60 65 = V9 65) rfl⟩))⟩, t8⟩, by rw [ht]; exact hP, va_K.moved hW.alike hK, hD⟩, hS.F ht⟩) hS.2.2 dX11_book_86
  · skip
    have f63 : z3.toInt ≠ 0 := b_neq rfl (by decide) c18
    refine lv_iload_n hx hb dX11_book_23 rfl (lv_at hl 0 rfl) ?_
    exact W.iret (v := z3) hx hb hr (fun t ht hW => ⟨⟨z3, (V15, L10), rfl, ⟨hMV15, agV15, alL10, ⟨V9, L10, t6, (hMV9 6 7).1, (by rw [show z3.toInt = z3.toInt from by omega]; exact BRES.mp t7 (fun s9 h9 => ⟨TBc.mv h9.1 (by rw [(funext (fun q => ajV15 43 q rfl) : V15 43 = V9 43)] : V15 43 = V9 43) rfl, CNc.ag h9.2.1 (show agr [(6, 5)] [] V9 V15 from (agr.tr agr.rf ajV15 (by decide) (by decide))) (by decide) keepC.rf, ⟨CDc.ag h9.2.2.1.1 (show agr [(6, 5)] [] V9 V15 from (agr.tr agr.rf ajV15 (by decide) (by decide))) (fun _ => rfl) (fun _ => rfl), REc.ag h9.2.2.1.2.1 (show agr [(6, 5)] [] V9 V15 from (agr.tr agr.rf ajV15 (by decide) (by decide))) (fun _ => rfl) (fun _ => rfl) (fun _ => rfl) keepE.rf rfl, WWc.ag h9.2.2.1.2.2.1 (show agr [(6, 5)] [] V9 V15 from (agr.tr agr.rf ajV15 (by decide) (by decide))) (fun _ => ⟨rfl, rfl, rfl, rfl, rfl⟩) keepE.rf rfl, h9.2.2.1.2.2.2⟩, WRc.ag h9.2.2.2 (by rw [(funext (fun q => ajV15 41 q rfl) : V15 41 = V9 41)] : V15 41 = V9 41) (by rw [(funext (fun q => ajV15 63 q rfl) : V15 63 = V9 63)] : V15 63 = V9 63) (by rw [(funext (fun q => ajV15 65 q rfl) : V15 65 = V9 65)] : V15 65 = V9 65) rfl⟩))⟩, t8⟩, by rw [ht]; exact hP, va_K.moved hW.alike hK, hD⟩, hS.F ht⟩) hS.2.2 dX11_book_24
abbrev r_x_h_book4 : Room := { frames := 94, cells := 0, slots := 0, locals := 2751 }
abbrev q_x_h_book4 (D : va_G) (ks : KS) (ad : Nat → Nat) (kk : Nat → ClassId) (V : Vf) (L : Lf) (Z : XZ) (b : Nat) (b1 : Nat) (A : Nat → Prop) : Array Value → State → Outcome → State → Prop := va_Qi (fun (r : Int32) (u : Vf × Lf) => rgd bX u.1 ∧ agr [(0, 6), (0, 7), (0, 8), (0, 9), (1, 1), (1, 2), (1, 3), (1, 4), (1, 6), (1, 7), (1, 8), (2, 7), (3, 12), (3, 13), (3, 14), (3, 15), (4, 5), (4, 6), (4, 7), (4, 8), (5, 5), (5, 6), (5, 7), (5, 8), (5, 9), (5, 13), (6, 5), (6, 6), (6, 7), (6, 8), (6, 9), (6, 10)] [12, 13, 14, 23, 24, 25, 41, 42, 43, 44, 45, 46, 47, 48, 49, 50, 51, 52, 53, 54, 55, 56, 57, 58, 59, 60, 61, 62, 63, 64, 65, 66] V u.1 ∧ agL [1, 6, 14, 44] L u.2 ∧ (frX (xR b1) V u.1) ∧ ((r.toInt = 0 ∧ (u.1 0 8).toInt = 0) ∨ (r.toInt ≠ 0 ∧ (u.1 0 8).toInt = (V 0 8).toInt))) (fun u t => gq D A (xw ad kk u.1 u.2 Z) (xty kk Z) t) A
set_option maxHeartbeats 4000000 in
set_option maxRecDepth 100000 in
theorem x_h_book4 (l : Launch) (D : va_G) (ks : KS) (sz : Nat) (ad : Nat → Nat) (kk : Nat → ClassId) (V : Vf) (L : Lf) (Z : XZ) (b : Nat) (b1 : Nat) (hMV : rgd bX V) (hb2 : b < 2) (hb1 : b1 < 2) (hbb : b + b1 = 1) (shk : (V 0 6).toInt = (b : Int)) (spk : (V 0 7).toInt = (b1 : Int))  : Met l yX11_book (Cond.code yX11_book cX11_book 3 (some .int) :: GW) r_x_h_book4 (va_Pc [.ref (ad 0)] (gp D ks (xw ad kk V L Z) (xty kk Z) sz)) (q_x_h_book4 D ks ad kk V L Z  b b1 (va_A (xw ad kk V L Z) sz)) 0 0 (va_A (xw ad kk V L Z) sz) := by
  refine g_met (q_x_h_book4 D ks ad kk V L Z  b b1) (by decide) (Nat.le_of_ble_eq_true rfl) ?_
  intro p e s m below meth c A ls H locs hx hb hr hml hown hg hlocks hin hnw hgk hP hK hD hS hA hl
  replace hown : s.vm.findClass RX11 = some m.cls := hown
  replace hl : lv_has ls 3 [(0, .ref (ad 0))] := hl
  replace hP : va_P D vwCl (xw ad kk V L Z) H := hP
  replace hD : va_D A (xw ad kk V L Z) := hD
  replace hK : va_K D vwCl (xty kk Z) s := hK
  have agV : agr [(0, 6), (0, 7), (0, 8), (0, 9), (1, 1), (1, 2), (1, 3), (1, 4), (1, 6), (1, 7), (1, 8), (2, 7), (3, 12), (3, 13), (3, 14), (3, 15), (4, 5), (4, 6), (4, 7), (4, 8), (5, 5), (5, 6), (5, 7), (5, 8), (5, 9), (5, 13), (6, 5), (6, 6), (6, 7), (6, 8), (6, 9), (6, 10)] [12, 13, 14, 23, 24, 25, 41, 42, 43, 44, 45, 46, 47, 48, 49, 50, 51, 52, 53, 54, 55, 56, 57, 58, 59, 60, 61, 62, 63, 64, 65, 66] V V := agr.rf
  have alL : agL [1, 6, 14, 44] L L := agL.rf
  have r1 : 0 ≤ ((V 0 6)).toInt ∧ ((V 0 6)).toInt ≤ 1 := hMV 0 6
  have r2 : 0 ≤ ((V 0 7)).toInt ∧ ((V 0 7)).toInt ≤ 1 := hMV 0 7
  refine lv_aload_n hx hb dX11_book_0 rfl (lv_at hl 0 rfl) ?_
  refine va_get (D := D) (ci := 11) (v := .ref (ad 1)) (fs := (xfHouse ad V L Z)) (C := RX11) (T := TX11) (N := 10) hx hb hg inX11 hown hK hP 0 xgHouse rfl 1 (by decide) (hg _ w716) (fun _ h9 => h9) rfl dX11_book_1 ?_
  refine lv_aload_n hx hb dX11_book_4 rfl (lv_at hl 0 rfl) ?_
  refine va_get (D := D) (ci := 11) (v := .ref (ad (38 + Int32.toNatClampNeg (V 0 7)))) (fs := (xfHouse ad V L Z)) (C := RX11) (T := TX11) (N := 10) hx hb hg inX11 hown hK hP 0 xgHouse rfl 7 (by decide) (hg _ w722) (fun _ h9 => h9) rfl dX11_book_5 ?_
  refine g_topv (v := .ref (ad (38 + b1))) (rfP (by omega)) ?_
  refine gA_int (gA_runV (As := [.ref (ad (38 + b1))]) (rest := []) (ci := 1) (q0 := 1) hx hb hml hown hg hP hD hK hS hA hnw hgk (x_read l D ks H.size ad kk V L Z (b1) hMV (show b1 < 2 from by (first | exact om_f940a4667dd6 hb1 | omega))) w758 w759 w760 w162 w761 rfl xgReader hdV_yX1_read ⟨Nat.le_of_ble_eq_true rfl, Nat.le_of_ble_eq_true rfl⟩ rfl hl.1 rfl (Nat.le_of_ble_eq_true rfl) dX11_book_8 ⟨Nat.le_of_ble_eq_true rfl, Nat.le_of_ble_eq_true rfl⟩) hP hD hK hS hA (fun z3 u4 H locs w5 hP hD hK hS => ?_)
  obtain ⟨V7, L8⟩ := u4
  obtain ⟨hMV7, ajV7, axL8, fyV7, t6⟩ := w5
  have alL8 : agL [1, 6, 14, 44] L L8 := agL.tr alL axL8 (by decide)
  replace hP : va_P D vwCl (xw ad kk V7 L8 Z) H := hP
  replace hD : va_D A (xw ad kk V7 L8 Z) := hD
  replace hMV7 : rgd bX V7 := hMV7
  replace ajV7 : agr [(1, 1), (1, 2), (1, 3), (1, 4), (1, 6), (1, 7), (1, 8), (6, 6), (6, 7), (6, 8), (6, 9), (6, 10)] [12, 13, 14, 41, 42, 43, 44, 45, 46, 47, 48, 49, 50, 51, 52, 53, 54, 55, 56, 57, 58, 59, 60, 61, 62, 63, 64, 65, 66] V V7 := ajV7
  have agV7 : agr [(0, 6), (0, 7), (0, 8), (0, 9), (1, 1), (1, 2), (1, 3), (1, 4), (1, 6), (1, 7), (1, 8), (2, 7), (3, 12), (3, 13), (3, 14), (3, 15), (4, 5), (4, 6), (4, 7), (4, 8), (5, 5), (5, 6), (5, 7), (5, 8), (5, 9), (5, 13), (6, 5), (6, 6), (6, 7), (6, 8), (6, 9), (6, 10)] [12, 13, 14, 23, 24, 25, 41, 42, 43, 44, 45, 46, 47, 48, 49, 50, 51, 52, 53, 54, 55, 56, 57, 58, 59, 60, 61, 62, 63, 64, 65, 66] V V7 := agV.tr ajV7 (by decide) (by decide)
  replace t6 : Imp (z3.toInt = 0) (CD V7 b1 ∧ TX V7 b1) := t6
  refine lv_istore_n (lv' := [(1, .int z3), (0, .ref (ad 0))]) hx hb dX11_book_11 rfl hl (by decide) rfl (fun ls hl => ?_)
  refine lv_aload_n hx hb dX11_book_12 rfl (lv_at hl 1 rfl) ?_
  refine va_get (D := D) (ci := 11) (v := .ref (ad 6)) (fs := (xfHouse ad V7 L8 Z)) (C := RX11) (T := TX11) (N := 10) hx hb hg inX11 hown hK hP 0 xgHouse rfl 0 (by decide) (hg _ w715) (fun _ h9 => h9) rfl dX11_book_13 ?_
  refine gA_void (gA_runV (As := []) (rest := []) (ci := 9) (q0 := 6) hx hb hml hown hg hP hD hK hS hA hnw hgk (x_empty l D ks H.size ad kk V7 L8 Z  hMV7 ) w1019 w1020 w1021 w157 w1022 rfl xgTape hdV_yX9_empty ⟨Nat.le_of_ble_eq_true rfl, Nat.le_of_ble_eq_true rfl⟩ rfl hl.1 rfl (Nat.le_of_ble_eq_true rfl) dX11_book_16 ⟨Nat.le_of_ble_eq_true rfl, Nat.le_of_ble_eq_true rfl⟩) hP hD hK hS hA (fun u10 H locs w11 hP hD hK hS => ?_)
  obtain ⟨V13, L14⟩ := u10
  obtain ⟨hMV13, ajV13, axL14, t12⟩ := w11
  have axL14 : L8 = L14 := Eq.symm axL14
  subst axL14
  replace hP : va_P D vwCl (xw ad kk V13 L8 Z) H := hP
  replace hD : va_D A (xw ad kk V13 L8 Z) := hD
  replace hMV13 : rgd bX V13 := hMV13
  replace ajV13 : agr [(6, 5)] [] V7 V13 := ajV13
  have agV13 : agr [(0, 6), (0, 7), (0, 8), (0, 9), (1, 1), (1, 2), (1, 3), (1, 4), (1, 6), (1, 7), (1, 8), (2, 7), (3, 12), (3, 13), (3, 14), (3, 15), (4, 5), (4, 6), (4, 7), (4, 8), (5, 5), (5, 6), (5, 7), (5, 8), (5, 9), (5, 13), (6, 5), (6, 6), (6, 7), (6, 8), (6, 9), (6, 10)] [12, 13, 14, 23, 24, 25, 41, 42, 43, 44, 45, 46, 47, 48, 49, 50, 51, 52, 53, 54, 55, 56, 57, 58, 59, 60, 61, 62, 63, 64, 65, 66] V V13 := agV7.tr ajV13 (by decide) (by decide)
  replace t12 : (V13 6 5).toInt = 0 := t12
  have r15 : 0 ≤ ((V13 6 5)).toInt ∧ ((V13 6 5)).toInt ≤ 4000 := hMV13 6 5
  refine lv_iload_n hx hb dX11_book_19 rfl (lv_at hl 0 rfl) ?_
  refine lv_if_eq (tgt := 25) hx hb dX11_book_20 (by decide) (fun c16 => ?_) (fun c16 => ?_)
  · skip
    have f17 : z3.toInt = 0 := b_eq rfl (by decide) c16
    refine lv_aload_n hx hb dX11_book_25 rfl (lv_at hl 1 rfl) ?_
    refine va_get (D := D) (ci := 11) (v := .ref (ad (38 + Int32.toNatClampNeg (V13 0 6)))) (fs := (xfHouse ad V13 L8 Z)) (C := RX11) (T := TX11) (N := 10) hx hb hg inX11 hown hK hP 0 xgHouse rfl 6 (by decide) (hg _ w721) (fun _ h9 => h9) rfl dX11_book_26 ?_
    have pq18 : (V13 0 6).toInt = ((V 0 6)).toInt := congrArg Int32.toInt ((ajV13 0 6 rfl).trans (ajV7 0 6 rfl))
    refine g_topv (v := .ref (ad (38 + b))) (rfP (by omega)) ?_
    refine lv_astore_n (lv' := [(2, .ref (ad (38 + b))), (1, .int z3), (0, .ref (ad 0))]) hx hb dX11_book_29 rfl hl (by decide) rfl (fun ls hl => ?_)
    refine lv_aload_n hx hb dX11_book_30 rfl (lv_at hl 2 rfl) ?_
    refine lv_aload_n hx hb dX11_book_31 rfl (lv_at hl 2 rfl) ?_
    refine va_get (D := D) (ci := 11) (v := .ref (ad (38 + Int32.toNatClampNeg (V13 0 7)))) (fs := (xfHouse ad V13 L8 Z)) (C := RX11) (T := TX11) (N := 10) hx hb hg inX11 hown hK hP 0 xgHouse rfl 7 (by decide) (hg _ w722) (fun _ h9 => h9) rfl dX11_book_32 ?_
    have pq19 : (V13 0 7).toInt = ((V 0 7)).toInt := congrArg Int32.toInt ((ajV13 0 7 rfl).trans (ajV7 0 7 rfl))
    refine g_topv (v := .ref (ad (38 + b1))) (rfP (by omega)) ?_
    refine va_put (D := D) (ci := 11) (v := .ref (ad (38 + b1))) (ty := tyX11 6) (fs := (xfHouse ad V13 L8 Z)) (C := RX11) (T := TX11) (N := 10) hx hb hg inX11 tyX11 tyX11_ok nmX11 hown hK hP hD hS 0 xgHouse rfl 6 (by decide) (hg _ w721) (fun _ h9 => h9) rfl (tyX11_ok 6 (by decide)) rfl rfl (Nat.le_of_ble_eq_true rfl) dX11_book_35 (fun H locs hP hD hS => ?_)
    have r20 : (nI b1).toInt = ((b1 : Nat) : Int) := nI_toInt (by omega)
    obtain ⟨V21, hV21⟩ : ∃ z, z = up2 V13 0 6 (nI b1) := ⟨_, rfl⟩
    have ew22 : (xw ad kk V13 L8 Z).set 0 ((ad 0), .inr (11, (xfHouse ad V13 L8 Z).set 6 (.ref (ad (38 + b1))))) = xw ad kk V21 L8 Z := by rw [hV21]; exact xr_shelf hb1
    have hP : va_P D vwCl (xw ad kk V21 L8 Z) H := by rw [← ew22]; exact hP
    have hD : va_D A (xw ad kk V21 L8 Z) := by rw [← ew22]; exact hD
    have hMV21 : rgd bX V21 := hMV13.put hV21 (show 0 ≤ ((nI b1)).toInt ∧ ((nI b1)).toInt ≤ 1 from by (first | exact om_d98fff7a4861 hb1 r20 | omega))
    have agV21 : agr [(0, 6), (0, 7), (0, 8), (0, 9), (1, 1), (1, 2), (1, 3), (1, 4), (1, 6), (1, 7), (1, 8), (2, 7), (3, 12), (3, 13), (3, 14), (3, 15), (4, 5), (4, 6), (4, 7), (4, 8), (5, 5), (5, 6), (5, 7), (5, 8), (5, 9), (5, 13), (6, 5), (6, 6), (6, 7), (6, 8), (6, 9), (6, 10)] [12, 13, 14, 23, 24, 25, 41, 42, 43, 44, 45, 46, 47, 48, 49, 50, 51, 52, 53, 54, 55, 56, 57, 58, 59, 60, 61, 62, 63, 64, 65, 66] V V21 := agV13.up hV21 rfl
    refine lv_aload_n hx hb dX11_book_38 rfl (lv_at hl 2 rfl) ?_
    refine lv_aload_n hx hb dX11_book_39 rfl (lv_at hl 0 rfl) ?_
    refine va_put (D := D) (ci := 11) (v := .ref (ad (38 + b))) (ty := tyX11 7) (fs := (xfHouse ad V21 L8 Z)) (C := RX11) (T := TX11) (N := 10) hx hb hg inX11 tyX11 tyX11_ok nmX11 hown hK hP hD hS 0 xgHouse rfl 7 (by decide) (hg _ w722) (fun _ h9 => h9) rfl (tyX11_ok 7 (by decide)) rfl rfl (Nat.le_of_ble_eq_true rfl) dX11_book_40 (fun H locs hP hD hS => ?_)
    have r23 : (nI b).toInt = ((b : Nat) : Int) := nI_toInt (by omega)
    obtain ⟨V24, hV24⟩ : ∃ z, z = up2 V21 0 7 (nI b) := ⟨_, rfl⟩
    have ew25 : (xw ad kk V21 L8 Z).set 0 ((ad 0), .inr (11, (xfHouse ad V21 L8 Z).set 7 (.ref (ad (38 + b))))) = xw ad kk V24 L8 Z := by rw [hV24]; exact xr_spare hb2
    have hP : va_P D vwCl (xw ad kk V24 L8 Z) H := by rw [← ew25]; exact hP
    have hD : va_D A (xw ad kk V24 L8 Z) := by rw [← ew25]; exact hD
    have hMV24 : rgd bX V24 := hMV21.put hV24 (show 0 ≤ ((nI b)).toInt ∧ ((nI b)).toInt ≤ 1 from by (first | exact om_cf08f328c789 hb1 hbb r23 | omega))
    have agV24 : agr [(0, 6), (0, 7), (0, 8), (0, 9), (1, 1), (1, 2), (1, 3), (1, 4), (1, 6), (1, 7), (1, 8), (2, 7), (3, 12), (3, 13), (3, 14), (3, 15), (4, 5), (4, 6), (4, 7), (4, 8), (5, 5), (5, 6), (5, 7), (5, 8), (5, 9), (5, 13), (6, 5), (6, 6), (6, 7), (6, 8), (6, 9), (6, 10)] [12, 13, 14, 23, 24, 25, 41, 42, 43, 44, 45, 46, 47, 48, 49, 50, 51, 52, 53, 54, 55, 56, 57, 58, 59, 60, 61, 62, 63, 64, 65, 66] V V24 := agV21.up hV24 rfl
    refine lv_aload_n hx hb dX11_book_43 rfl (lv_at hl 2 rfl) ?_
    refine va_get (D := D) (ci := 11) (v := .ref (ad 3)) (fs := (xfHouse ad V24 L8 Z)) (C := RX11) (T := TX11) (N := 10) hx hb hg inX11 hown hK hP 0 xgHouse rfl 3 (by decide) (hg _ w718) (fun _ h9 => h9) rfl dX11_book_44 ?_
    refine gA_void (gA_runV (As := []) (rest := []) (ci := 8) (q0 := 3) hx hb hml hown hg hP hD hK hS hA hnw hgk (x_sclear2 l D ks H.size ad kk V24 L8 Z  hMV24 ) w1023 w1024 w1025 w164 w1026 rfl xgStock hdV_yX8_clear ⟨Nat.le_of_ble_eq_true rfl, Nat.le_of_ble_eq_true rfl⟩ rfl hl.1 rfl (Nat.le_of_ble_eq_true rfl) dX11_book_47 ⟨Nat.le_of_ble_eq_true rfl, Nat.le_of_ble_eq_true rfl⟩) hP hD hK hS hA (fun u27 H locs w28 hP hD hK hS => ?_)
    obtain ⟨V32, L33⟩ := u27
    obtain ⟨hMV32, ajV32, axL33, t29, t30, t31⟩ := w28
    have axL33 : L8 = L33 := Eq.symm axL33
    subst axL33
    replace hP : va_P D vwCl (xw ad kk V32 L8 Z) H := hP
    replace hD : va_D A (xw ad kk V32 L8 Z) := hD
    replace hMV32 : rgd bX V32 := hMV32
    replace ajV32 : agr [(3, 12), (3, 13), (3, 14), (3, 15)] [23, 24, 25] V24 V32 := ajV32
    have agV32 : agr [(0, 6), (0, 7), (0, 8), (0, 9), (1, 1), (1, 2), (1, 3), (1, 4), (1, 6), (1, 7), (1, 8), (2, 7), (3, 12), (3, 13), (3, 14), (3, 15), (4, 5), (4, 6), (4, 7), (4, 8), (5, 5), (5, 6), (5, 7), (5, 8), (5, 9), (5, 13), (6, 5), (6, 6), (6, 7), (6, 8), (6, 9), (6, 10)] [12, 13, 14, 23, 24, 25, 41, 42, 43, 44, 45, 46, 47, 48, 49, 50, 51, 52, 53, 54, 55, 56, 57, 58, 59, 60, 61, 62, 63, 64, 65, 66] V V32 := agV24.tr ajV32 (by decide) (by decide)
    replace t29 : (V32 3 13).toInt = 0 := t29
    replace t30 : (V32 3 15).toInt = 0 := t30
    replace t31 : ∀ q : Nat, q < 960 → (V32 25 q).toInt = -1 := t31
    have r34 : 0 ≤ ((V32 3 13)).toInt ∧ ((V32 3 13)).toInt ≤ 300 := hMV32 3 13
    have r35 : 0 ≤ ((V32 3 15)).toInt ∧ ((V32 3 15)).toInt ≤ 262144 := hMV32 3 15
    refine lv_aload_n hx hb dX11_book_50 rfl (lv_at hl 2 rfl) ?_
    refine va_get (D := D) (ci := 11) (v := .ref (ad 4)) (fs := (xfHouse ad V32 L8 Z)) (C := RX11) (T := TX11) (N := 10) hx hb hg inX11 hown hK hP 0 xgHouse rfl 4 (by decide) (hg _ w719) (fun _ h9 => h9) rfl dX11_book_51 ?_
    refine gA_void (gA_runV (As := []) (rest := []) (ci := 7) (q0 := 4) hx hb hml hown hg hP hD hK hS hA hnw hgk (x_Nclear l D ks H.size ad kk V32 L8 Z  hMV32 ) w1031 w1032 w1033 w166 w1034 rfl xgNotes hdV_yX7_clear ⟨Nat.le_of_ble_eq_true rfl, Nat.le_of_ble_eq_true rfl⟩ rfl hl.1 rfl (Nat.le_of_ble_eq_true rfl) dX11_book_54 ⟨Nat.le_of_ble_eq_true rfl, Nat.le_of_ble_eq_true rfl⟩) hP hD hK hS hA (fun u37 H locs w38 hP hD hK hS => ?_)
    obtain ⟨V39, L40⟩ := u37
    obtain ⟨hMV39, ajV39, axL40⟩ := w38
    have axL40 : L8 = L40 := Eq.symm axL40
    subst axL40
    replace hP : va_P D vwCl (xw ad kk V39 L8 Z) H := hP
    replace hD : va_D A (xw ad kk V39 L8 Z) := hD
    replace hMV39 : rgd bX V39 := hMV39
    replace ajV39 : agr [(4, 5), (4, 6), (4, 7), (4, 8)] [] V32 V39 := ajV39
    have agV39 : agr [(0, 6), (0, 7), (0, 8), (0, 9), (1, 1), (1, 2), (1, 3), (1, 4), (1, 6), (1, 7), (1, 8), (2, 7), (3, 12), (3, 13), (3, 14), (3, 15), (4, 5), (4, 6), (4, 7), (4, 8), (5, 5), (5, 6), (5, 7), (5, 8), (5, 9), (5, 13), (6, 5), (6, 6), (6, 7), (6, 8), (6, 9), (6, 10)] [12, 13, 14, 23, 24, 25, 41, 42, 43, 44, 45, 46, 47, 48, 49, 50, 51, 52, 53, 54, 55, 56, 57, 58, 59, 60, 61, 62, 63, 64, 65, 66] V V39 := agV32.tr ajV39 (by decide) (by decide)
    refine lv_aload_n hx hb dX11_book_57 rfl (lv_at hl 2 rfl) ?_
    refine va_get (D := D) (ci := 11) (v := .ref (ad 2)) (fs := (xfHouse ad V39 L8 Z)) (C := RX11) (T := TX11) (N := 10) hx hb hg inX11 hown hK hP 0 xgHouse rfl 2 (by decide) (hg _ w717) (fun _ h9 => h9) rfl dX11_book_58 ?_
    refine gA_void (gA_runV (As := []) (rest := []) (ci := 2) (q0 := 2) hx hb hml hown hg hP hD hK hS hA hnw hgk (x_kclear l D ks H.size ad kk V39 L8 Z  hMV39 ) w1035 w1036 w1037 w163 w1038 rfl xgChecker hdV_yX2_clear ⟨Nat.le_of_ble_eq_true rfl, Nat.le_of_ble_eq_true rfl⟩ rfl hl.1 rfl (Nat.le_of_ble_eq_true rfl) dX11_book_61 ⟨Nat.le_of_ble_eq_true rfl, Nat.le_of_ble_eq_true rfl⟩) hP hD hK hS hA (fun u42 H locs w43 hP hD hK hS => ?_)
    obtain ⟨V44, L45⟩ := u42
    obtain ⟨hMV44, ajV44, axL45⟩ := w43
    have axL45 : L8 = L45 := Eq.symm axL45
    subst axL45
    replace hP : va_P D vwCl (xw ad kk V44 L8 Z) H := hP
    replace hD : va_D A (xw ad kk V44 L8 Z) := hD
    replace hMV44 : rgd bX V44 := hMV44
    replace ajV44 : agr [(2, 7)] [] V39 V44 := ajV44
    have agV44 : agr [(0, 6), (0, 7), (0, 8), (0, 9), (1, 1), (1, 2), (1, 3), (1, 4), (1, 6), (1, 7), (1, 8), (2, 7), (3, 12), (3, 13), (3, 14), (3, 15), (4, 5), (4, 6), (4, 7), (4, 8), (5, 5), (5, 6), (5, 7), (5, 8), (5, 9), (5, 13), (6, 5), (6, 6), (6, 7), (6, 8), (6, 9), (6, 10)] [12, 13, 14, 23, 24, 25, 41, 42, 43, 44, 45, 46, 47, 48, 49, 50, 51, 52, 53, 54, 55, 56, 57, 58, 59, 60, 61, 62, 63, 64, 65, 66] V V44 := agV39.tr ajV44 (by decide) (by decide)
    refine lv_aload_n hx hb dX11_book_64 rfl (lv_at hl 2 rfl) ?_
    refine va_get (D := D) (ci := 11) (v := .ref (ad 5)) (fs := (xfHouse ad V44 L8 Z)) (C := RX11) (T := TX11) (N := 10) hx hb hg inX11 hown hK hP 0 xgHouse rfl 5 (by decide) (hg _ w720) (fun _ h9 => h9) rfl dX11_book_65 ?_
    refine lv_aload_n hx hb dX11_book_68 rfl (lv_at hl 2 rfl) ?_
    refine va_get (D := D) (ci := 11) (v := .ref (ad (38 + Int32.toNatClampNeg (V44 0 6)))) (fs := (xfHouse ad V44 L8 Z)) (C := RX11) (T := TX11) (N := 10) hx hb hg inX11 hown hK hP 0 xgHouse rfl 6 (by decide) (hg _ w721) (fun _ h9 => h9) rfl dX11_book_69 ?_
    have pq46 : (V44 0 6).toInt = ((nI b1)).toInt := congrArg Int32.toInt ((ajV44 0 6 rfl).trans ((ajV39 0 6 rfl).trans ((ajV32 0 6 rfl).trans ((up2_k hV24 (by decide)).trans (up2_s hV21)))))
    refine g_topv (v := .ref (ad (38 + b1))) (rfP (by omega)) ?_
    refine gA_void (gA_runV (As := [.ref (ad (38 + b1))]) (rest := []) (ci := 5) (q0 := 5) hx hb hml hown hg hP hD hK hS hA hnw hgk (x_takeBook l D ks H.size ad kk V44 L8 Z (b1) hMV44 (show b1 < 2 from by (first | exact om_f940a4667dd6 hb1 | omega))) w1039 w1040 w1041 w171 w1042 rfl xgMachine hdV_yX5_takeBook ⟨Nat.le_of_ble_eq_true rfl, Nat.le_of_ble_eq_true rfl⟩ rfl hl.1 rfl (Nat.le_of_ble_eq_true rfl) dX11_book_72 ⟨Nat.le_of_ble_eq_true rfl, Nat.le_of_ble_eq_true rfl⟩) hP hD hK hS hA (fun u48 H locs w49 hP hD hK hS => ?_)
    obtain ⟨V52, L53⟩ := u48
    obtain ⟨hMV52, ajV52, axL53, t50, t51⟩ := w49
    have axL53 : L8 = L53 := Eq.symm axL53
    subst axL53
    replace hP : va_P D vwCl (xw ad kk V52 L8 Z) H := hP
    replace hD : va_D A (xw ad kk V52 L8 Z) := hD
    replace hMV52 : rgd bX V52 := hMV52
    replace ajV52 : agr [(5, 5), (5, 6), (5, 7), (5, 8), (5, 9), (5, 13)] [] V44 V52 := ajV52
    have agV52 : agr [(0, 6), (0, 7), (0, 8), (0, 9), (1, 1), (1, 2), (1, 3), (1, 4), (1, 6), (1, 7), (1, 8), (2, 7), (3, 12), (3, 13), (3, 14), (3, 15), (4, 5), (4, 6), (4, 7), (4, 8), (5, 5), (5, 6), (5, 7), (5, 8), (5, 9), (5, 13), (6, 5), (6, 6), (6, 7), (6, 8), (6, 9), (6, 10)] [12, 13, 14, 23, 24, 25, 41, 42, 43, 44, 45, 46, 47, 48, 49, 50, 51, 52, 53, 54, 55, 56, 57, 58, 59, 60, 61, 62, 63, 64, 65, 66] V V52 := agV44.tr ajV52 (by decide) (by decide)
    replace t50 : (V52 5 5).toInt = (b1 : Int) := t50
    replace t51 : (V52 5 6).toInt = 0 := t51
    have r54 : 0 ≤ ((V52 5 5)).toInt ∧ ((V52 5 5)).toInt ≤ 1 := hMV52 5 5
    have r55 : 0 ≤ ((V52 5 6)).toInt ∧ ((V52 5 6)).toInt ≤ 400 := hMV52 5 6
    refine lv_aload_n hx hb dX11_book_75 rfl (lv_at hl 2 rfl) ?_
    refine lv_iconst (v := 0) hx hb dX11_book_76 (by decide) ?_
    refine va_put (D := D) (ci := 11) (v := .int 0) (ty := tyX11 8) (fs := (xfHouse ad V52 L8 Z)) (C := RX11) (T := TX11) (N := 10) hx hb hg inX11 tyX11 tyX11_ok nmX11 hown hK hP hD hS 0 xgHouse rfl 8 (by decide) (hg _ w723) (fun _ h9 => h9) rfl (tyX11_ok 8 (by decide)) rfl rfl (Nat.le_of_ble_eq_true rfl) dX11_book_77 (fun H locs hP hD hS => ?_)
    obtain ⟨V56, hV56⟩ : ∃ z, z = up2 V52 0 8 0 := ⟨_, rfl⟩
    have ew57 : (xw ad kk V52 L8 Z).set 0 ((ad 0), .inr (11, (xfHouse ad V52 L8 Z).set 8 (.int 0))) = xw ad kk V56 L8 Z := by rw [hV56]; exact xw_ss (by decide) rfl (xb_si (by decide))
    have hP : va_P D vwCl (xw ad kk V56 L8 Z) H := by rw [← ew57]; exact hP
    have hD : va_D A (xw ad kk V56 L8 Z) := by rw [← ew57]; exact hD
    have hMV56 : rgd bX V56 := hMV52.put hV56 (by decide)
    have agV56 : agr [(0, 6), (0, 7), (0, 8), (0, 9), (1, 1), (1, 2), (1, 3), (1, 4), (1, 6), (1, 7), (1, 8), (2, 7), (3, 12), (3, 13), (3, 14), (3, 15), (4, 5), (4, 6), (4, 7), (4, 8), (5, 5), (5, 6), (5, 7), (5, 8), (5, 9), (5, 13), (6, 5), (6, 6), (6, 7), (6, 8), (6, 9), (6, 10)] [12, 13, 14, 23, 24, 25, 41, 42, 43, 44, 45, 46, 47, 48, 49, 50, 51, 52, 53, 54, 55, 56, 57, 58, 59, 60, 61, 62, 63, 64, 65, 66] V V56 := agV52.up hV56 rfl
    refine lv_aload_n hx hb dX11_book_80 rfl (lv_at hl 2 rfl) ?_
    refine lv_iconst (v := 0) hx hb dX11_book_81 (by decide) ?_
    refine va_put (D := D) (ci := 11) (v := .int 0) (ty := tyX11 9) (fs := (xfHouse ad V56 L8 Z)) (C := RX11) (T := TX11) (N := 10) hx hb hg inX11 tyX11 tyX11_ok nmX11 hown hK hP hD hS 0 xgHouse rfl 9 (by decide) (hg _ w724) (fun _ h9 => h9) rfl (tyX11_ok 9 (by decide)) rfl rfl (Nat.le_of_ble_eq_true rfl) dX11_book_82 (fun H locs hP hD hS => ?_)
    obtain ⟨V58, hV58⟩ : ∃ z, z = up2 V56 0 9 0 := ⟨_, rfl⟩
    have ew59 : (xw ad kk V56 L8 Z).set 0 ((ad 0), .inr (11, (xfHouse ad V56 L8 Z).set 9 (.int 0))) = xw ad kk V58 L8 Z := by rw [hV58]; exact xw_ss (by decide) rfl (xb_si (by decide))
    have hP : va_P D vwCl (xw ad kk V58 L8 Z) H := by rw [← ew59]; exact hP
    have hD : va_D A (xw ad kk V58 L8 Z) := by rw [← ew59]; exact hD
    have hMV58 : rgd bX V58 := hMV56.put hV58 (i_full _)
    have agV58 : agr [(0, 6), (0, 7), (0, 8), (0, 9), (1, 1), (1, 2), (1, 3), (1, 4), (1, 6), (1, 7), (1, 8), (2, 7), (3, 12), (3, 13), (3, 14), (3, 15), (4, 5), (4, 6), (4, 7), (4, 8), (5, 5), (5, 6), (5, 7), (5, 8), (5, 9), (5, 13), (6, 5), (6, 6), (6, 7), (6, 8), (6, 9), (6, 10)] [12, 13, 14, 23, 24, 25, 41, 42, 43, 44, 45, 46, 47, 48, 49, 50, 51, 52, 53, 54, 55, 56, 57, 58, 59, 60, 61, 62, 63, 64, 65, 66] V V58 := agV56.up hV58 rfl
    refine lv_iconst (v := 0) hx hb dX11_book_85 (by decide) ?_
    have pq60 : (V58 0 8).toInt = 0 := (congrArg Int32.toInt ((up2_k hV58 (by decide)).trans (up2_s hV56))).trans (by decide)
    exact W.iret (v := 0) hx hb hr (fun t ht hW => ⟨⟨0, (V58, L8), rfl, ⟨hMV58, agV58, alL8, (frX.tr fyV7 (frX.ag (show agr [(0, 6), (0, 7), (0, 8), (0, 9), (2, 7), (3, 12), (3, 13), (3, 14), (3, 15), (4, 5), (4, 6), (4, 7), (4, 8), (5, 5), (5, 6), (5, 7), (5, 8), (5, 9), (5, 13), (6, 5)] [23, 24, 25] V7 V58 from (agr.up (agr.up (agr.tr (agr.tr (agr.tr (agr.tr (agr.up (agr.up (agr.tr agr.rf ajV13 (by decide) (by decide)) hV21 rfl) hV24 rfl) ajV32 (by decide) (by decide)) ajV39 (by decide) (by decide)) ajV44 (by decide) (by decide)) ajV52 (by decide) (by decide)) hV56 rfl) hV58 rfl)) (by decide) (by decide))), (show (0 = 0 ∧ (V58 0 8).toInt = 0) ∨ (0 ≠ 0 ∧ (V58 0 8).toInt = (V 0 8).toInt) from by omega)⟩, by rw [ht]; exact hP, va_K.moved hW.alike hK, hD⟩, hS.F ht⟩) hS.2.2 dX11_book_86
  · skip
    have f61 : z3.toInt ≠ 0 := b_neq rfl (by decide) c16
    refine lv_iload_n hx hb dX11_book_23 rfl (lv_at hl 0 rfl) ?_
    have pq62 : (V13 0 8).toInt = ((V 0 8)).toInt := congrArg Int32.toInt ((ajV13 0 8 rfl).trans (ajV7 0 8 rfl))
    have r63 : 0 ≤ ((V 0 8)).toInt ∧ ((V 0 8)).toInt ≤ 1 := hMV 0 8
    exact W.iret (v := z3) hx hb hr (fun t ht hW => ⟨⟨z3, (V13, L8), rfl, ⟨hMV13, agV13, alL8, (frX.tr fyV7 (frX.ag (show agr [(6, 5)] [] V7 V13 from (agr.tr agr.rf ajV13 (by decide) (by decide))) (by decide) (by decide))), (show (z3.toInt = 0 ∧ (V13 0 8).toInt = 0) ∨ (z3.toInt ≠ 0 ∧ (V13 0 8).toInt = (V 0 8).toInt) from by omega)⟩, by rw [ht]; exact hP, va_K.moved hW.alike hK, hD⟩, hS.F ht⟩) hS.2.2 dX11_book_24
