theorem Km_mthN {T : Tk} {s : St} {F : Int} (h : ∀ kk, mthW T s 3 kk = Cbad F) (kk : Nat × St → Cf) : mthN T s kk = Cbad F := by
  have hn : ¬ (T.1 (s.1 0) = 3 ∧ mTold s (T.2.1 (s.1 0)) = true) := by
    rintro ⟨a, b⟩
    have z := h (fun _ => Cdone s)
    rw [mth_y a] at z
    unfold mTold at b
    unfold nbrW at z
    cases e : fndI (s.2.1 3) (T.2.1 (s.1 0)) with
    | none => rw [e] at b; exact absurd (show false = true from b) (by decide)
    | some f => rw [e] at z; exact absurd z (fun q => by cases q)
  exact (mthN_y hn kk).trans (h kk)
/-! a list of types, E's (reference) -/
/-- a row's bits: those that were, and those of a list of types -/
def UNm (x o : Nat) (V W : Vf) (f : Nat → Nat) (l : List Nat) : Prop := ∀ g, g < 24 → ((W x (24 * o + g)).toInt = 1 ↔ ((V x (24 * o + g)).toInt = 1 ∨ (msk f l).testBit g = true))
def UNx (x o : Nat) (V W : Vf) (f : Nat → Nat) (m : Int) (l l' : List Nat) : Prop := ∀ g : Nat, g < 24 → ((W x (24 * o + g)).toInt = 1 ↔ ((V x (24 * o + g)).toInt = 1 ∨ (msk f (if (g : Int) < m then l else l')).testBit g = true))
theorem UNm.z {x o : Nat} {V : Vf} {f : Nat → Nat} : UNm x o V V f [] := fun g _ => by
  rw [show (msk f []).testBit g = false from Nat.zero_testBit g]
  exact ⟨Or.inl, fun h => h.elim id (fun q => by cases q)⟩
theorem UNm.ag {x o : Nat} {V W W' : Vf} {f : Nat → Nat} {l : List Nat} (h : UNm x o V W f l) (e : W' x = W x) : UNm x o V W' f l := by
  unfold UNm at h ⊢
  rw [e]
  exact h
theorem UNx.z {x o : Nat} {V W W' : Vf} {f : Nat → Nat} {m : Int} {l l' : List Nat} (h : UNm x o V W f l') (e : W' x = W x) (hm : m ≤ 0) : UNx x o V W' f m l l' := fun g hg => by
  rw [e, if_neg (by omega)]
  exact h g hg
theorem UNx.all {x o : Nat} {V W : Vf} {f : Nat → Nat} {m : Int} {l l' : List Nat} (h : UNx x o V W f m l l') (hm : 24 ≤ m) : UNm x o V W f l := fun g hg => by
  have z := h g hg
  rw [if_pos (by omega)] at z
  exact z
theorem UNx.st {x o u t y p : Nat} {V W W' : Vf} {f : Nat → Nat} {m m' : Int} {v : Int32} {l' : List Nat} (h : UNx x o V W f m (t :: l') l') (e : W' = up2 W x p v) (hp : p = 24 * o + y) (hy : y < 24) (em : m = (y : Int)) (em' : m' = (y : Int) + 1) (hb : BTm W 15 u (f (30 + t))) (hv : v.toInt = 1 ↔ ((W x (24 * o + y)).toInt = 1 ∨ (W 15 (24 * u + y)).toInt = 1)) : UNx x o V W' f m' (t :: l') l' := fun g hg => by
  have z := h g hg
  by_cases c : g = y
  · subst c
    rw [if_neg (by omega)] at z
    rw [if_pos (by omega), ← hp, up2_s e, hv, z, hb g hg, msk_cons, Nat.testBit_or, Bool.or_eq_true, hp]
    constructor
    · rintro ((a | a) | a)
      · exact Or.inl a
      · exact Or.inr (Or.inr a)
      · exact Or.inr (Or.inl a)
    · rintro (a | a | a)
      · exact Or.inl (Or.inl a)
      · exact Or.inr a
      · exact Or.inl (Or.inr a)
  · rw [up2_k e (by omega)]
    by_cases d : (g : Int) < m
    · rw [if_pos d] at z
      rw [if_pos (by omega)]
      exact z
    · rw [if_neg d] at z
      rw [if_neg (by omega)]
      exact z
theorem BTm.of {o t : Nat} {V W : Vf} {f : Nat → Nat} {l : List Nat} (h : UNm 15 o V W f l) (b : ∀ g, g < 24 → ((V 15 (24 * o + g)).toInt = 1 ↔ g = t)) : BTm W 15 o (msk f l ||| 2 ^ t) := fun g hg => by
  rw [h g hg, b g hg, Nat.testBit_or, Nat.testBit_two_pow, Bool.or_eq_true, decide_eq_true_iff]
  exact ⟨fun q => q.elim (fun e => Or.inr e.symm) Or.inl, fun q => q.elim Or.inr (fun e => Or.inl e.symm)⟩
theorem BTm.of0 {o : Nat} {V W : Vf} {f : Nat → Nat} {l : List Nat} (h : UNm 21 o V W f l) (b : ∀ g, g < 24 → (V 21 (24 * o + g)).toInt = 0) : BTm W 21 o (msk f l) := fun g hg => by
  rw [h g hg, b g hg]
  exact ⟨fun q => q.elim (fun e => absurd e (by decide)) id, Or.inr⟩
theorem BTm.ag {x o m : Nat} {V W : Vf} (h : BTm V x o m) (e : W x = V x) : BTm W x o m := by
  unfold BTm at h ⊢
  rw [e]
  exact h
def LTI (V0 : Vf) (x o : Nat) (c : Int) (w : Int64) (V : Vf) (L : Lf) (q n : Nat) (T : Tk) (s : St) (l2 : List Int64) (m more : Int) : Prop :=
  ((V 0 8).toInt = 0 ∧ more = 1 ∧ ∃ (s1 : St) (sn : List Nat), (∀ k, Rc T (Crun s (Itypes c w 0 [] :: k)) (Crun s1 (Itypes c w m.toNat sn :: k))) ∧ RelM V L q n T s1 l2 ∧ (keepS s 0 s1 ∧ keepL s s1) ∧ LST V m sn ∧ UNm x o V0 V s.1 sn ∧ CNm V q s) ∨ ((V 0 8).toInt = 0 ∧ more = 0 ∧ ∃ (s1 : St) (sn : List Nat), (∀ k, Rc T (Crun s (Itypes c w 0 [] :: k)) (Crun s1 (ItyD c w sn :: k))) ∧ RelM V L q n T s1 l2 ∧ (keepS s 1 s1 ∧ keepL s s1) ∧ UNm x o V0 V s.1 sn ∧ CNm V q s) ∨ (1 ≤ (V 0 8).toInt ∧ ∀ k, Rc T (Crun s (Itypes c w 0 [] :: k)) (Cbad (V 0 8).toInt))
abbrev RdTm (T : Tk) (s : St) (c : Int) (w : Int64) (flt : Int) (P : St → List Nat → Prop) : Prop := (flt = 0 ∧ ∃ (s' : St) (sn : List Nat), (∀ k, Rc T (Crun s (Itypes c w 0 [] :: k)) (Crun s' (ItyD c w sn :: k))) ∧ P s' sn) ∨ (1 ≤ flt ∧ ∀ k, Rc T (Crun s (Itypes c w 0 [] :: k)) (Cbad flt))
theorem EM.of {V : Vf} {s : St} (h : EM V s) (k : s.1 4 = 0) : 0 ≤ (V 0 51).toInt ∧ (V 27 (Int32.toNatClampNeg (V 0 51))).toInt = ((s.1 1 : Nat) : Int) := ⟨h.1.mpr k, h.2.2 (h.1.mpr k)⟩


abbrev r_s_takeTypesA15 : Room := { frames := 3, cells := 0, slots := 0, locals := 71 }
abbrev q_s_takeTypesA15 (D : va_G) (ks : KS) (ad : Nat → Nat) (kk : Nat → ClassId) (V : Vf) (L : Lf) (p1 : Int32) (bq : Nat) (gn : Nat) (gT : Tk) (gs : St) (gl : List Int64) (gy : Int) (gw : Int64) (go : Nat) (A : Nat → Prop) : Array Value → State → Outcome → State → Prop := va_Qv (fun (u : Vf × Lf) => rgd bM u.1 ∧ agr [(0, 7), (0, 8)] [15, 21, 53] V u.1 ∧ u.2 = L ∧ (RdTm gT gs gy gw (u.1 0 8).toInt (fun s9 sn => RelM u.1 u.2 bq gn gT s9 gl ∧ keepS gs 1 s9 ∧ keepL gs s9 ∧ UNm 15 go V u.1 gs.1 sn ∧ CNm u.1 bq gs))) (fun u t => gq D A (mw ad kk ks.1 u.1 u.2) (mty kk) t) A
set_option maxHeartbeats 4000000 in
set_option maxRecDepth 100000 in
theorem s_takeTypesA15 (l : Launch) (D : va_G) (ks : KS) (sz : Nat) (ad : Nat → Nat) (kk : Nat → ClassId) (V : Vf) (L : Lf) (p1 : Int32) (bq : Nat) (gn : Nat) (gT : Tk) (gs : St) (gl : List Int64) (gy : Int) (gw : Int64) (go : Nat) (hMV : rgd bM V) (rg_p1 : 0 ≤ p1.toInt ∧ p1.toInt ≤ 47) (rel : RelM V L bq gn gT gs gl) (pgo : p1.toInt = (go : Int)) (gfr : go = 24 * bq + (gs.2.1 0).length) (cnm : CNm V bq gs)  : Met l yX12_takeTypes (Cond.code yX12_takeTypes cX12_takeTypes 7 none :: GW) r_s_takeTypesA15 (va_Pc [.ref (ad 0), .ref (ad 15), .int p1] (gp D ks (mw ad kk ks.1 V L) (mty kk) sz)) (q_s_takeTypesA15 D ks ad kk V L p1 bq gn gT gs gl gy gw go (va_A (mw ad kk ks.1 V L) sz)) 0 0 (va_A (mw ad kk ks.1 V L) sz) := by
  refine g_met (q_s_takeTypesA15 D ks ad kk V L p1 bq gn gT gs gl gy gw go) (by decide) (Nat.le_of_ble_eq_true rfl) ?_
  intro p e s m below meth c A ls H locs hx hb hr hml hown hg hlocks hin hnw hgk hP hK hD hS hA hl
  have hown : s.vm.findClass RX12 = some m.cls := hown
  have hl : lv_has ls 7 [(0, .ref (ad 0)), (1, .ref (ad 15)), (2, .int p1)] := hl
  have hP : va_P D vwCl (mw ad kk ks.1 V L) H := hP
  have hD : va_D A (mw ad kk ks.1 V L) := hD
  have hK : va_K D vwCl (mty kk) s := hK
  have agV : agr [(0, 7), (0, 8)] [15, 21, 53] V V := agr.rf
  have rf_p1 := i_full p1
  have rg0 := RelM.rg rel
  have cl0 := RelM.cl rel
  have cq0 := RelM.cq rel
  refine lv_iconst (v := 0) hx hb dX12_takeTypes_0 (by decide) ?_
  refine lv_istore_n (lv' := [(3, .int 0), (0, .ref (ad 0)), (1, .ref (ad 15)), (2, .int p1)]) hx hb dX12_takeTypes_1 rfl hl (by decide) rfl (fun ls hl => ?_)
  refine lv_iconst (v := 1) hx hb dX12_takeTypes_2 (by decide) ?_
  refine lv_istore (lv' := [(4, .int 1), (3, .int 0), (0, .ref (ad 0)), (1, .ref (ad 15)), (2, .int p1)]) hx hb dX12_takeTypes_3 hl (by decide) rfl (fun ls hl => ?_)
  have lp5 : ∀ (fulp5 : Nat) (g4 : Int) (y1 : Int32) (y2 : Int32) (V3 : Vf) (H : Heap) (locs : List Loc) (ls : Array Slot), 0 ≤ y1.toInt ∧ y1.toInt ≤ 1 → 0 ≤ y2.toInt ∧ y2.toInt ≤ 6 → LTI V 15 go gy gw V3 L bq gn gT gs gl y2.toInt y1.toInt → 0 ≤ g4 → y2.toInt ≤ 6 → Imp ((V3 0 8).toInt = 0) (7 - y2.toInt < g4) → (V3 0 12).toInt = (V 0 12).toInt → g4 < (fulp5 : Int) → agr [(0, 7), (0, 8)] [15, 21, 53] V V3 → rgd bM V3 → va_P D vwCl (mw ad kk ks.1 V3 L) H → va_D A (mw ad kk ks.1 V3 L) → va_S A s.heap H locs → lv_has ls 7 [(4, .int y1), (3, .int y2), (0, .ref (ad 0)), (1, .ref (ad 15)), (2, .int p1)] → W p l e r_s_takeTypesA15 s m ([.ref (ad 0), .ref (ad 15), .int p1] : List Value).toArray below meth c H locs 0 0 (MQ below (q_s_takeTypesA15 D ks ad kk V L p1 bq gn gT gs gl gy gw go A) ([.ref (ad 0), .ref (ad 15), .int p1] : List Value).toArray s 0 0 A) (F0 m 5 ls []) := by
    intro fulp5
    induction fulp5 with
    | zero =>
      intro g4 y1 y2 V3 H locs ls klp5_0 klp5_1 xlp5_0 xlp5_1 xlp5_2 xlp5_3 xlp5_4 hn ajV3 hMV3 hP hD hS hl
      exfalso; (first | exact om_21e89d3d06d7 xlp5_1 hn | omega)
    | succ fulp5 ihlp5 =>
      intro g4 y1 y2 V3 H locs ls klp5_0 klp5_1 xlp5_0 xlp5_1 xlp5_2 xlp5_3 xlp5_4 hn ajV3 hMV3 hP hD hS hl
      have agV3 : agr [(0, 7), (0, 8)] [15, 21, 53] V V3 := agV.tr ajV3 (by decide) (by decide)
      have r6 : 0 ≤ ((V3 0 8)).toInt ∧ ((V3 0 8)).toInt ≤ 70000 := hMV3 0 8
      have pq7 : (V3 0 12).toInt = ((V 0 12)).toInt := congrArg Int32.toInt (ajV3 0 12 rfl)
      have r8 : 0 ≤ ((V 0 12)).toInt ∧ ((V 0 12)).toInt ≤ 1 := hMV 0 12
      refine lv_iload hx hb dX12_takeTypes_5 (lv_at hl 0 rfl) ?_
      rcases xlp5_0 with ⟨f8, m8, s1, sn, hq, rq, ⟨kq, ll9⟩, lq, uq, cq⟩ | ⟨f8, m8, s1, sn, hq, rq, ⟨kq, ll9⟩, uq, cq⟩ | ⟨f8, hq⟩
      · skip
        have fz9 := RelM.rg rq
        refine lv_if_eq (tgt := 195) hx hb dX12_takeTypes_7 (by decide) (fun c10 => ?_) (fun c10 => ?_)
        · skip
          have f11 : y1.toInt = 0 := b_eq rfl (by decide) c10
          exfalso; first | omega | ((try (have i_xlp5_3 := Imp.go xlp5_3 (by omega))); omega)
        · skip
          have f12 : y1.toInt ≠ 0 := b_neq rfl (by decide) c10
          refine lv_aload_n hx hb dX12_takeTypes_10 rfl (lv_at hl 2 rfl) ?_
          refine va_get (D := D) (ci := 12) (v := .int (V3 0 8)) (C := RX12) (T := TX12) (N := 100) hx hb hg inX12 hown hK hP 0 rfl rfl 8 (by decide) (hg _ w1714) (fun _ h9 => h9) rfl dX12_takeTypes_11 ?_
          refine lv_if_ne (tgt := 195) hx hb dX12_takeTypes_14 (by decide) (fun c13 => ?_) (fun c13 => ?_)
          · skip
            have f14 : ((V3 0 8)).toInt ≠ 0 := b_neq rfl (by decide) c13
            exfalso; first | omega | ((try (have i_xlp5_3 := Imp.go xlp5_3 (by omega))); omega)
          · skip
            have f15 : ((V3 0 8)).toInt = 0 := b_eq rfl (by decide) c13
            refine lv_aload_n hx hb dX12_takeTypes_17 rfl (lv_at hl 2 rfl) ?_
            refine gA_int (gA_runV (As := []) (rest := []) (ci := 12) (q0 := 0) hx hb hml hown hg hP hD hK hS hA hnw hgk (s_takeTypeA l D ks H.size ad kk V3 L (bq) (gn) (gT) (s1) (gl) hMV3 rq) w2059 w2061 w92 w172 w2062 rfl rfl hdV_yX12_takeType ⟨Nat.le_of_ble_eq_true rfl, Nat.le_of_ble_eq_true rfl⟩ rfl hl.1 rfl (Nat.le_of_ble_eq_true rfl) dX12_takeTypes_18 ⟨Nat.le_of_ble_eq_true rfl, Nat.le_of_ble_eq_true rfl⟩) hP hD hK hS hA (fun z16 u17 H locs w18 hP hD hK hS => ?_)
            obtain ⟨V20, L21⟩ := u17
            obtain ⟨hMV20, ajV20, axL21, rgz16, t19⟩ := w18
            have axL21 : L = L21 := Eq.symm axL21
            subst axL21
            have hP : va_P D vwCl (mw ad kk ks.1 V20 L) H := hP
            have hD : va_D A (mw ad kk ks.1 V20 L) := hD
            have hMV20 : rgd bM V20 := hMV20
            have ajV20 : agr [(0, 7), (0, 8)] [] V3 V20 := ajV20
            have agV20 : agr [(0, 7), (0, 8)] [15, 21, 53] V V20 := agV3.tr ajV20 (by decide) (by decide)
            have rgz16 : (-1) ≤ z16.toInt ∧ z16.toInt ≤ 23 := rgz16
            have t19 : KmN (look (gT) (s1) ((s1).2.1 0)) (V20 0 8).toInt (fun f9 => RelM V20 L (bq) (gn) (gT) (nx (s1) 1) (gl) ∧ z16.toInt = ((f9 : Nat) : Int) ∧ f9 < 24) := t19
            rcases t19 with ⟨q22, fx23, h24, rl25, hf26, hb27⟩ | ⟨q22, h24⟩
            · skip
              have ps28 : (nx s1 1).1 0 = s1.1 0 + 1 := rfl
              have fz29 := RelM.rg rl25
              have r30 : 0 ≤ ((V20 0 8)).toInt ∧ ((V20 0 8)).toInt ≤ 70000 := hMV20 0 8
              refine lv_istore (lv' := [(5, .int z16), (4, .int y1), (3, .int y2), (0, .ref (ad 0)), (1, .ref (ad 15)), (2, .int p1)]) hx hb dX12_takeTypes_21 hl (by decide) rfl (fun ls hl => ?_)
              refine lv_aload_n hx hb dX12_takeTypes_23 rfl (lv_at hl 3 rfl) ?_
              refine lv_dup hx hb dX12_takeTypes_24 rfl ?_
              refine va_get (D := D) (ci := 12) (v := .int (V20 0 7)) (C := RX12) (T := TX12) (N := 100) hx hb hg inX12 hown hK hP 0 rfl rfl 7 (by decide) (hg _ w1713) (fun _ h9 => h9) rfl dX12_takeTypes_25 ?_
              refine lv_iconst (v := 1) hx hb dX12_takeTypes_28 (by decide) ?_
              refine lv_isub hx hb dX12_takeTypes_29 ?_
              refine lv_topi (fun z31 ez31 => ?_)
              have hz31 : z31.toInt = ((V20 0 7)).toInt - 1 := i_sub ez31 rfl (by decide) (by omega)
              refine va_put (D := D) (ci := 12) (v := .int z31) (ty := tyX12 7) (C := RX12) (T := TX12) (N := 100) hx hb hg inX12 tyX12 tyX12_ok nmX12 hown hK hP hD hS 0 rfl rfl 7 (by decide) (hg _ w1713) (fun _ h9 => h9) rfl (tyX12_ok 7 (by decide)) rfl rfl (Nat.le_of_ble_eq_true rfl) dX12_takeTypes_30 (fun H locs hP hD hS => ?_)
              obtain ⟨V32, hV32⟩ : ∃ z, z = up2 V20 0 7 z31 := ⟨_, rfl⟩
              have hP : va_P D vwCl (mw ad kk ks.1 V32 L) H := by rw [hV32]; exact hP
              have hD : va_D A (mw ad kk ks.1 V32 L) := by rw [hV32]; exact hD
              have hMV32 : rgd bM V32 := hMV20.put hV32 (i_full _)
              have agV32 : agr [(0, 7), (0, 8)] [15, 21, 53] V V32 := agV20.up hV32 rfl
              have pq33 : (V32 0 8).toInt = ((V20 0 8)).toInt := congrArg Int32.toInt (up2_k hV32 (by decide))
              have rz34 : -5 ≤ z31.toInt ∧ z31.toInt ≤ 5000 := by first | omega | ((try (have i_xlp5_3 := Imp.go xlp5_3 (by omega))); omega)
              have rl35 : RelM V32 L bq gn gT s1 gl := RelM.v8 rl25 hV32 (by (first | exact om_a53909a885f5 hz31 | omega))
              have fz36 := RelM.rg rl35
              have pq37 : (V32 0 7).toInt = z31.toInt := congrArg Int32.toInt (up2_s hV32)
              refine lv_iconst (v := 0) hx hb dX12_takeTypes_33 (by decide) ?_
              refine lv_istore (lv' := [(6, .int 0), (5, .int z16), (4, .int y1), (3, .int y2), (0, .ref (ad 0)), (1, .ref (ad 15)), (2, .int p1)]) hx hb dX12_takeTypes_34 hl (by decide) rfl (fun ls hl => ?_)
              have lp40 : ∀ (fulp40 : Nat) (y38 : Int32) (V39 : Vf) (H : Heap) (locs : List Loc) (ls : Array Slot), 0 ≤ y38.toInt ∧ y38.toInt ≤ 6 → (((V39 0 8).toInt = 0 ∧ RelM V39 L bq gn gT s1 gl ∧ (∀ k : Nat, (k : Int) < y38.toInt → (V39 53 k).toInt ≠ z16.toInt)) ∨ (1 ≤ (V39 0 8).toInt ∧ ∀ k, Rc gT (Crun gs (Itypes gy gw 0 [] :: k)) (Cbad (V39 0 8).toInt))) → y38.toInt ≤ y2.toInt → Imp (1 ≤ (V32 0 8).toInt) ((V39 0 8).toInt = (V32 0 8).toInt) → y2.toInt - y38.toInt < (fulp40 : Int) → agr [(0, 8)] [] V32 V39 → rgd bM V39 → va_P D vwCl (mw ad kk ks.1 V39 L) H → va_D A (mw ad kk ks.1 V39 L) → va_S A s.heap H locs → lv_has ls 7 [(6, .int y38), (5, .int z16), (4, .int y1), (3, .int y2), (0, .ref (ad 0)), (1, .ref (ad 15)), (2, .int p1)] → W p l e r_s_takeTypesA15 s m ([.ref (ad 0), .ref (ad 15), .int p1] : List Value).toArray below meth c H locs 0 0 (MQ below (q_s_takeTypesA15 D ks ad kk V L p1 bq gn gT gs gl gy gw go A) ([.ref (ad 0), .ref (ad 15), .int p1] : List Value).toArray s 0 0 A) (F0 m 36 ls []) := by
                (try clear fz36); (try clear rl35); (try clear fz29); (try clear ps28); (try clear fz9)
                intro fulp40
                induction fulp40 with
                | zero =>
                  intro y38 V39 H locs ls klp40_0 xlp40_0 xlp40_1 xlp40_2 hn ajV39 hMV39 hP hD hS hl
                  exfalso; (first | exact om_4634b1278845 xlp40_1 hn | omega)
                | succ fulp40 ihlp40 =>
                  intro y38 V39 H locs ls klp40_0 xlp40_0 xlp40_1 xlp40_2 hn ajV39 hMV39 hP hD hS hl
                  have agV39 : agr [(0, 7), (0, 8)] [15, 21, 53] V V39 := agV32.tr ajV39 (by decide) (by decide)
                  refine lv_iload hx hb dX12_takeTypes_36 (lv_at hl 0 rfl) ?_
                  rcases xlp40_0 with ⟨f7, ri, ni⟩ | ⟨f7, hi⟩
                  · skip
                    have fz41 := RelM.rg ri
                    have r42 : 0 ≤ ((V39 0 8)).toInt ∧ ((V39 0 8)).toInt ≤ 70000 := hMV39 0 8
                    have pq43 : (V39 0 7).toInt = z31.toInt := congrArg Int32.toInt ((ajV39 0 7 rfl).trans (up2_s hV32))
                    refine lv_iload_n hx hb dX12_takeTypes_38 rfl (lv_at hl 3 rfl) ?_
                    refine lv_icmp_ge (tgt := 72) hx hb dX12_takeTypes_39 (by decide) (fun c44 => ?_) (fun c44 => ?_)
                    · skip
                      have f45 : y2.toInt ≤ y38.toInt := b_le rfl rfl c44
                      refine lv_aload_n hx hb dX12_takeTypes_72 rfl (lv_at hl 4 rfl) ?_
                      refine va_get (D := D) (ci := 12) (v := .int (V39 0 8)) (C := RX12) (T := TX12) (N := 100) hx hb hg inX12 hown hK hP 0 rfl rfl 8 (by decide) (hg _ w1714) (fun _ h9 => h9) rfl dX12_takeTypes_73 ?_
                      refine lv_if_ne (tgt := 90) hx hb dX12_takeTypes_76 (by decide) (fun c46 => ?_) (fun c46 => ?_)
                      · skip
                        have f47 : ((V39 0 8)).toInt ≠ 0 := b_neq rfl (by decide) c46
                        exfalso; first | exact om_0b51723c7ef6 f7 f47 | first | omega | ((try (have i_xlp40_2 := Imp.go xlp40_2 (by omega))); (try (have i_xlp5_3 := Imp.go xlp5_3 (by omega))); (try (have i_xlp5_3 := Imp.go xlp5_3 (by omega))); (try (have i_xlp40_2 := Imp.go xlp40_2 (by omega))); omega)
                      · skip
                        have f48 : ((V39 0 8)).toInt = 0 := b_eq rfl (by decide) c46
                        refine lv_iload_n hx hb dX12_takeTypes_79 rfl (lv_at hl 3 rfl) ?_
                        refine lv_bipush (v := 6) hx hb dX12_takeTypes_80 (by decide) ?_
                        refine lv_icmp_ne (tgt := 90) hx hb dX12_takeTypes_82 (by decide) (fun c49 => ?_) (fun c49 => ?_)
                        · skip
                          have f50 : y2.toInt ≠ 6 := b_neq rfl (by decide) c49
                          refine lv_aload_n hx hb dX12_takeTypes_90 rfl (lv_at hl 4 rfl) ?_
                          refine lv_dup hx hb dX12_takeTypes_91 rfl ?_
                          refine va_get (D := D) (ci := 12) (v := .int (V39 0 7)) (C := RX12) (T := TX12) (N := 100) hx hb hg inX12 hown hK hP 0 rfl rfl 7 (by decide) (hg _ w1713) (fun _ h9 => h9) rfl dX12_takeTypes_92 ?_
                          refine g_top (v := z31) ((ajV39 0 7 rfl).trans (up2_s hV32)) ?_
                          refine lv_iconst (v := 1) hx hb dX12_takeTypes_95 (by decide) ?_
                          refine lv_iadd hx hb dX12_takeTypes_96 ?_
                          refine lv_topi (fun z51 ez51 => ?_)
                          have hz51 : z51.toInt = z31.toInt + 1 := i_add ez51 rfl (by decide) (by (first | exact om_37595bfb6665 rz34.1 rz34.2 | omega))
                          refine va_put (D := D) (ci := 12) (v := .int z51) (ty := tyX12 7) (C := RX12) (T := TX12) (N := 100) hx hb hg inX12 tyX12 tyX12_ok nmX12 hown hK hP hD hS 0 rfl rfl 7 (by decide) (hg _ w1713) (fun _ h9 => h9) rfl (tyX12_ok 7 (by decide)) rfl rfl (Nat.le_of_ble_eq_true rfl) dX12_takeTypes_97 (fun H locs hP hD hS => ?_)
                          obtain ⟨V52, hV52⟩ : ∃ z, z = up2 V39 0 7 z51 := ⟨_, rfl⟩
                          have hP : va_P D vwCl (mw ad kk ks.1 V52 L) H := by rw [hV52]; exact hP
                          have hD : va_D A (mw ad kk ks.1 V52 L) := by rw [hV52]; exact hD
                          have hMV52 : rgd bM V52 := hMV39.put hV52 (i_full _)
                          have agV52 : agr [(0, 7), (0, 8)] [15, 21, 53] V V52 := agV39.up hV52 rfl
                          have nn53 : fx23 ∉ sn := (LST.no (LST.ag lq (by rw [(funext (fun q => ajV39 53 q rfl) : V39 53 = V32 53), (up2_fo hV32 (by decide) : V32 53 = V20 53), (funext (fun q => ajV20 53 q rfl) : V20 53 = V3 53)] : V39 53 = V3 53)) (fun k h9 => by rw [← hf26]; exact ni k (by omega)))
                          have kd54 : gT.1 (s1.1 0) ≠ 0 := look_ne h24
                          have rl55 : RelM V52 L bq gn gT (nx s1 1) gl := RelM.n1 ri hV52 (by (first | exact om_f8adf868c938 pq43 hz51 | omega)) kd54
                          have hr56 : ∀ k, Rc gT (Crun gs (Itypes gy gw 0 [] :: k)) (Crun (nx s1 1) (Imore gy gw (y2.toInt.toNat + 1) (fx23 :: sn) :: k)) := fun k => Rc.go1 (hq k) (ty_y h24 nn53 (by omega))
                          have fz57 := RelM.rg rl55
                          have pq58 : (V52 0 8).toInt = ((V39 0 8)).toInt := congrArg Int32.toInt (up2_k hV52 (by decide))
                          have pq59 : (V52 0 7).toInt = z51.toInt := congrArg Int32.toInt (up2_s hV52)
                          refine lv_aload_n hx hb dX12_takeTypes_100 rfl (lv_at hl 4 rfl) ?_
                          refine va_get (D := D) (ci := 12) (v := .int (V52 0 8)) (C := RX12) (T := TX12) (N := 100) hx hb hg inX12 hown hK hP 0 rfl rfl 8 (by decide) (hg _ w1714) (fun _ h9 => h9) rfl dX12_takeTypes_101 ?_
                          refine g_top (v := (V39 0 8)) (up2_k hV52 (by decide)) ?_
                          refine lv_if_ne (tgt := 184) hx hb dX12_takeTypes_104 (by decide) (fun c60 => ?_) (fun c60 => ?_)
                          · skip
                            have f61 : ((V39 0 8)).toInt ≠ 0 := b_neq rfl (by decide) c60
                            exfalso; first | exact om_fb320d7600b7 r42.1 f48 f61 | first | omega | ((try (have i_xlp40_2 := Imp.go xlp40_2 (by omega))); (try (have i_xlp5_3 := Imp.go xlp5_3 (by omega))); (try (have i_xlp5_3 := Imp.go xlp5_3 (by omega))); (try (have i_xlp40_2 := Imp.go xlp40_2 (by omega))); omega)
                          · skip
                            have f62 : ((V39 0 8)).toInt = 0 := b_eq rfl (by decide) c60
                            refine lv_aload_n hx hb dX12_takeTypes_107 rfl (lv_at hl 4 rfl) ?_
                            refine va_get (D := D) (ci := 12) (v := .ref (ad 53)) (C := RX12) (T := TX12) (N := 100) hx hb hg inX12 hown hK hP 0 rfl rfl 53 (by decide) (hg _ w1759) (fun _ h9 => h9) rfl dX12_takeTypes_108 ?_
                            refine lv_iload_n hx hb dX12_takeTypes_111 rfl (lv_at hl 3 rfl) ?_
                            refine lv_iload hx hb dX12_takeTypes_112 (lv_at hl 1 rfl) ?_
                            refine va_iast (D := D) (i := y2) (x := z16) hx hb hK hP hD hS 41 40 rfl rfl (i_in (a := y2.toInt) rfl (by first | exact om_24404d21e4ca klp5_1.1 klp5_1.2 f50 | first | omega | ((try (have i_xlp40_2 := Imp.go xlp40_2 (by omega))); (try (have i_xlp5_3 := Imp.go xlp5_3 (by omega))); (try (have i_xlp5_3 := Imp.go xlp5_3 (by omega))); (try (have i_xlp40_2 := Imp.go xlp40_2 (by omega))); omega))) dX12_takeTypes_114 (fun H locs hP hD hS => ?_)
                            obtain ⟨V63, hV63⟩ : ∃ z, z = up2 V52 53 (Int32.toNatClampNeg y2) z16 := ⟨_, rfl⟩
                            have hP : va_P D vwCl (mw ad kk ks.1 V63 L) H := by rw [hV63]; exact hP
                            have hD : va_D A (mw ad kk ks.1 V63 L) := by rw [hV63]; exact hD
                            have hMV63 : rgd bM V63 := hMV52.put hV63 (show (-1) ≤ z16.toInt ∧ z16.toInt ≤ 23 from by first | exact om_b5ea211f5a81 rgz16.1 rgz16.2 | first | omega | ((try (have i_xlp40_2 := Imp.go xlp40_2 (by omega))); (try (have i_xlp5_3 := Imp.go xlp5_3 (by omega))); (try (have i_xlp5_3 := Imp.go xlp5_3 (by omega))); (try (have i_xlp40_2 := Imp.go xlp40_2 (by omega))); omega))
                            have agV63 : agr [(0, 7), (0, 8)] [15, 21, 53] V V63 := agV52.up hV63 rfl
                            obtain ⟨z65, ez65⟩ : ∃ y : Int32, y = y2 + 1 := ⟨_, rfl⟩
                            have hz65 : z65.toInt = y2.toInt + 1 := i_add ez65 rfl (by decide) (by (first | exact om_875f8b1f1696 klp5_1.1 klp5_1.2 f50 | omega))
                            refine lv_iinc (v := z65) (lv' := [(3, .int z65), (6, .int y38), (5, .int z16), (4, .int y1), (0, .ref (ad 0)), (1, .ref (ad 15)), (2, .int p1)]) hx hb dX12_takeTypes_115 hl (k := 3) rfl (by rw [ez65]; rfl) (by decide) rfl (fun ls hl => ?_)
                            have ls66 : LST V63 z65.toInt (fx23 :: sn) := LST.add (LST.ag lq (by rw [(up2_fo hV52 (by decide) : V52 53 = V39 53), (funext (fun q => ajV39 53 q rfl) : V39 53 = V32 53), (up2_fo hV32 (by decide) : V32 53 = V20 53), (funext (fun q => ajV20 53 q rfl) : V20 53 = V3 53)] : V52 53 = V3 53)) hV63 rfl (by omega) (by omega) (by omega)
                            refine lv_iconst (v := 0) hx hb dX12_takeTypes_118 (by decide) ?_
                            refine lv_istore (lv' := [(6, .int 0), (3, .int z65), (5, .int z16), (4, .int y1), (0, .ref (ad 0)), (1, .ref (ad 15)), (2, .int p1)]) hx hb dX12_takeTypes_119 hl (by decide) rfl (fun ls hl => ?_)
                            have lp69 : ∀ (fulp69 : Nat) (y67 : Int32) (V68 : Vf) (H : Heap) (locs : List Loc) (ls : Array Slot), 0 ≤ y67.toInt ∧ y67.toInt ≤ 24 → (UNx 15 go V V68 gs.1 y67.toInt (fx23 :: sn) sn) → (CNm V68 bq gs) → 24 - y67.toInt < (fulp69 : Int) → agr [] [15, 21] V63 V68 → rgd bM V68 → va_P D vwCl (mw ad kk ks.1 V68 L) H → va_D A (mw ad kk ks.1 V68 L) → va_S A s.heap H locs → lv_has ls 7 [(6, .int y67), (3, .int z65), (5, .int z16), (4, .int y1), (0, .ref (ad 0)), (1, .ref (ad 15)), (2, .int p1)] → W p l e r_s_takeTypesA15 s m ([.ref (ad 0), .ref (ad 15), .int p1] : List Value).toArray below meth c H locs 0 0 (MQ below (q_s_takeTypesA15 D ks ad kk V L p1 bq gn gT gs gl gy gw go A) ([.ref (ad 0), .ref (ad 15), .int p1] : List Value).toArray s 0 0 A) (F0 m 121 ls []) := by
                              (try clear fz57); (try clear kd54); (try clear fz41); (try clear fz36); (try clear rl35); (try clear fz29); (try clear ps28); (try clear fz9)
                              intro fulp69
                              induction fulp69 with
                              | zero =>
                                intro y67 V68 H locs ls klp69_0 xlp69_0 xlp69_1 hn ajV68 hMV68 hP hD hS hl
                                exfalso; (first | exact om_9386ef0df612 klp69_0.2 hn | omega)
                              | succ fulp69 ihlp69 =>
                                intro y67 V68 H locs ls klp69_0 xlp69_0 xlp69_1 hn ajV68 hMV68 hP hD hS hl
                                have agV68 : agr [(0, 7), (0, 8)] [15, 21, 53] V V68 := agV63.tr ajV68 (by decide) (by decide)
                                refine lv_iload hx hb dX12_takeTypes_121 (lv_at hl 0 rfl) ?_
                                refine lv_bipush (v := 24) hx hb dX12_takeTypes_123 (by decide) ?_
                                refine lv_icmp_ge (tgt := 184) hx hb dX12_takeTypes_125 (by decide) (fun c70 => ?_) (fun c70 => ?_)
                                · skip
                                  have f71 : 24 ≤ y67.toInt := b_le (by decide) rfl c70
                                  have un72 : UNm 15 go V V68 gs.1 (fx23 :: sn) := UNx.all xlp69_0 (by (first | exact om_69cd31f94d1d f71 | omega))
                                  refine lv_aload_n hx hb dX12_takeTypes_184 rfl (lv_at hl 4 rfl) ?_
                                  refine lv_bipush (v := 44) hx hb dX12_takeTypes_185 (by decide) ?_
                                  have rl73 : RelM V68 L bq gn gT (nx s1 1) gl := RelM.ag rl55 (show agr [] [15, 21, 53] V52 V68 from (agr.tr (agr.up agr.rf hV63 rfl) ajV68 (by decide) (by decide))) (by decide) (show agL [] L L from agL.rf) (by decide)
                                  have r74 : Int32.toInt 44 = 44 := by decide
                                  refine gA_int (gA_runV (As := [.int 44]) (rest := []) (ci := 12) (q0 := 0) hx hb hml hown hg hP hD hK hS hA hnw hgk (s_hasSignA l D ks H.size ad kk V68 L 44 (bq) (gn) (gT) ((nx s1 1)) (gl) hMV68 rl73 (sg_yes (j := 44) (by decide) (by decide) (by decide))) w2067 w2069 w94 w172 w2070 rfl rfl hdV_yX12_hasSign ⟨Nat.le_of_ble_eq_true rfl, Nat.le_of_ble_eq_true rfl⟩ rfl hl.1 rfl (Nat.le_of_ble_eq_true rfl) dX12_takeTypes_187 ⟨Nat.le_of_ble_eq_true rfl, Nat.le_of_ble_eq_true rfl⟩) hP hD hK hS hA (fun z75 u76 H locs w77 hP hD hK hS => ?_)
                                  obtain ⟨V79, L80⟩ := u76
                                  obtain ⟨hMV79, ajV79, axL80, rgz75, t78⟩ := w77
                                  have axL80 : L = L80 := Eq.symm axL80
                                  subst axL80
                                  have hP : va_P D vwCl (mw ad kk ks.1 V79 L) H := hP
                                  have hD : va_D A (mw ad kk ks.1 V79 L) := hD
                                  have hMV79 : rgd bM V79 := hMV79
                                  have ajV79 : agr [(0, 7)] [] V68 V79 := ajV79
                                  have agV79 : agr [(0, 7), (0, 8)] [15, 21, 53] V V79 := agV68.tr ajV79 (by decide) (by decide)
                                  have rgz75 : 0 ≤ z75.toInt ∧ z75.toInt ≤ 1 := rgz75
                                  have t78 : (z75.toInt = 1 ∧ (gT).1 (((nx s1 1)).1 0) = (Int32.toInt 44) ∧ RelM V79 L (bq) (gn) (gT) (nx ((nx s1 1)) 1) (gl)) ∨ (z75.toInt = 0 ∧ (gT).1 (((nx s1 1)).1 0) ≠ (Int32.toInt 44) ∧ RelM V79 L (bq) (gn) (gT) ((nx s1 1)) (gl)) := t78
                                  rcases t78 with ⟨q81, h82, rl83⟩ | ⟨q81, h82, rl83⟩
                                  · skip
                                    have kd84 : gT.1 ((nx s1 1).1 0) = 44 := h82.trans (by decide)
                                    have hr85 : ∀ k, Rc gT (Crun gs (Itypes gy gw 0 [] :: k)) (Crun (nx (nx s1 1) 1) (Itypes gy gw (y2.toInt.toNat + 1) (fx23 :: sn) :: k)) := fun k => Rc.go1 (hr56 k) (more_y gy gw (y2.toInt.toNat + 1) (fx23 :: sn) kd84)
                                    have ps86 : (nx (nx s1 1) 1).1 0 = (nx s1 1).1 0 + 1 := rfl
                                    have fz87 := RelM.rg rl83
                                    have pq88 : (V79 0 8).toInt = ((V39 0 8)).toInt := congrArg Int32.toInt ((ajV79 0 8 rfl).trans ((ajV68 0 8 rfl).trans ((up2_o hV63 (by decide)).trans (up2_k hV52 (by decide)))))
                                    refine lv_istore (lv' := [(4, .int z75), (6, .int y67), (3, .int z65), (5, .int z16), (0, .ref (ad 0)), (1, .ref (ad 15)), (2, .int p1)]) hx hb dX12_takeTypes_190 hl (by decide) rfl (fun ls hl => ?_)
                                    refine lv_goto (tgt := 5) hx hb dX12_takeTypes_192 (by decide) ?_
                                    have pq89 : (V79 0 12).toInt = ((V 0 12)).toInt := congrArg Int32.toInt ((ajV79 0 12 rfl).trans ((ajV68 0 12 rfl).trans ((up2_o hV63 (by decide)).trans ((up2_k hV52 (by decide)).trans ((ajV39 0 12 rfl).trans ((up2_k hV32 (by decide)).trans ((ajV20 0 12 rfl).trans (ajV3 0 12 rfl))))))))
                                    have cn90 : CNm V79 bq gs := CNm.ag xlp69_1 (show agr [(0, 7)] [] V68 V79 from (agr.tr agr.rf ajV79 (by decide) (by decide))) (by decide) keepC.rf
                                    exact ihlp5 (g4 - 1) z75 z65 V79 H locs ls (by first | exact om_eb7af9d60398 rgz75.1 rgz75.2 | first | omega | ((try (have i_xlp40_2 := Imp.go xlp40_2 (by omega))); (try (have i_xlp5_3 := Imp.go xlp5_3 (by omega))); (try (have i_xlp5_3 := Imp.go xlp5_3 (by omega))); (try (have i_xlp40_2 := Imp.go xlp40_2 (by omega))); omega)) (by first | exact om_6575912fbdd9 klp5_1.1 klp5_1.2 f50 hz65 | first | omega | ((try (have i_xlp40_2 := Imp.go xlp40_2 (by omega))); (try (have i_xlp5_3 := Imp.go xlp5_3 (by omega))); (try (have i_xlp5_3 := Imp.go xlp5_3 (by omega))); (try (have i_xlp40_2 := Imp.go xlp40_2 (by omega))); omega)) (Or.inl ⟨W0 rl83, (by omega), (nx (nx s1 1) 1), (fx23 :: sn), (by rw [show z65.toInt.toNat = (y2.toInt.toNat + 1) from by omega]; exact hr85), rl83, ⟨keepS.le (keepS.tr (keepS.tr (keepS.tr (keepS.rf : keepS gs 0 gs) kq) (keepS.n1 1)) (keepS.n1 1)) (by decide), (show keepL gs (nx (nx s1 1) 1) from fun j9 h9 => ((show ∀ j9, 5 ≤ j9 → (nx (nx s1 1) 1).2.1 j9 = (nx s1 1).2.1 j9 from fun _ _ => rfl) j9 h9).trans ((show keepL gs (nx s1 1) from fun j9 h9 => ((show ∀ j9, 5 ≤ j9 → (nx s1 1).2.1 j9 = s1.2.1 j9 from fun _ _ => rfl) j9 h9).trans ((show keepL gs s1 from fun j9 h9 => ((show ∀ j9, 5 ≤ j9 → s1.2.1 j9 = gs.2.1 j9 from ll9) j9 h9).trans ((show keepL gs gs from fun _ _ => rfl) j9 h9)) j9 h9)) j9 h9))⟩, LST.ag ls66 (by rw [(funext (fun q => ajV79 53 q rfl) : V79 53 = V68 53), (funext (fun q => ajV68 53 q rfl) : V68 53 = V63 53)] : V79 53 = V63 53), (UNm.ag un72 (by rw [(funext (fun q => ajV79 15 q rfl) : V79 15 = V68 15)] : V79 15 = V68 15)), cn90⟩) (show 0 ≤ (g4 - 1) from by first | exact om_63465e109454 klp5_1.2 f50 ((Imp.go xlp5_3 (f15))) | first | omega | ((try (have i_xlp40_2 := Imp.go xlp40_2 (by omega))); (try (have i_xlp5_3 := Imp.go xlp5_3 (by omega))); (try (have i_xlp5_3 := Imp.go xlp5_3 (by omega))); (try (have i_xlp40_2 := Imp.go xlp40_2 (by omega))); omega)) (show z65.toInt ≤ 6 from by first | exact om_1e1b103e2e8d klp5_1.2 f50 hz65 | first | omega | ((try (have i_xlp40_2 := Imp.go xlp40_2 (by omega))); (try (have i_xlp5_3 := Imp.go xlp5_3 (by omega))); (try (have i_xlp5_3 := Imp.go xlp5_3 (by omega))); (try (have i_xlp40_2 := Imp.go xlp40_2 (by omega))); omega)) (Imp.mk (fun hp => have hp : (V79 0 8).toInt = 0 := hp; (show 7 - z65.toInt < (g4 - 1) from by first | exact om_3b5c2a59e72f hz65 ((Imp.go xlp5_3 (f15))) | first | omega | ((try (have i_xlp40_2 := Imp.go xlp40_2 (by omega))); (try (have i_xlp5_3 := Imp.go xlp5_3 (by omega))); (try (have i_xlp5_3 := Imp.go xlp5_3 (by omega))); (try (have i_xlp40_2 := Imp.go xlp40_2 (by omega))); omega)))) (show (V79 0 12).toInt = (V 0 12).toInt from by first | exact om_570b691c1130 pq89 | first | omega | ((try (have i_xlp40_2 := Imp.go xlp40_2 (by omega))); (try (have i_xlp5_3 := Imp.go xlp5_3 (by omega))); (try (have i_xlp5_3 := Imp.go xlp5_3 (by omega))); (try (have i_xlp40_2 := Imp.go xlp40_2 (by omega))); omega)) (by first | omega | ((try (have i_xlp40_2 := Imp.go xlp40_2 (by omega))); (try (have i_xlp5_3 := Imp.go xlp5_3 (by omega))); (try (have i_xlp5_3 := Imp.go xlp5_3 (by omega))); (try (have i_xlp40_2 := Imp.go xlp40_2 (by omega))); omega)) (agr.tr (agr.tr (agr.up (agr.up (agr.tr (agr.up (agr.tr (agr.tr agr.rf ajV3 (by decide) (by decide)) ajV20 (by decide) (by decide)) hV32 rfl) ajV39 (by decide) (by decide)) hV52 rfl) hV63 rfl) ajV68 (by decide) (by decide)) ajV79 (by decide) (by decide)) hMV79 hP hD hS (lv_sub hl [0, 2, 4, 5, 6] rfl)
                                  · skip
                                    have kd91 : gT.1 ((nx s1 1).1 0) ≠ 44 := fun h9 => h82 (h9.trans (by decide))
                                    have fz92 := RelM.rg rl83
                                    have pq93 : (V79 0 8).toInt = ((V39 0 8)).toInt := congrArg Int32.toInt ((ajV79 0 8 rfl).trans ((ajV68 0 8 rfl).trans ((up2_o hV63 (by decide)).trans (up2_k hV52 (by decide)))))
                                    refine lv_istore (lv' := [(4, .int z75), (6, .int y67), (3, .int z65), (5, .int z16), (0, .ref (ad 0)), (1, .ref (ad 15)), (2, .int p1)]) hx hb dX12_takeTypes_190 hl (by decide) rfl (fun ls hl => ?_)
                                    refine lv_goto (tgt := 5) hx hb dX12_takeTypes_192 (by decide) ?_
                                    have pq94 : (V79 0 12).toInt = ((V 0 12)).toInt := congrArg Int32.toInt ((ajV79 0 12 rfl).trans ((ajV68 0 12 rfl).trans ((up2_o hV63 (by decide)).trans ((up2_k hV52 (by decide)).trans ((ajV39 0 12 rfl).trans ((up2_k hV32 (by decide)).trans ((ajV20 0 12 rfl).trans (ajV3 0 12 rfl))))))))
                                    have hr95 : ∀ k, Rc gT (Crun gs (Itypes gy gw 0 [] :: k)) (Crun (nx s1 1) (ItyD gy gw (fx23 :: sn) :: k)) := fun k => Rc.go1 (hr56 k) (more_n gy gw (y2.toInt.toNat + 1) (fx23 :: sn) kd91)
                                    have cn96 : CNm V79 bq gs := CNm.ag xlp69_1 (show agr [(0, 7)] [] V68 V79 from (agr.tr agr.rf ajV79 (by decide) (by decide))) (by decide) keepC.rf
                                    exact ihlp5 (g4 - 1) z75 z65 V79 H locs ls (by first | exact om_eb7af9d60398 rgz75.1 rgz75.2 | first | omega | ((try (have i_xlp40_2 := Imp.go xlp40_2 (by omega))); (try (have i_xlp5_3 := Imp.go xlp5_3 (by omega))); (try (have i_xlp5_3 := Imp.go xlp5_3 (by omega))); (try (have i_xlp40_2 := Imp.go xlp40_2 (by omega))); omega)) (by first | exact om_6575912fbdd9 klp5_1.1 klp5_1.2 f50 hz65 | first | omega | ((try (have i_xlp40_2 := Imp.go xlp40_2 (by omega))); (try (have i_xlp5_3 := Imp.go xlp5_3 (by omega))); (try (have i_xlp5_3 := Imp.go xlp5_3 (by omega))); (try (have i_xlp40_2 := Imp.go xlp40_2 (by omega))); omega)) (Or.inr (Or.inl ⟨W0 rl83, (by omega), (nx s1 1), (fx23 :: sn), hr95, rl83, ⟨keepS.le (keepS.tr (keepS.tr (keepS.rf : keepS gs 0 gs) kq) (keepS.n1 1)) (by decide), (show keepL gs (nx s1 1) from fun j9 h9 => ((show ∀ j9, 5 ≤ j9 → (nx s1 1).2.1 j9 = s1.2.1 j9 from fun _ _ => rfl) j9 h9).trans ((show keepL gs s1 from fun j9 h9 => ((show ∀ j9, 5 ≤ j9 → s1.2.1 j9 = gs.2.1 j9 from ll9) j9 h9).trans ((show keepL gs gs from fun _ _ => rfl) j9 h9)) j9 h9))⟩, (UNm.ag un72 (by rw [(funext (fun q => ajV79 15 q rfl) : V79 15 = V68 15)] : V79 15 = V68 15)), cn96⟩)) (show 0 ≤ (g4 - 1) from by first | exact om_63465e109454 klp5_1.2 f50 ((Imp.go xlp5_3 (f15))) | first | omega | ((try (have i_xlp40_2 := Imp.go xlp40_2 (by omega))); (try (have i_xlp5_3 := Imp.go xlp5_3 (by omega))); (try (have i_xlp5_3 := Imp.go xlp5_3 (by omega))); (try (have i_xlp40_2 := Imp.go xlp40_2 (by omega))); omega)) (show z65.toInt ≤ 6 from by first | exact om_1e1b103e2e8d klp5_1.2 f50 hz65 | first | omega | ((try (have i_xlp40_2 := Imp.go xlp40_2 (by omega))); (try (have i_xlp5_3 := Imp.go xlp5_3 (by omega))); (try (have i_xlp5_3 := Imp.go xlp5_3 (by omega))); (try (have i_xlp40_2 := Imp.go xlp40_2 (by omega))); omega)) (Imp.mk (fun hp => have hp : (V79 0 8).toInt = 0 := hp; (show 7 - z65.toInt < (g4 - 1) from by first | exact om_3b5c2a59e72f hz65 ((Imp.go xlp5_3 (f15))) | first | omega | ((try (have i_xlp40_2 := Imp.go xlp40_2 (by omega))); (try (have i_xlp5_3 := Imp.go xlp5_3 (by omega))); (try (have i_xlp5_3 := Imp.go xlp5_3 (by omega))); (try (have i_xlp40_2 := Imp.go xlp40_2 (by omega))); omega)))) (show (V79 0 12).toInt = (V 0 12).toInt from by first | exact om_570b691c1130 pq94 | first | omega | ((try (have i_xlp40_2 := Imp.go xlp40_2 (by omega))); (try (have i_xlp5_3 := Imp.go xlp5_3 (by omega))); (try (have i_xlp5_3 := Imp.go xlp5_3 (by omega))); (try (have i_xlp40_2 := Imp.go xlp40_2 (by omega))); omega)) (by first | omega | ((try (have i_xlp40_2 := Imp.go xlp40_2 (by omega))); (try (have i_xlp5_3 := Imp.go xlp5_3 (by omega))); (try (have i_xlp5_3 := Imp.go xlp5_3 (by omega))); (try (have i_xlp40_2 := Imp.go xlp40_2 (by omega))); omega)) (agr.tr (agr.tr (agr.up (agr.up (agr.tr (agr.up (agr.tr (agr.tr agr.rf ajV3 (by decide) (by decide)) ajV20 (by decide) (by decide)) hV32 rfl) ajV39 (by decide) (by decide)) hV52 rfl) hV63 rfl) ajV68 (by decide) (by decide)) ajV79 (by decide) (by decide)) hMV79 hP hD hS (lv_sub hl [0, 2, 4, 5, 6] rfl)
                                · skip
                                  have f97 : y67.toInt < 24 := b_nle (by decide) rfl c70
                                  refine lv_aload_n hx hb dX12_takeTypes_128 rfl (lv_at hl 5 rfl) ?_
                                  refine lv_bipush (v := 24) hx hb dX12_takeTypes_129 (by decide) ?_
                                  refine lv_iload_n hx hb dX12_takeTypes_131 rfl (lv_at hl 6 rfl) ?_
                                  refine lv_imul hx hb dX12_takeTypes_132 ?_
                                  refine lv_topi (fun z98 ez98 => ?_)
                                  have hz98 : z98.toInt = 24 * p1.toInt := i_mul ez98 (by decide) rfl (by (first | exact om_71c20f736ea3 rg_p1.2 pgo gfr | omega))
                                  refine lv_iload hx hb dX12_takeTypes_133 (lv_at hl 0 rfl) ?_
                                  refine lv_iadd hx hb dX12_takeTypes_135 ?_
                                  refine lv_topi (fun z99 ez99 => ?_)
                                  have hz99 : z99.toInt = z98.toInt + y67.toInt := i_add ez99 rfl rfl (by (first | exact om_ce4b95d991a9 rg_p1.2 pgo gfr klp69_0.1 f97 hz98 | omega))
                                  refine lv_aload_n hx hb dX12_takeTypes_136 rfl (lv_at hl 5 rfl) ?_
                                  refine lv_bipush (v := 24) hx hb dX12_takeTypes_137 (by decide) ?_
                                  refine lv_iload_n hx hb dX12_takeTypes_139 rfl (lv_at hl 6 rfl) ?_
                                  refine lv_imul hx hb dX12_takeTypes_140 ?_
                                  refine lv_topi (fun z100 ez100 => ?_)
                                  have hz100 : z100.toInt = 24 * p1.toInt := i_mul ez100 (by decide) rfl (by (first | exact om_71c20f736ea3 rg_p1.2 pgo gfr | omega))
                                  refine lv_iload hx hb dX12_takeTypes_141 (lv_at hl 0 rfl) ?_
                                  refine lv_iadd hx hb dX12_takeTypes_143 ?_
                                  refine lv_topi (fun z101 ez101 => ?_)
                                  have hz101 : z101.toInt = z100.toInt + y67.toInt := i_add ez101 rfl rfl (by (first | exact om_ce4b95d991a9 rg_p1.2 pgo gfr klp69_0.1 f97 hz100 | omega))
                                  refine va_zald (D := D) (i := z101) hx hb hK hP 8 7 rfl rfl (i_in (a := z101.toInt) rfl (by first | exact om_e21fd4bb223a rg_p1.1 rg_p1.2 klp69_0.1 f97 hz100 hz101 | first | omega | ((try (have i_xlp40_2 := Imp.go xlp40_2 (by omega))); (try (have i_xlp5_3 := Imp.go xlp5_3 (by omega))); (try (have i_xlp5_3 := Imp.go xlp5_3 (by omega))); (try (have i_xlp40_2 := Imp.go xlp40_2 (by omega))); omega))) dX12_takeTypes_144 ?_
                                  have r102 : 0 ≤ ((V68 15 (Int32.toNatClampNeg z101))).toInt ∧ ((V68 15 (Int32.toNatClampNeg z101))).toInt ≤ 1 := hMV68 15 (Int32.toNatClampNeg z101)
                                  refine lv_if_ne (tgt := 172) hx hb dX12_takeTypes_145 (by decide) (fun c103 => ?_) (fun c103 => ?_)
                                  · skip
                                    have f104 : ((V68 15 (Int32.toNatClampNeg z101))).toInt ≠ 0 := b_neq rfl (by decide) c103
                                    refine lv_iconst (v := 1) hx hb dX12_takeTypes_172 (by decide) ?_
                                    refine lv_goto (tgt := 177) hx hb dX12_takeTypes_173 (by decide) ?_
                                    refine va_zast (D := D) (i := z99) (x := 1) hx hb hK hP hD hS 8 7 rfl rfl (i_in (a := z99.toInt) rfl (by first | exact om_e21fd4bb223a rg_p1.1 rg_p1.2 klp69_0.1 f97 hz98 hz99 | first | omega | ((try (have i_xlp40_2 := Imp.go xlp40_2 (by omega))); (try (have i_xlp5_3 := Imp.go xlp5_3 (by omega))); (try (have i_xlp5_3 := Imp.go xlp5_3 (by omega))); (try (have i_xlp40_2 := Imp.go xlp40_2 (by omega))); omega))) dX12_takeTypes_177 (fun H locs hP hD hS => ?_)
                                    obtain ⟨V105, hV105⟩ : ∃ z, z = up2 V68 15 (Int32.toNatClampNeg z99) (vp_nar .boolean 1) := ⟨_, rfl⟩
                                    have hP : va_P D vwCl (mw ad kk ks.1 V105 L) H := by rw [hV105]; exact hP
                                    have hD : va_D A (mw ad kk ks.1 V105 L) := by rw [hV105]; exact hD
                                    have hMV105 : rgd bM V105 := hMV68.put hV105 (nar_b _)
                                    have agV105 : agr [(0, 7), (0, 8)] [15, 21, 53] V V105 := agV68.up hV105 rfl
                                    obtain ⟨z106, ez106⟩ : ∃ y : Int32, y = y67 + 1 := ⟨_, rfl⟩
                                    have hz106 : z106.toInt = y67.toInt + 1 := i_add ez106 rfl (by decide) (by (first | exact om_bc9106cf44c9 klp69_0.1 f97 | omega))
                                    refine lv_iinc (v := z106) (lv' := [(6, .int z106), (3, .int z65), (5, .int z16), (4, .int y1), (0, .ref (ad 0)), (1, .ref (ad 15)), (2, .int p1)]) hx hb dX12_takeTypes_178 hl (k := 0) rfl (by rw [ez106]; rfl) (by decide) rfl (fun ls hl => ?_)
                                    refine lv_goto (tgt := 121) hx hb dX12_takeTypes_181 (by decide) ?_
                                    have kc107 := i_clamp (x := y67) rfl (by (first | exact om_eafa9039069c klp69_0.1 | omega))
                                    have kp110 : (Int32.toNatClampNeg z99) = 24 * go + (Int32.toNatClampNeg y67) := by have h9 := i_clamp (x := z99) rfl (by (first | exact om_eca9e79ec4c2 pgo gfr klp69_0.1 hz98 hz99 | omega)); (first | exact om_b57d09e2e28e pgo hz98 hz99 kc107 h9 | omega)
                                    have kA108 : (V68 15 (Int32.toNatClampNeg z101)).toInt = (V68 15 (24 * go + (Int32.toNatClampNeg y67))).toInt := by rw [show Int32.toNatClampNeg z101 = 24 * go + (Int32.toNatClampNeg y67) from by have h9 := i_clamp (x := z101) rfl (by (first | exact om_eca9e79ec4c2 pgo gfr klp69_0.1 hz100 hz101 | omega)); omega]
                                    have r111 : 0 ≤ (V68 15 (24 * go + (Int32.toNatClampNeg y67))).toInt ∧ (V68 15 (24 * go + (Int32.toNatClampNeg y67))).toInt ≤ 1 := hMV68 15 _
                                    have r112 : 0 ≤ (V68 15 (24 * (24 * bq + fx23) + (Int32.toNatClampNeg y67))).toInt ∧ (V68 15 (24 * (24 * bq + fx23) + (Int32.toNatClampNeg y67))).toInt ≤ 1 := hMV68 15 _
                                    have nr113 : (vp_nar .boolean 1).toInt = 1 := by decide
                                    have lt9 : fx23 < (gs.2.1 0).length := by have h9 := look_lt h24; rw [((keepS.tr (keepS.rf : keepS gs 0 gs) kq)).2.2.1 0 (by decide)] at h9; exact h9
                                    have cn114 : CNm V105 bq gs := CNm.up xlp69_1 hV105 (fun q9 => by have h9 := i_clamp (x := z99) rfl (by (first | exact om_eca9e79ec4c2 pgo gfr klp69_0.1 hz98 hz99 | omega)); unfold rdm at q9; omega)
                                    exact ihlp69 z106 V105 H locs ls (by first | exact om_a5349b170263 klp69_0.1 f97 hz106 | first | omega | ((try (have i_xlp40_2 := Imp.go xlp40_2 (by omega))); (try (have i_xlp5_3 := Imp.go xlp5_3 (by omega))); (try (have i_xlp5_3 := Imp.go xlp5_3 (by omega))); (try (have i_xlp40_2 := Imp.go xlp40_2 (by omega))); omega)) (UNx.st (u := 24 * bq + fx23) (y := (Int32.toNatClampNeg y67)) xlp69_0 hV105 kp110 (by omega) (by omega) (by omega) (xlp69_1.2.2.1 fx23 lt9) (show ((vp_nar .boolean 1)).toInt = 1 ↔ _ from iff_of_true (by decide) (Or.inl (by omega)))) cn114 (by first | exact om_9592d9319ffa hn hz106 | first | omega | ((try (have i_xlp40_2 := Imp.go xlp40_2 (by omega))); (try (have i_xlp5_3 := Imp.go xlp5_3 (by omega))); (try (have i_xlp5_3 := Imp.go xlp5_3 (by omega))); (try (have i_xlp40_2 := Imp.go xlp40_2 (by omega))); omega)) (agr.up (agr.tr agr.rf ajV68 (by decide) (by decide)) hV105 rfl) hMV105 hP hD hS (lv_sub hl [0, 1, 2, 3, 4, 5, 6] rfl)
                                  · skip
                                    have f115 : ((V68 15 (Int32.toNatClampNeg z101))).toInt = 0 := b_eq rfl (by decide) c103
                                    refine lv_aload_n hx hb dX12_takeTypes_148 rfl (lv_at hl 4 rfl) ?_
                                    refine va_get (D := D) (ci := 12) (v := .ref (ad 15)) (C := RX12) (T := TX12) (N := 100) hx hb hg inX12 hown hK hP 0 rfl rfl 15 (by decide) (hg _ w1721) (fun _ h9 => h9) rfl dX12_takeTypes_149 ?_
                                    refine lv_bipush (v := 24) hx hb dX12_takeTypes_152 (by decide) ?_
                                    refine lv_bipush (v := 24) hx hb dX12_takeTypes_154 (by decide) ?_
                                    refine lv_aload_n hx hb dX12_takeTypes_156 rfl (lv_at hl 4 rfl) ?_
                                    refine va_get (D := D) (ci := 12) (v := .int (V68 0 12)) (C := RX12) (T := TX12) (N := 100) hx hb hg inX12 hown hK hP 0 rfl rfl 12 (by decide) (hg _ w1718) (fun _ h9 => h9) rfl dX12_takeTypes_157 ?_
                                    refine g_top (v := (V 0 12)) ((ajV68 0 12 rfl).trans ((up2_o hV63 (by decide)).trans ((up2_k hV52 (by decide)).trans ((ajV39 0 12 rfl).trans ((up2_k hV32 (by decide)).trans ((ajV20 0 12 rfl).trans (ajV3 0 12 rfl))))))) ?_
                                    refine lv_imul hx hb dX12_takeTypes_160 ?_
                                    refine lv_topi (fun z116 ez116 => ?_)
                                    have hz116 : z116.toInt = 24 * ((V 0 12)).toInt := i_mul ez116 (by decide) rfl (by (first | exact om_3f8aba7b6ce1 r8.1 r8.2 | omega))
                                    refine lv_iload hx hb dX12_takeTypes_161 (lv_at hl 2 rfl) ?_
                                    refine lv_iadd hx hb dX12_takeTypes_163 ?_
                                    refine lv_topi (fun z117 ez117 => ?_)
                                    have hz117 : z117.toInt = z116.toInt + z16.toInt := i_add ez117 rfl rfl (by (first | exact om_28492b8d939d r8.1 r8.2 rgz16.1 rgz16.2 hz116 | omega))
                                    refine lv_imul hx hb dX12_takeTypes_164 ?_
                                    refine lv_topi (fun z118 ez118 => ?_)
                                    have hz118 : z118.toInt = 24 * z117.toInt := i_mul ez118 (by decide) rfl (by (first | exact om_fc84c92ae077 r8.1 r8.2 rgz16.1 rgz16.2 hz116 hz117 | omega))
                                    refine lv_iload hx hb dX12_takeTypes_165 (lv_at hl 0 rfl) ?_
                                    refine lv_iadd hx hb dX12_takeTypes_167 ?_
                                    refine lv_topi (fun z119 ez119 => ?_)
                                    have hz119 : z119.toInt = z118.toInt + y67.toInt := i_add ez119 rfl rfl (by (first | exact om_44ef469b3d0d r8.1 r8.2 rgz16.1 rgz16.2 klp69_0.1 f97 hz116 hz117 hz118 | omega))
                                    refine va_zald (D := D) (i := z119) hx hb hK hP 8 7 rfl rfl (i_in (a := z119.toInt) rfl (by first | omega | ((try (have i_xlp40_2 := Imp.go xlp40_2 (by omega))); (try (have i_xlp5_3 := Imp.go xlp5_3 (by omega))); (try (have i_xlp5_3 := Imp.go xlp5_3 (by omega))); (try (have i_xlp40_2 := Imp.go xlp40_2 (by omega))); omega))) dX12_takeTypes_168 ?_
                                    have r120 : 0 ≤ ((V68 15 (Int32.toNatClampNeg z119))).toInt ∧ ((V68 15 (Int32.toNatClampNeg z119))).toInt ≤ 1 := hMV68 15 (Int32.toNatClampNeg z119)
                                    refine lv_if_eq (tgt := 176) hx hb dX12_takeTypes_169 (by decide) (fun c121 => ?_) (fun c121 => ?_)
                                    · skip
                                      have f122 : ((V68 15 (Int32.toNatClampNeg z119))).toInt = 0 := b_eq rfl (by decide) c121
                                      refine lv_iconst (v := 0) hx hb dX12_takeTypes_176 (by decide) ?_
                                      refine va_zast (D := D) (i := z99) (x := 0) hx hb hK hP hD hS 8 7 rfl rfl (i_in (a := z99.toInt) rfl (by first | exact om_e21fd4bb223a rg_p1.1 rg_p1.2 klp69_0.1 f97 hz98 hz99 | first | omega | ((try (have i_xlp40_2 := Imp.go xlp40_2 (by omega))); (try (have i_xlp5_3 := Imp.go xlp5_3 (by omega))); (try (have i_xlp5_3 := Imp.go xlp5_3 (by omega))); (try (have i_xlp40_2 := Imp.go xlp40_2 (by omega))); omega))) dX12_takeTypes_177 (fun H locs hP hD hS => ?_)
                                      obtain ⟨V123, hV123⟩ : ∃ z, z = up2 V68 15 (Int32.toNatClampNeg z99) (vp_nar .boolean 0) := ⟨_, rfl⟩
                                      have hP : va_P D vwCl (mw ad kk ks.1 V123 L) H := by rw [hV123]; exact hP
                                      have hD : va_D A (mw ad kk ks.1 V123 L) := by rw [hV123]; exact hD
                                      have hMV123 : rgd bM V123 := hMV68.put hV123 (nar_b _)
                                      have agV123 : agr [(0, 7), (0, 8)] [15, 21, 53] V V123 := agV68.up hV123 rfl
                                      obtain ⟨z124, ez124⟩ : ∃ y : Int32, y = y67 + 1 := ⟨_, rfl⟩
                                      have hz124 : z124.toInt = y67.toInt + 1 := i_add ez124 rfl (by decide) (by (first | exact om_bc9106cf44c9 klp69_0.1 f97 | omega))
                                      refine lv_iinc (v := z124) (lv' := [(6, .int z124), (3, .int z65), (5, .int z16), (4, .int y1), (0, .ref (ad 0)), (1, .ref (ad 15)), (2, .int p1)]) hx hb dX12_takeTypes_178 hl (k := 0) rfl (by rw [ez124]; rfl) (by decide) rfl (fun ls hl => ?_)
                                      refine lv_goto (tgt := 121) hx hb dX12_takeTypes_181 (by decide) ?_
                                      have kc125 := i_clamp (x := y67) rfl (by (first | exact om_eafa9039069c klp69_0.1 | omega))
                                      have kp128 : (Int32.toNatClampNeg z99) = 24 * go + (Int32.toNatClampNeg y67) := by have h9 := i_clamp (x := z99) rfl (by (first | exact om_eca9e79ec4c2 pgo gfr klp69_0.1 hz98 hz99 | omega)); (first | exact om_b57d09e2e28e pgo hz98 hz99 kc125 h9 | omega)
                                      have kA126 : (V68 15 (Int32.toNatClampNeg z101)).toInt = (V68 15 (24 * go + (Int32.toNatClampNeg y67))).toInt := by rw [show Int32.toNatClampNeg z101 = 24 * go + (Int32.toNatClampNeg y67) from by have h9 := i_clamp (x := z101) rfl (by (first | exact om_eca9e79ec4c2 pgo gfr klp69_0.1 hz100 hz101 | omega)); omega]
                                      have r129 : 0 ≤ (V68 15 (24 * go + (Int32.toNatClampNeg y67))).toInt ∧ (V68 15 (24 * go + (Int32.toNatClampNeg y67))).toInt ≤ 1 := hMV68 15 _
                                      have r130 : 0 ≤ (V68 15 (24 * (24 * bq + fx23) + (Int32.toNatClampNeg y67))).toInt ∧ (V68 15 (24 * (24 * bq + fx23) + (Int32.toNatClampNeg y67))).toInt ≤ 1 := hMV68 15 _
                                      have kB127 : (V68 15 (Int32.toNatClampNeg z119)).toInt = (V68 15 (24 * (24 * bq + fx23) + (Int32.toNatClampNeg y67))).toInt := by rw [show Int32.toNatClampNeg z119 = 24 * (24 * bq + fx23) + (Int32.toNatClampNeg y67) from by have h9 := i_clamp (x := z119) rfl (by omega); omega]
                                      have nr131 : (vp_nar .boolean 0).toInt = 0 := by decide
                                      have lt9 : fx23 < (gs.2.1 0).length := by have h9 := look_lt h24; rw [((keepS.tr (keepS.rf : keepS gs 0 gs) kq)).2.2.1 0 (by decide)] at h9; exact h9
                                      have cn132 : CNm V123 bq gs := CNm.up xlp69_1 hV123 (fun q9 => by have h9 := i_clamp (x := z99) rfl (by (first | exact om_eca9e79ec4c2 pgo gfr klp69_0.1 hz98 hz99 | omega)); unfold rdm at q9; omega)
                                      exact ihlp69 z124 V123 H locs ls (by first | exact om_a5349b170263 klp69_0.1 f97 hz124 | first | omega | ((try (have i_xlp40_2 := Imp.go xlp40_2 (by omega))); (try (have i_xlp5_3 := Imp.go xlp5_3 (by omega))); (try (have i_xlp5_3 := Imp.go xlp5_3 (by omega))); (try (have i_xlp40_2 := Imp.go xlp40_2 (by omega))); omega)) (UNx.st (u := 24 * bq + fx23) (y := (Int32.toNatClampNeg y67)) xlp69_0 hV123 kp128 (by omega) (by omega) (by omega) (xlp69_1.2.2.1 fx23 lt9) (show ((vp_nar .boolean 0)).toInt = 1 ↔ _ from iff_of_false (by decide) (fun h9 => h9.elim (fun h8 => by omega) (fun h8 => by omega)))) cn132 (by first | exact om_9592d9319ffa hn hz124 | first | omega | ((try (have i_xlp40_2 := Imp.go xlp40_2 (by omega))); (try (have i_xlp5_3 := Imp.go xlp5_3 (by omega))); (try (have i_xlp5_3 := Imp.go xlp5_3 (by omega))); (try (have i_xlp40_2 := Imp.go xlp40_2 (by omega))); omega)) (agr.up (agr.tr agr.rf ajV68 (by decide) (by decide)) hV123 rfl) hMV123 hP hD hS (lv_sub hl [0, 1, 2, 3, 4, 5, 6] rfl)
                                    · skip
                                      have f133 : ((V68 15 (Int32.toNatClampNeg z119))).toInt ≠ 0 := b_neq rfl (by decide) c121
                                      refine lv_iconst (v := 1) hx hb dX12_takeTypes_172 (by decide) ?_
                                      refine lv_goto (tgt := 177) hx hb dX12_takeTypes_173 (by decide) ?_
                                      refine va_zast (D := D) (i := z99) (x := 1) hx hb hK hP hD hS 8 7 rfl rfl (i_in (a := z99.toInt) rfl (by first | exact om_e21fd4bb223a rg_p1.1 rg_p1.2 klp69_0.1 f97 hz98 hz99 | first | omega | ((try (have i_xlp40_2 := Imp.go xlp40_2 (by omega))); (try (have i_xlp5_3 := Imp.go xlp5_3 (by omega))); (try (have i_xlp5_3 := Imp.go xlp5_3 (by omega))); (try (have i_xlp40_2 := Imp.go xlp40_2 (by omega))); omega))) dX12_takeTypes_177 (fun H locs hP hD hS => ?_)
                                      obtain ⟨V134, hV134⟩ : ∃ z, z = up2 V68 15 (Int32.toNatClampNeg z99) (vp_nar .boolean 1) := ⟨_, rfl⟩
                                      have hP : va_P D vwCl (mw ad kk ks.1 V134 L) H := by rw [hV134]; exact hP
                                      have hD : va_D A (mw ad kk ks.1 V134 L) := by rw [hV134]; exact hD
                                      have hMV134 : rgd bM V134 := hMV68.put hV134 (nar_b _)
                                      have agV134 : agr [(0, 7), (0, 8)] [15, 21, 53] V V134 := agV68.up hV134 rfl
                                      obtain ⟨z135, ez135⟩ : ∃ y : Int32, y = y67 + 1 := ⟨_, rfl⟩
                                      have hz135 : z135.toInt = y67.toInt + 1 := i_add ez135 rfl (by decide) (by (first | exact om_bc9106cf44c9 klp69_0.1 f97 | omega))
                                      refine lv_iinc (v := z135) (lv' := [(6, .int z135), (3, .int z65), (5, .int z16), (4, .int y1), (0, .ref (ad 0)), (1, .ref (ad 15)), (2, .int p1)]) hx hb dX12_takeTypes_178 hl (k := 0) rfl (by rw [ez135]; rfl) (by decide) rfl (fun ls hl => ?_)
                                      refine lv_goto (tgt := 121) hx hb dX12_takeTypes_181 (by decide) ?_
                                      have kc136 := i_clamp (x := y67) rfl (by (first | exact om_eafa9039069c klp69_0.1 | omega))
                                      have kp139 : (Int32.toNatClampNeg z99) = 24 * go + (Int32.toNatClampNeg y67) := by have h9 := i_clamp (x := z99) rfl (by (first | exact om_eca9e79ec4c2 pgo gfr klp69_0.1 hz98 hz99 | omega)); (first | exact om_b57d09e2e28e pgo hz98 hz99 kc136 h9 | omega)
                                      have kA137 : (V68 15 (Int32.toNatClampNeg z101)).toInt = (V68 15 (24 * go + (Int32.toNatClampNeg y67))).toInt := by rw [show Int32.toNatClampNeg z101 = 24 * go + (Int32.toNatClampNeg y67) from by have h9 := i_clamp (x := z101) rfl (by (first | exact om_eca9e79ec4c2 pgo gfr klp69_0.1 hz100 hz101 | omega)); omega]
                                      have r140 : 0 ≤ (V68 15 (24 * go + (Int32.toNatClampNeg y67))).toInt ∧ (V68 15 (24 * go + (Int32.toNatClampNeg y67))).toInt ≤ 1 := hMV68 15 _
                                      have r141 : 0 ≤ (V68 15 (24 * (24 * bq + fx23) + (Int32.toNatClampNeg y67))).toInt ∧ (V68 15 (24 * (24 * bq + fx23) + (Int32.toNatClampNeg y67))).toInt ≤ 1 := hMV68 15 _
                                      have kB138 : (V68 15 (Int32.toNatClampNeg z119)).toInt = (V68 15 (24 * (24 * bq + fx23) + (Int32.toNatClampNeg y67))).toInt := by rw [show Int32.toNatClampNeg z119 = 24 * (24 * bq + fx23) + (Int32.toNatClampNeg y67) from by have h9 := i_clamp (x := z119) rfl (by omega); omega]
                                      have nr142 : (vp_nar .boolean 1).toInt = 1 := by decide
                                      have lt9 : fx23 < (gs.2.1 0).length := by have h9 := look_lt h24; rw [((keepS.tr (keepS.rf : keepS gs 0 gs) kq)).2.2.1 0 (by decide)] at h9; exact h9
                                      have cn143 : CNm V134 bq gs := CNm.up xlp69_1 hV134 (fun q9 => by have h9 := i_clamp (x := z99) rfl (by (first | exact om_eca9e79ec4c2 pgo gfr klp69_0.1 hz98 hz99 | omega)); unfold rdm at q9; omega)
                                      exact ihlp69 z135 V134 H locs ls (by first | exact om_a5349b170263 klp69_0.1 f97 hz135 | first | omega | ((try (have i_xlp40_2 := Imp.go xlp40_2 (by omega))); (try (have i_xlp5_3 := Imp.go xlp5_3 (by omega))); (try (have i_xlp5_3 := Imp.go xlp5_3 (by omega))); (try (have i_xlp40_2 := Imp.go xlp40_2 (by omega))); omega)) (UNx.st (u := 24 * bq + fx23) (y := (Int32.toNatClampNeg y67)) xlp69_0 hV134 kp139 (by omega) (by omega) (by omega) (xlp69_1.2.2.1 fx23 lt9) (show ((vp_nar .boolean 1)).toInt = 1 ↔ _ from iff_of_true (by decide) (Or.inr (by omega)))) cn143 (by first | exact om_9592d9319ffa hn hz135 | first | omega | ((try (have i_xlp40_2 := Imp.go xlp40_2 (by omega))); (try (have i_xlp5_3 := Imp.go xlp5_3 (by omega))); (try (have i_xlp5_3 := Imp.go xlp5_3 (by omega))); (try (have i_xlp40_2 := Imp.go xlp40_2 (by omega))); omega)) (agr.up (agr.tr agr.rf ajV68 (by decide) (by decide)) hV134 rfl) hMV134 hP hD hS (lv_sub hl [0, 1, 2, 3, 4, 5, 6] rfl)
                            have r144 : Int32.toInt 0 = 0 := by decide
                            have cn145 : CNm V63 bq gs := CNm.ag cq (show agr [(0, 7), (0, 8)] [53] V3 V63 from (agr.up (agr.up (agr.tr (agr.up (agr.tr agr.rf ajV20 (by decide) (by decide)) hV32 rfl) ajV39 (by decide) (by decide)) hV52 rfl) hV63 rfl)) (by decide) keepC.rf
                            exact lp69 ((24 - (Int32.toInt 0) + 1 : Int).toNat) 0 V63 H locs ls (by decide) (UNx.z uq (by rw [(up2_fo hV63 (by decide) : V63 15 = V52 15), (up2_fo hV52 (by decide) : V52 15 = V39 15), (funext (fun q => ajV39 15 q rfl) : V39 15 = V32 15), (up2_fo hV32 (by decide) : V32 15 = V20 15), (funext (fun q => ajV20 15 q rfl) : V20 15 = V3 15)] : V63 15 = V3 15) (by decide)) cn145 (by first | exact om_817980d3aa47 | first | omega | ((try (have i_xlp40_2 := Imp.go xlp40_2 (by omega))); (try (have i_xlp5_3 := Imp.go xlp5_3 (by omega))); (try (have i_xlp5_3 := Imp.go xlp5_3 (by omega))); (try (have i_xlp40_2 := Imp.go xlp40_2 (by omega))); omega)) agr.rf hMV63 hP hD hS (lv_sub hl [0, 1, 2, 3, 4, 5, 6] rfl)
                        · skip
                          have f146 : y2.toInt = 6 := b_eq rfl (by decide) c49
                          refine lv_aload_n hx hb dX12_takeTypes_85 rfl (lv_at hl 4 rfl) ?_
                          refine lv_iconst (v := 5) hx hb dX12_takeTypes_86 (by decide) ?_
                          have r147 : Int32.toInt 5 = 5 := by decide
                          refine gA_void (gA_runV (As := [.int 5]) (rest := []) (ci := 12) (q0 := 0) hx hb hml hown hg hP hD hK hS hA hnw hgk (s_wrongA l D ks H.size ad kk V39 L 5 (bq) (gn) (gT) (s1) (gl) hMV39 (by decide) ri) w2035 w2037 w86 w172 w2038 rfl rfl hdV_yX12_wrong ⟨Nat.le_of_ble_eq_true rfl, Nat.le_of_ble_eq_true rfl⟩ rfl hl.1 rfl (Nat.le_of_ble_eq_true rfl) dX12_takeTypes_87 ⟨Nat.le_of_ble_eq_true rfl, Nat.le_of_ble_eq_true rfl⟩) hP hD hK hS hA (fun u149 H locs w150 hP hD hK hS => ?_)
                          obtain ⟨V153, L154⟩ := u149
                          obtain ⟨hMV153, ajV153, axL154, t151, t152⟩ := w150
                          have axL154 : L = L154 := Eq.symm axL154
                          subst axL154
                          have hP : va_P D vwCl (mw ad kk ks.1 V153 L) H := hP
                          have hD : va_D A (mw ad kk ks.1 V153 L) := hD
                          have hMV153 : rgd bM V153 := hMV153
                          have ajV153 : agr [(0, 8)] [] V39 V153 := ajV153
                          have agV153 : agr [(0, 7), (0, 8)] [15, 21, 53] V V153 := agV39.tr ajV153 (by decide) (by decide)
                          have t151 : 1 ≤ (V153 0 8).toInt := t151
                          have t152 : (V153 0 8).toInt = (Int32.toInt 5) + 16 * (gT).2.2 ((s1).1 0) := t152
                          have r155 : 0 ≤ ((V153 0 8)).toInt ∧ ((V153 0 8)).toInt ≤ 70000 := hMV153 0 8
                          have hb156 : ∀ k, Rc gT (Crun gs (Itypes gy gw 0 [] :: k)) (Cbad (V153 0 8).toInt) := fun k => Rc.go1 (hq k) ((ty_5 h24 (LST.no (LST.ag lq (by rw [(funext (fun q => ajV39 53 q rfl) : V39 53 = V32 53), (up2_fo hV32 (by decide) : V32 53 = V20 53), (funext (fun q => ajV20 53 q rfl) : V20 53 = V3 53)] : V39 53 = V3 53)) (fun k h9 => by rw [← hf26]; exact ni k (by omega))) (by omega)).trans (fl_eq rfl (show (V153 0 8).toInt = 5 + 16 * gT.2.2 (s1.1 0) from by omega)))
                          refine lv_aload_n hx hb dX12_takeTypes_90 rfl (lv_at hl 4 rfl) ?_
                          refine lv_dup hx hb dX12_takeTypes_91 rfl ?_
                          refine va_get (D := D) (ci := 12) (v := .int (V153 0 7)) (C := RX12) (T := TX12) (N := 100) hx hb hg inX12 hown hK hP 0 rfl rfl 7 (by decide) (hg _ w1713) (fun _ h9 => h9) rfl dX12_takeTypes_92 ?_
                          refine g_top (v := z31) ((ajV153 0 7 rfl).trans ((ajV39 0 7 rfl).trans (up2_s hV32))) ?_
                          refine lv_iconst (v := 1) hx hb dX12_takeTypes_95 (by decide) ?_
                          refine lv_iadd hx hb dX12_takeTypes_96 ?_
                          refine lv_topi (fun z157 ez157 => ?_)
                          have hz157 : z157.toInt = z31.toInt + 1 := i_add ez157 rfl (by decide) (by (first | exact om_37595bfb6665 rz34.1 rz34.2 | omega))
                          refine va_put (D := D) (ci := 12) (v := .int z157) (ty := tyX12 7) (C := RX12) (T := TX12) (N := 100) hx hb hg inX12 tyX12 tyX12_ok nmX12 hown hK hP hD hS 0 rfl rfl 7 (by decide) (hg _ w1713) (fun _ h9 => h9) rfl (tyX12_ok 7 (by decide)) rfl rfl (Nat.le_of_ble_eq_true rfl) dX12_takeTypes_97 (fun H locs hP hD hS => ?_)
                          obtain ⟨V158, hV158⟩ : ∃ z, z = up2 V153 0 7 z157 := ⟨_, rfl⟩
                          have hP : va_P D vwCl (mw ad kk ks.1 V158 L) H := by rw [hV158]; exact hP
                          have hD : va_D A (mw ad kk ks.1 V158 L) := by rw [hV158]; exact hD
                          have hMV158 : rgd bM V158 := hMV153.put hV158 (i_full _)
                          have agV158 : agr [(0, 7), (0, 8)] [15, 21, 53] V V158 := agV153.up hV158 rfl
                          refine lv_aload_n hx hb dX12_takeTypes_100 rfl (lv_at hl 4 rfl) ?_
                          refine va_get (D := D) (ci := 12) (v := .int (V158 0 8)) (C := RX12) (T := TX12) (N := 100) hx hb hg inX12 hown hK hP 0 rfl rfl 8 (by decide) (hg _ w1714) (fun _ h9 => h9) rfl dX12_takeTypes_101 ?_
                          refine g_top (v := (V153 0 8)) (up2_k hV158 (by decide)) ?_
                          refine lv_if_ne (tgt := 184) hx hb dX12_takeTypes_104 (by decide) (fun c159 => ?_) (fun c159 => ?_)
                          · skip
                            have f160 : ((V153 0 8)).toInt ≠ 0 := b_neq rfl (by decide) c159
                            refine lv_aload_n hx hb dX12_takeTypes_184 rfl (lv_at hl 4 rfl) ?_
                            refine lv_bipush (v := 44) hx hb dX12_takeTypes_185 (by decide) ?_
                            have r161 : Int32.toInt 44 = 44 := by decide
                            have pq162 : (V158 0 8).toInt = ((V153 0 8)).toInt := congrArg Int32.toInt (up2_k hV158 (by decide))
                            refine gA_int (gA_runV (As := [.int 44]) (rest := []) (ci := 12) (q0 := 0) hx hb hml hown hg hP hD hK hS hA hnw hgk (s_hasSignB l D ks H.size ad kk V158 L 44 hMV158 (show 1 ≤ (V158 0 8).toInt from by first | exact om_e3c391a03e81 t151 pq162 | first | omega | ((try (have i_xlp40_2 := Imp.go xlp40_2 (by omega))); (try (have i_xlp5_3 := Imp.go xlp5_3 (by omega))); (try (have i_xlp5_3 := Imp.go xlp5_3 (by omega))); (try (have i_xlp40_2 := Imp.go xlp40_2 (by omega))); omega))) w2067 w2069 w94 w172 w2070 rfl rfl hdV_yX12_hasSign ⟨Nat.le_of_ble_eq_true rfl, Nat.le_of_ble_eq_true rfl⟩ rfl hl.1 rfl (Nat.le_of_ble_eq_true rfl) dX12_takeTypes_187 ⟨Nat.le_of_ble_eq_true rfl, Nat.le_of_ble_eq_true rfl⟩) hP hD hK hS hA (fun z163 u164 H locs w165 hP hD hK hS => ?_)
                            obtain ⟨V167, L168⟩ := u164
                            obtain ⟨hMV167, ajV167, axL168, rgz163, t166⟩ := w165
                            have axL168 : L = L168 := Eq.symm axL168
                            subst axL168
                            have hP : va_P D vwCl (mw ad kk ks.1 V167 L) H := hP
                            have hD : va_D A (mw ad kk ks.1 V167 L) := hD
                            have hMV167 : rgd bM V167 := hMV167
                            have ajV167 : agr [(0, 7)] [] V158 V167 := ajV167
                            have agV167 : agr [(0, 7), (0, 8)] [15, 21, 53] V V167 := agV158.tr ajV167 (by decide) (by decide)
                            have rgz163 : 0 ≤ z163.toInt ∧ z163.toInt ≤ 0 := rgz163
                            have t166 : (V167 0 8).toInt = (V158 0 8).toInt := t166
                            have pq169 : (V167 0 8).toInt = ((V153 0 8)).toInt := congrArg Int32.toInt ((ajV167 0 8 rfl).trans (up2_k hV158 (by decide)))
                            refine lv_istore (lv' := [(4, .int z163), (6, .int y38), (5, .int z16), (3, .int y2), (0, .ref (ad 0)), (1, .ref (ad 15)), (2, .int p1)]) hx hb dX12_takeTypes_190 hl (by decide) rfl (fun ls hl => ?_)
                            refine lv_goto (tgt := 5) hx hb dX12_takeTypes_192 (by decide) ?_
                            have pq170 : (V167 0 12).toInt = ((V 0 12)).toInt := congrArg Int32.toInt ((ajV167 0 12 rfl).trans ((up2_k hV158 (by decide)).trans ((ajV153 0 12 rfl).trans ((ajV39 0 12 rfl).trans ((up2_k hV32 (by decide)).trans ((ajV20 0 12 rfl).trans (ajV3 0 12 rfl)))))))
                            exact ihlp5 (g4 - 1) z163 y2 V167 H locs ls (by first | exact om_641b3f05f166 rgz163.1 rgz163.2 | first | omega | ((try (have i_xlp40_2 := Imp.go xlp40_2 (by omega))); (try (have i_xlp5_3 := Imp.go xlp5_3 (by omega))); (try (have i_xlp5_3 := Imp.go xlp5_3 (by omega))); (try (have i_xlp40_2 := Imp.go xlp40_2 (by omega))); omega)) (by first | exact om_bcf072f18d8c klp5_1.2 f146 | first | omega | ((try (have i_xlp40_2 := Imp.go xlp40_2 (by omega))); (try (have i_xlp5_3 := Imp.go xlp5_3 (by omega))); (try (have i_xlp5_3 := Imp.go xlp5_3 (by omega))); (try (have i_xlp40_2 := Imp.go xlp40_2 (by omega))); omega)) (Or.inr (Or.inr ⟨(show 1 ≤ (V167 0 8).toInt from by (first | exact om_2487ca371d8b t151 pq162 t166 | omega)), (fun k => by rw [show (V167 0 8).toInt = (V153 0 8).toInt from by omega]; exact hb156 k)⟩)) (show 0 ≤ (g4 - 1) from by first | exact om_76a34b28fb8f klp5_1.2 ((Imp.go xlp5_3 (f15))) | first | omega | ((try (have i_xlp40_2 := Imp.go xlp40_2 (by omega))); (try (have i_xlp5_3 := Imp.go xlp5_3 (by omega))); (try (have i_xlp5_3 := Imp.go xlp5_3 (by omega))); (try (have i_xlp40_2 := Imp.go xlp40_2 (by omega))); omega)) (show y2.toInt ≤ 6 from by first | exact om_1cd470348f7c klp5_1.2 | first | omega | ((try (have i_xlp40_2 := Imp.go xlp40_2 (by omega))); (try (have i_xlp5_3 := Imp.go xlp5_3 (by omega))); (try (have i_xlp5_3 := Imp.go xlp5_3 (by omega))); (try (have i_xlp40_2 := Imp.go xlp40_2 (by omega))); omega)) (Imp.mk (fun hp => have hp : (V167 0 8).toInt = 0 := hp; (show 7 - y2.toInt < (g4 - 1) from by first | omega | ((try (have i_xlp40_2 := Imp.go xlp40_2 (by omega))); (try (have i_xlp5_3 := Imp.go xlp5_3 (by omega))); (try (have i_xlp5_3 := Imp.go xlp5_3 (by omega))); (try (have i_xlp40_2 := Imp.go xlp40_2 (by omega))); omega)))) (show (V167 0 12).toInt = (V 0 12).toInt from by first | exact om_570b691c1130 pq170 | first | omega | ((try (have i_xlp40_2 := Imp.go xlp40_2 (by omega))); (try (have i_xlp5_3 := Imp.go xlp5_3 (by omega))); (try (have i_xlp5_3 := Imp.go xlp5_3 (by omega))); (try (have i_xlp40_2 := Imp.go xlp40_2 (by omega))); omega)) (by first | omega | ((try (have i_xlp40_2 := Imp.go xlp40_2 (by omega))); (try (have i_xlp5_3 := Imp.go xlp5_3 (by omega))); (try (have i_xlp5_3 := Imp.go xlp5_3 (by omega))); (try (have i_xlp40_2 := Imp.go xlp40_2 (by omega))); omega)) (agr.tr (agr.up (agr.tr (agr.tr (agr.up (agr.tr (agr.tr agr.rf ajV3 (by decide) (by decide)) ajV20 (by decide) (by decide)) hV32 rfl) ajV39 (by decide) (by decide)) ajV153 (by decide) (by decide)) hV158 rfl) ajV167 (by decide) (by decide)) hMV167 hP hD hS (lv_sub hl [0, 3, 4, 5, 6] rfl)
                          · skip
                            have f171 : ((V153 0 8)).toInt = 0 := b_eq rfl (by decide) c159
                            exfalso; first | exact om_09885ab343b9 t151 f171 | first | omega | ((try (have i_xlp40_2 := Imp.go xlp40_2 (by omega))); (try (have i_xlp5_3 := Imp.go xlp5_3 (by omega))); (try (have i_xlp5_3 := Imp.go xlp5_3 (by omega))); (try (have i_xlp40_2 := Imp.go xlp40_2 (by omega))); omega)
                    · skip
                      have f172 : y38.toInt < y2.toInt := b_nle rfl rfl c44
                      refine lv_aload_n hx hb dX12_takeTypes_42 rfl (lv_at hl 4 rfl) ?_
                      refine va_get (D := D) (ci := 12) (v := .int (V39 0 8)) (C := RX12) (T := TX12) (N := 100) hx hb hg inX12 hown hK hP 0 rfl rfl 8 (by decide) (hg _ w1714) (fun _ h9 => h9) rfl dX12_takeTypes_43 ?_
                      refine lv_if_ne (tgt := 72) hx hb dX12_takeTypes_46 (by decide) (fun c173 => ?_) (fun c173 => ?_)
                      · skip
                        have f174 : ((V39 0 8)).toInt ≠ 0 := b_neq rfl (by decide) c173
                        exfalso; first | exact om_0b51723c7ef6 f7 f174 | first | omega | ((try (have i_xlp40_2 := Imp.go xlp40_2 (by omega))); (try (have i_xlp5_3 := Imp.go xlp5_3 (by omega))); (try (have i_xlp5_3 := Imp.go xlp5_3 (by omega))); (try (have i_xlp40_2 := Imp.go xlp40_2 (by omega))); omega)
                      · skip
                        have f175 : ((V39 0 8)).toInt = 0 := b_eq rfl (by decide) c173
                        refine lv_aload_n hx hb dX12_takeTypes_49 rfl (lv_at hl 4 rfl) ?_
                        refine va_get (D := D) (ci := 12) (v := .ref (ad 53)) (C := RX12) (T := TX12) (N := 100) hx hb hg inX12 hown hK hP 0 rfl rfl 53 (by decide) (hg _ w1759) (fun _ h9 => h9) rfl dX12_takeTypes_50 ?_
                        refine lv_iload hx hb dX12_takeTypes_53 (lv_at hl 0 rfl) ?_
                        refine va_iald (D := D) (i := y38) hx hb hK hP 41 40 rfl rfl (i_in (a := y38.toInt) rfl (by first | exact om_d031f10f3d19 klp5_1.2 klp40_0.1 f172 | first | omega | ((try (have i_xlp40_2 := Imp.go xlp40_2 (by omega))); (try (have i_xlp5_3 := Imp.go xlp5_3 (by omega))); (try (have i_xlp5_3 := Imp.go xlp5_3 (by omega))); (try (have i_xlp40_2 := Imp.go xlp40_2 (by omega))); omega))) dX12_takeTypes_55 ?_
                        refine g_top (v := (V3 53 (Int32.toNatClampNeg y38))) ((ajV39 53 (Int32.toNatClampNeg y38) rfl).trans ((up2_o hV32 (by decide)).trans (ajV20 53 (Int32.toNatClampNeg y38) rfl))) ?_
                        have r176 : (-1) ≤ ((V3 53 (Int32.toNatClampNeg y38))).toInt ∧ ((V3 53 (Int32.toNatClampNeg y38))).toInt ≤ 23 := hMV3 53 (Int32.toNatClampNeg y38)
                        refine lv_iload hx hb dX12_takeTypes_56 (lv_at hl 1 rfl) ?_
                        refine lv_icmp_ne (tgt := 66) hx hb dX12_takeTypes_58 (by decide) (fun c177 => ?_) (fun c177 => ?_)
                        · skip
                          have f178 : ((V3 53 (Int32.toNatClampNeg y38))).toInt ≠ z16.toInt := b_neq rfl rfl c177
                          obtain ⟨z179, ez179⟩ : ∃ y : Int32, y = y38 + 1 := ⟨_, rfl⟩
                          have hz179 : z179.toInt = y38.toInt + 1 := i_add ez179 rfl (by decide) (by (first | exact om_65d898249a5b klp5_1.2 klp40_0.1 f172 | omega))
                          refine lv_iinc (v := z179) (lv' := [(6, .int z179), (5, .int z16), (4, .int y1), (3, .int y2), (0, .ref (ad 0)), (1, .ref (ad 15)), (2, .int p1)]) hx hb dX12_takeTypes_66 hl (k := 0) rfl (by rw [ez179]; rfl) (by decide) rfl (fun ls hl => ?_)
                          refine lv_goto (tgt := 36) hx hb dX12_takeTypes_69 (by decide) ?_
                          have kc180 := i_clamp (x := y38) rfl (by (first | exact om_eafa9039069c klp40_0.1 | omega))
                          have pq181 : (V39 53 (Int32.toNatClampNeg y38)).toInt = ((V3 53 (Int32.toNatClampNeg y38))).toInt := congrArg Int32.toInt ((ajV39 53 (Int32.toNatClampNeg y38) rfl).trans ((up2_o hV32 (by decide)).trans (ajV20 53 (Int32.toNatClampNeg y38) rfl)))
                          exact ihlp40 z179 V39 H locs ls (by first | exact om_d043005af2aa klp5_1.2 klp40_0.1 f172 hz179 | first | omega | ((try (have i_xlp40_2 := Imp.go xlp40_2 (by omega))); (try (have i_xlp5_3 := Imp.go xlp5_3 (by omega))); (try (have i_xlp5_3 := Imp.go xlp5_3 (by omega))); (try (have i_xlp40_2 := Imp.go xlp40_2 (by omega))); omega)) (Or.inl ⟨W0 ri, ri, fun k h9 => by by_cases c9 : (k : Int) < y38.toInt; exact ni k c9; have ek : k = Int32.toNatClampNeg y38 := (by omega); rw [ek]; omega⟩) (show z179.toInt ≤ y2.toInt from by first | exact om_7fe9249fc074 f172 hz179 | first | omega | ((try (have i_xlp40_2 := Imp.go xlp40_2 (by omega))); (try (have i_xlp5_3 := Imp.go xlp5_3 (by omega))); (try (have i_xlp5_3 := Imp.go xlp5_3 (by omega))); (try (have i_xlp40_2 := Imp.go xlp40_2 (by omega))); omega)) (Imp.mk (fun hp => have hp : 1 ≤ (V32 0 8).toInt := hp; (show (V39 0 8).toInt = (V32 0 8).toInt from by first | omega | ((try (have i_xlp40_2 := Imp.go xlp40_2 (by omega))); (try (have i_xlp5_3 := Imp.go xlp5_3 (by omega))); (try (have i_xlp5_3 := Imp.go xlp5_3 (by omega))); (try (have i_xlp40_2 := Imp.go xlp40_2 (by omega))); omega)))) (by first | exact om_9e7d2b874257 hn hz179 | first | omega | ((try (have i_xlp40_2 := Imp.go xlp40_2 (by omega))); (try (have i_xlp5_3 := Imp.go xlp5_3 (by omega))); (try (have i_xlp5_3 := Imp.go xlp5_3 (by omega))); (try (have i_xlp40_2 := Imp.go xlp40_2 (by omega))); omega)) (agr.tr agr.rf ajV39 (by decide) (by decide)) hMV39 hP hD hS (lv_sub hl [0, 1, 2, 3, 4, 5, 6] rfl)
                        · skip
                          have f182 : ((V3 53 (Int32.toNatClampNeg y38))).toInt = z16.toInt := b_eq rfl rfl c177
                          refine lv_aload_n hx hb dX12_takeTypes_61 rfl (lv_at hl 4 rfl) ?_
                          refine lv_iconst (v := 3) hx hb dX12_takeTypes_62 (by decide) ?_
                          have r183 : Int32.toInt 3 = 3 := by decide
                          refine gA_void (gA_runV (As := [.int 3]) (rest := []) (ci := 12) (q0 := 0) hx hb hml hown hg hP hD hK hS hA hnw hgk (s_wrongA l D ks H.size ad kk V39 L 3 (bq) (gn) (gT) (s1) (gl) hMV39 (by decide) ri) w2035 w2037 w86 w172 w2038 rfl rfl hdV_yX12_wrong ⟨Nat.le_of_ble_eq_true rfl, Nat.le_of_ble_eq_true rfl⟩ rfl hl.1 rfl (Nat.le_of_ble_eq_true rfl) dX12_takeTypes_63 ⟨Nat.le_of_ble_eq_true rfl, Nat.le_of_ble_eq_true rfl⟩) hP hD hK hS hA (fun u185 H locs w186 hP hD hK hS => ?_)
                          obtain ⟨V189, L190⟩ := u185
                          obtain ⟨hMV189, ajV189, axL190, t187, t188⟩ := w186
                          have axL190 : L = L190 := Eq.symm axL190
                          subst axL190
                          have hP : va_P D vwCl (mw ad kk ks.1 V189 L) H := hP
                          have hD : va_D A (mw ad kk ks.1 V189 L) := hD
                          have hMV189 : rgd bM V189 := hMV189
                          have ajV189 : agr [(0, 8)] [] V39 V189 := ajV189
                          have agV189 : agr [(0, 7), (0, 8)] [15, 21, 53] V V189 := agV39.tr ajV189 (by decide) (by decide)
                          have t187 : 1 ≤ (V189 0 8).toInt := t187
                          have t188 : (V189 0 8).toInt = (Int32.toInt 3) + 16 * (gT).2.2 ((s1).1 0) := t188
                          have r191 : 0 ≤ ((V189 0 8)).toInt ∧ ((V189 0 8)).toInt ≤ 70000 := hMV189 0 8
                          have kc192 := i_clamp (x := y38) rfl (by (first | exact om_eafa9039069c klp40_0.1 | omega))
                          have hb193 : ∀ k, Rc gT (Crun gs (Itypes gy gw 0 [] :: k)) (Cbad (V189 0 8).toInt) := fun k => Rc.go1 (hq k) ((ty_3 h24 ((lq fx23).mpr ⟨Int32.toNatClampNeg y38, by omega, by omega⟩)).trans (fl_eq rfl (show (V189 0 8).toInt = 3 + 16 * gT.2.2 (s1.1 0) from by omega)))
                          obtain ⟨z194, ez194⟩ : ∃ y : Int32, y = y38 + 1 := ⟨_, rfl⟩
                          have hz194 : z194.toInt = y38.toInt + 1 := i_add ez194 rfl (by decide) (by (first | exact om_65d898249a5b klp5_1.2 klp40_0.1 f172 | omega))
                          refine lv_iinc (v := z194) (lv' := [(6, .int z194), (5, .int z16), (4, .int y1), (3, .int y2), (0, .ref (ad 0)), (1, .ref (ad 15)), (2, .int p1)]) hx hb dX12_takeTypes_66 hl (k := 0) rfl (by rw [ez194]; rfl) (by decide) rfl (fun ls hl => ?_)
                          refine lv_goto (tgt := 36) hx hb dX12_takeTypes_69 (by decide) ?_
                          exact ihlp40 z194 V189 H locs ls (by first | exact om_d043005af2aa klp5_1.2 klp40_0.1 f172 hz194 | first | omega | ((try (have i_xlp40_2 := Imp.go xlp40_2 (by omega))); (try (have i_xlp5_3 := Imp.go xlp5_3 (by omega))); (try (have i_xlp5_3 := Imp.go xlp5_3 (by omega))); (try (have i_xlp40_2 := Imp.go xlp40_2 (by omega))); omega)) (Or.inr ⟨(show 1 ≤ (V189 0 8).toInt from by (first | exact om_f8d8213eda45 t187 | omega)), hb193⟩) (show z194.toInt ≤ y2.toInt from by first | exact om_7fe9249fc074 f172 hz194 | first | omega | ((try (have i_xlp40_2 := Imp.go xlp40_2 (by omega))); (try (have i_xlp5_3 := Imp.go xlp5_3 (by omega))); (try (have i_xlp5_3 := Imp.go xlp5_3 (by omega))); (try (have i_xlp40_2 := Imp.go xlp40_2 (by omega))); omega)) (Imp.mk (fun hp => have hp : 1 ≤ (V32 0 8).toInt := hp; (show (V189 0 8).toInt = (V32 0 8).toInt from by first | omega | ((try (have i_xlp40_2 := Imp.go xlp40_2 (by omega))); (try (have i_xlp5_3 := Imp.go xlp5_3 (by omega))); (try (have i_xlp5_3 := Imp.go xlp5_3 (by omega))); (try (have i_xlp40_2 := Imp.go xlp40_2 (by omega))); omega)))) (by first | exact om_9e7d2b874257 hn hz194 | first | omega | ((try (have i_xlp40_2 := Imp.go xlp40_2 (by omega))); (try (have i_xlp5_3 := Imp.go xlp5_3 (by omega))); (try (have i_xlp5_3 := Imp.go xlp5_3 (by omega))); (try (have i_xlp40_2 := Imp.go xlp40_2 (by omega))); omega)) (agr.tr (agr.tr agr.rf ajV39 (by decide) (by decide)) ajV189 (by decide) (by decide)) hMV189 hP hD hS (lv_sub hl [0, 1, 2, 3, 4, 5, 6] rfl)
                  · skip
                    have r195 : 0 ≤ ((V39 0 8)).toInt ∧ ((V39 0 8)).toInt ≤ 70000 := hMV39 0 8
                    refine lv_iload_n hx hb dX12_takeTypes_38 rfl (lv_at hl 3 rfl) ?_
                    refine lv_icmp_ge (tgt := 72) hx hb dX12_takeTypes_39 (by decide) (fun c196 => ?_) (fun c196 => ?_)
                    · skip
                      have f197 : y2.toInt ≤ y38.toInt := b_le rfl rfl c196
                      refine lv_aload_n hx hb dX12_takeTypes_72 rfl (lv_at hl 4 rfl) ?_
                      refine va_get (D := D) (ci := 12) (v := .int (V39 0 8)) (C := RX12) (T := TX12) (N := 100) hx hb hg inX12 hown hK hP 0 rfl rfl 8 (by decide) (hg _ w1714) (fun _ h9 => h9) rfl dX12_takeTypes_73 ?_
                      refine lv_if_ne (tgt := 90) hx hb dX12_takeTypes_76 (by decide) (fun c198 => ?_) (fun c198 => ?_)
                      · skip
                        have f199 : ((V39 0 8)).toInt ≠ 0 := b_neq rfl (by decide) c198
                        refine lv_aload_n hx hb dX12_takeTypes_90 rfl (lv_at hl 4 rfl) ?_
                        refine lv_dup hx hb dX12_takeTypes_91 rfl ?_
                        refine va_get (D := D) (ci := 12) (v := .int (V39 0 7)) (C := RX12) (T := TX12) (N := 100) hx hb hg inX12 hown hK hP 0 rfl rfl 7 (by decide) (hg _ w1713) (fun _ h9 => h9) rfl dX12_takeTypes_92 ?_
                        refine g_top (v := z31) ((ajV39 0 7 rfl).trans (up2_s hV32)) ?_
                        refine lv_iconst (v := 1) hx hb dX12_takeTypes_95 (by decide) ?_
                        refine lv_iadd hx hb dX12_takeTypes_96 ?_
                        refine lv_topi (fun z200 ez200 => ?_)
                        have hz200 : z200.toInt = z31.toInt + 1 := i_add ez200 rfl (by decide) (by (first | exact om_37595bfb6665 rz34.1 rz34.2 | omega))
                        refine va_put (D := D) (ci := 12) (v := .int z200) (ty := tyX12 7) (C := RX12) (T := TX12) (N := 100) hx hb hg inX12 tyX12 tyX12_ok nmX12 hown hK hP hD hS 0 rfl rfl 7 (by decide) (hg _ w1713) (fun _ h9 => h9) rfl (tyX12_ok 7 (by decide)) rfl rfl (Nat.le_of_ble_eq_true rfl) dX12_takeTypes_97 (fun H locs hP hD hS => ?_)
                        obtain ⟨V201, hV201⟩ : ∃ z, z = up2 V39 0 7 z200 := ⟨_, rfl⟩
                        have hP : va_P D vwCl (mw ad kk ks.1 V201 L) H := by rw [hV201]; exact hP
                        have hD : va_D A (mw ad kk ks.1 V201 L) := by rw [hV201]; exact hD
                        have hMV201 : rgd bM V201 := hMV39.put hV201 (i_full _)
                        have agV201 : agr [(0, 7), (0, 8)] [15, 21, 53] V V201 := agV39.up hV201 rfl
                        refine lv_aload_n hx hb dX12_takeTypes_100 rfl (lv_at hl 4 rfl) ?_
                        refine va_get (D := D) (ci := 12) (v := .int (V201 0 8)) (C := RX12) (T := TX12) (N := 100) hx hb hg inX12 hown hK hP 0 rfl rfl 8 (by decide) (hg _ w1714) (fun _ h9 => h9) rfl dX12_takeTypes_101 ?_
                        refine g_top (v := (V39 0 8)) (up2_k hV201 (by decide)) ?_
                        refine lv_if_ne (tgt := 184) hx hb dX12_takeTypes_104 (by decide) (fun c202 => ?_) (fun c202 => ?_)
                        · skip
                          have f203 : ((V39 0 8)).toInt ≠ 0 := b_neq rfl (by decide) c202
                          refine lv_aload_n hx hb dX12_takeTypes_184 rfl (lv_at hl 4 rfl) ?_
                          refine lv_bipush (v := 44) hx hb dX12_takeTypes_185 (by decide) ?_
                          have r204 : Int32.toInt 44 = 44 := by decide
                          have pq205 : (V201 0 8).toInt = ((V39 0 8)).toInt := congrArg Int32.toInt (up2_k hV201 (by decide))
                          refine gA_int (gA_runV (As := [.int 44]) (rest := []) (ci := 12) (q0 := 0) hx hb hml hown hg hP hD hK hS hA hnw hgk (s_hasSignB l D ks H.size ad kk V201 L 44 hMV201 (show 1 ≤ (V201 0 8).toInt from by first | exact om_1499017b39b7 r195.1 f199 pq205 | first | omega | ((try (have i_xlp40_2 := Imp.go xlp40_2 (by omega))); (try (have i_xlp5_3 := Imp.go xlp5_3 (by omega))); (try (have i_xlp5_3 := Imp.go xlp5_3 (by omega))); (try (have i_xlp40_2 := Imp.go xlp40_2 (by omega))); omega))) w2067 w2069 w94 w172 w2070 rfl rfl hdV_yX12_hasSign ⟨Nat.le_of_ble_eq_true rfl, Nat.le_of_ble_eq_true rfl⟩ rfl hl.1 rfl (Nat.le_of_ble_eq_true rfl) dX12_takeTypes_187 ⟨Nat.le_of_ble_eq_true rfl, Nat.le_of_ble_eq_true rfl⟩) hP hD hK hS hA (fun z206 u207 H locs w208 hP hD hK hS => ?_)
                          obtain ⟨V210, L211⟩ := u207
                          obtain ⟨hMV210, ajV210, axL211, rgz206, t209⟩ := w208
                          have axL211 : L = L211 := Eq.symm axL211
                          subst axL211
                          have hP : va_P D vwCl (mw ad kk ks.1 V210 L) H := hP
                          have hD : va_D A (mw ad kk ks.1 V210 L) := hD
                          have hMV210 : rgd bM V210 := hMV210
                          have ajV210 : agr [(0, 7)] [] V201 V210 := ajV210
                          have agV210 : agr [(0, 7), (0, 8)] [15, 21, 53] V V210 := agV201.tr ajV210 (by decide) (by decide)
                          have rgz206 : 0 ≤ z206.toInt ∧ z206.toInt ≤ 0 := rgz206
                          have t209 : (V210 0 8).toInt = (V201 0 8).toInt := t209
                          have pq212 : (V210 0 8).toInt = ((V39 0 8)).toInt := congrArg Int32.toInt ((ajV210 0 8 rfl).trans (up2_k hV201 (by decide)))
                          refine lv_istore (lv' := [(4, .int z206), (6, .int y38), (5, .int z16), (3, .int y2), (0, .ref (ad 0)), (1, .ref (ad 15)), (2, .int p1)]) hx hb dX12_takeTypes_190 hl (by decide) rfl (fun ls hl => ?_)
                          refine lv_goto (tgt := 5) hx hb dX12_takeTypes_192 (by decide) ?_
                          have pq213 : (V210 0 12).toInt = ((V 0 12)).toInt := congrArg Int32.toInt ((ajV210 0 12 rfl).trans ((up2_k hV201 (by decide)).trans ((ajV39 0 12 rfl).trans ((up2_k hV32 (by decide)).trans ((ajV20 0 12 rfl).trans (ajV3 0 12 rfl))))))
                          exact ihlp5 (g4 - 1) z206 y2 V210 H locs ls (by first | exact om_641b3f05f166 rgz206.1 rgz206.2 | first | omega | ((try (have i_xlp40_2 := Imp.go xlp40_2 (by omega))); (try (have i_xlp5_3 := Imp.go xlp5_3 (by omega))); (try (have i_xlp5_3 := Imp.go xlp5_3 (by omega))); (try (have i_xlp40_2 := Imp.go xlp40_2 (by omega))); omega)) (by first | exact om_5de5485ce193 klp40_0.1 klp40_0.2 xlp40_1 f197 | first | omega | ((try (have i_xlp40_2 := Imp.go xlp40_2 (by omega))); (try (have i_xlp5_3 := Imp.go xlp5_3 (by omega))); (try (have i_xlp5_3 := Imp.go xlp5_3 (by omega))); (try (have i_xlp40_2 := Imp.go xlp40_2 (by omega))); omega)) (Or.inr (Or.inr ⟨(show 1 ≤ (V210 0 8).toInt from by (first | exact om_14e1582db31a r195.1 f199 pq205 t209 | omega)), (fun k => by rw [show (V210 0 8).toInt = (V39 0 8).toInt from by omega]; exact hi k)⟩)) (show 0 ≤ (g4 - 1) from by first | exact om_53bb2050c72d klp40_0.2 f197 ((Imp.go xlp5_3 (f15))) | first | omega | ((try (have i_xlp40_2 := Imp.go xlp40_2 (by omega))); (try (have i_xlp5_3 := Imp.go xlp5_3 (by omega))); (try (have i_xlp5_3 := Imp.go xlp5_3 (by omega))); (try (have i_xlp40_2 := Imp.go xlp40_2 (by omega))); omega)) (show y2.toInt ≤ 6 from by first | exact om_95b7a1d732ac klp40_0.2 f197 | first | omega | ((try (have i_xlp40_2 := Imp.go xlp40_2 (by omega))); (try (have i_xlp5_3 := Imp.go xlp5_3 (by omega))); (try (have i_xlp5_3 := Imp.go xlp5_3 (by omega))); (try (have i_xlp40_2 := Imp.go xlp40_2 (by omega))); omega)) (Imp.mk (fun hp => have hp : (V210 0 8).toInt = 0 := hp; (show 7 - y2.toInt < (g4 - 1) from by first | omega | ((try (have i_xlp40_2 := Imp.go xlp40_2 (by omega))); (try (have i_xlp5_3 := Imp.go xlp5_3 (by omega))); (try (have i_xlp5_3 := Imp.go xlp5_3 (by omega))); (try (have i_xlp40_2 := Imp.go xlp40_2 (by omega))); omega)))) (show (V210 0 12).toInt = (V 0 12).toInt from by first | exact om_570b691c1130 pq213 | first | omega | ((try (have i_xlp40_2 := Imp.go xlp40_2 (by omega))); (try (have i_xlp5_3 := Imp.go xlp5_3 (by omega))); (try (have i_xlp5_3 := Imp.go xlp5_3 (by omega))); (try (have i_xlp40_2 := Imp.go xlp40_2 (by omega))); omega)) (by first | omega | ((try (have i_xlp40_2 := Imp.go xlp40_2 (by omega))); (try (have i_xlp5_3 := Imp.go xlp5_3 (by omega))); (try (have i_xlp5_3 := Imp.go xlp5_3 (by omega))); (try (have i_xlp40_2 := Imp.go xlp40_2 (by omega))); omega)) (agr.tr (agr.up (agr.tr (agr.up (agr.tr (agr.tr agr.rf ajV3 (by decide) (by decide)) ajV20 (by decide) (by decide)) hV32 rfl) ajV39 (by decide) (by decide)) hV201 rfl) ajV210 (by decide) (by decide)) hMV210 hP hD hS (lv_sub hl [0, 3, 4, 5, 6] rfl)
                        · skip
                          have f214 : ((V39 0 8)).toInt = 0 := b_eq rfl (by decide) c202
                          exfalso; first | exact om_0abcda13baee r195.1 f199 f214 | first | omega | ((try (have i_xlp40_2 := Imp.go xlp40_2 (by omega))); (try (have i_xlp5_3 := Imp.go xlp5_3 (by omega))); (try (have i_xlp5_3 := Imp.go xlp5_3 (by omega))); (try (have i_xlp40_2 := Imp.go xlp40_2 (by omega))); omega)
                      · skip
                        have f215 : ((V39 0 8)).toInt = 0 := b_eq rfl (by decide) c198
                        exfalso; first | exact om_09885ab343b9 f7 f215 | first | omega | ((try (have i_xlp40_2 := Imp.go xlp40_2 (by omega))); (try (have i_xlp5_3 := Imp.go xlp5_3 (by omega))); (try (have i_xlp5_3 := Imp.go xlp5_3 (by omega))); (try (have i_xlp40_2 := Imp.go xlp40_2 (by omega))); omega)
                    · skip
                      have f216 : y38.toInt < y2.toInt := b_nle rfl rfl c196
                      refine lv_aload_n hx hb dX12_takeTypes_42 rfl (lv_at hl 4 rfl) ?_
                      refine va_get (D := D) (ci := 12) (v := .int (V39 0 8)) (C := RX12) (T := TX12) (N := 100) hx hb hg inX12 hown hK hP 0 rfl rfl 8 (by decide) (hg _ w1714) (fun _ h9 => h9) rfl dX12_takeTypes_43 ?_
                      refine lv_if_ne (tgt := 72) hx hb dX12_takeTypes_46 (by decide) (fun c217 => ?_) (fun c217 => ?_)
                      · skip
                        have f218 : ((V39 0 8)).toInt ≠ 0 := b_neq rfl (by decide) c217
                        refine lv_aload_n hx hb dX12_takeTypes_72 rfl (lv_at hl 4 rfl) ?_
                        refine va_get (D := D) (ci := 12) (v := .int (V39 0 8)) (C := RX12) (T := TX12) (N := 100) hx hb hg inX12 hown hK hP 0 rfl rfl 8 (by decide) (hg _ w1714) (fun _ h9 => h9) rfl dX12_takeTypes_73 ?_
                        refine lv_if_ne (tgt := 90) hx hb dX12_takeTypes_76 (by decide) (fun c219 => ?_) (fun c219 => ?_)
                        · skip
                          have f220 : ((V39 0 8)).toInt ≠ 0 := b_neq rfl (by decide) c219
                          refine lv_aload_n hx hb dX12_takeTypes_90 rfl (lv_at hl 4 rfl) ?_
                          refine lv_dup hx hb dX12_takeTypes_91 rfl ?_
                          refine va_get (D := D) (ci := 12) (v := .int (V39 0 7)) (C := RX12) (T := TX12) (N := 100) hx hb hg inX12 hown hK hP 0 rfl rfl 7 (by decide) (hg _ w1713) (fun _ h9 => h9) rfl dX12_takeTypes_92 ?_
                          refine g_top (v := z31) ((ajV39 0 7 rfl).trans (up2_s hV32)) ?_
                          refine lv_iconst (v := 1) hx hb dX12_takeTypes_95 (by decide) ?_
                          refine lv_iadd hx hb dX12_takeTypes_96 ?_
                          refine lv_topi (fun z221 ez221 => ?_)
                          have hz221 : z221.toInt = z31.toInt + 1 := i_add ez221 rfl (by decide) (by (first | exact om_37595bfb6665 rz34.1 rz34.2 | omega))
                          refine va_put (D := D) (ci := 12) (v := .int z221) (ty := tyX12 7) (C := RX12) (T := TX12) (N := 100) hx hb hg inX12 tyX12 tyX12_ok nmX12 hown hK hP hD hS 0 rfl rfl 7 (by decide) (hg _ w1713) (fun _ h9 => h9) rfl (tyX12_ok 7 (by decide)) rfl rfl (Nat.le_of_ble_eq_true rfl) dX12_takeTypes_97 (fun H locs hP hD hS => ?_)
                          obtain ⟨V222, hV222⟩ : ∃ z, z = up2 V39 0 7 z221 := ⟨_, rfl⟩
                          have hP : va_P D vwCl (mw ad kk ks.1 V222 L) H := by rw [hV222]; exact hP
                          have hD : va_D A (mw ad kk ks.1 V222 L) := by rw [hV222]; exact hD
                          have hMV222 : rgd bM V222 := hMV39.put hV222 (i_full _)
                          have agV222 : agr [(0, 7), (0, 8)] [15, 21, 53] V V222 := agV39.up hV222 rfl
                          refine lv_aload_n hx hb dX12_takeTypes_100 rfl (lv_at hl 4 rfl) ?_
                          refine va_get (D := D) (ci := 12) (v := .int (V222 0 8)) (C := RX12) (T := TX12) (N := 100) hx hb hg inX12 hown hK hP 0 rfl rfl 8 (by decide) (hg _ w1714) (fun _ h9 => h9) rfl dX12_takeTypes_101 ?_
                          refine g_top (v := (V39 0 8)) (up2_k hV222 (by decide)) ?_
                          refine lv_if_ne (tgt := 184) hx hb dX12_takeTypes_104 (by decide) (fun c223 => ?_) (fun c223 => ?_)
                          · skip
                            have f224 : ((V39 0 8)).toInt ≠ 0 := b_neq rfl (by decide) c223
                            refine lv_aload_n hx hb dX12_takeTypes_184 rfl (lv_at hl 4 rfl) ?_
                            refine lv_bipush (v := 44) hx hb dX12_takeTypes_185 (by decide) ?_
                            have r225 : Int32.toInt 44 = 44 := by decide
                            have pq226 : (V222 0 8).toInt = ((V39 0 8)).toInt := congrArg Int32.toInt (up2_k hV222 (by decide))
                            refine gA_int (gA_runV (As := [.int 44]) (rest := []) (ci := 12) (q0 := 0) hx hb hml hown hg hP hD hK hS hA hnw hgk (s_hasSignB l D ks H.size ad kk V222 L 44 hMV222 (show 1 ≤ (V222 0 8).toInt from by first | exact om_1499017b39b7 r195.1 f218 pq226 | first | omega | ((try (have i_xlp40_2 := Imp.go xlp40_2 (by omega))); (try (have i_xlp5_3 := Imp.go xlp5_3 (by omega))); (try (have i_xlp5_3 := Imp.go xlp5_3 (by omega))); (try (have i_xlp40_2 := Imp.go xlp40_2 (by omega))); omega))) w2067 w2069 w94 w172 w2070 rfl rfl hdV_yX12_hasSign ⟨Nat.le_of_ble_eq_true rfl, Nat.le_of_ble_eq_true rfl⟩ rfl hl.1 rfl (Nat.le_of_ble_eq_true rfl) dX12_takeTypes_187 ⟨Nat.le_of_ble_eq_true rfl, Nat.le_of_ble_eq_true rfl⟩) hP hD hK hS hA (fun z227 u228 H locs w229 hP hD hK hS => ?_)
                            obtain ⟨V231, L232⟩ := u228
                            obtain ⟨hMV231, ajV231, axL232, rgz227, t230⟩ := w229
                            have axL232 : L = L232 := Eq.symm axL232
                            subst axL232
                            have hP : va_P D vwCl (mw ad kk ks.1 V231 L) H := hP
                            have hD : va_D A (mw ad kk ks.1 V231 L) := hD
                            have hMV231 : rgd bM V231 := hMV231
                            have ajV231 : agr [(0, 7)] [] V222 V231 := ajV231
                            have agV231 : agr [(0, 7), (0, 8)] [15, 21, 53] V V231 := agV222.tr ajV231 (by decide) (by decide)
                            have rgz227 : 0 ≤ z227.toInt ∧ z227.toInt ≤ 0 := rgz227
                            have t230 : (V231 0 8).toInt = (V222 0 8).toInt := t230
                            have pq233 : (V231 0 8).toInt = ((V39 0 8)).toInt := congrArg Int32.toInt ((ajV231 0 8 rfl).trans (up2_k hV222 (by decide)))
                            refine lv_istore (lv' := [(4, .int z227), (6, .int y38), (5, .int z16), (3, .int y2), (0, .ref (ad 0)), (1, .ref (ad 15)), (2, .int p1)]) hx hb dX12_takeTypes_190 hl (by decide) rfl (fun ls hl => ?_)
                            refine lv_goto (tgt := 5) hx hb dX12_takeTypes_192 (by decide) ?_
                            have pq234 : (V231 0 12).toInt = ((V 0 12)).toInt := congrArg Int32.toInt ((ajV231 0 12 rfl).trans ((up2_k hV222 (by decide)).trans ((ajV39 0 12 rfl).trans ((up2_k hV32 (by decide)).trans ((ajV20 0 12 rfl).trans (ajV3 0 12 rfl))))))
                            exact ihlp5 (g4 - 1) z227 y2 V231 H locs ls (by first | exact om_641b3f05f166 rgz227.1 rgz227.2 | first | omega | ((try (have i_xlp40_2 := Imp.go xlp40_2 (by omega))); (try (have i_xlp5_3 := Imp.go xlp5_3 (by omega))); (try (have i_xlp5_3 := Imp.go xlp5_3 (by omega))); (try (have i_xlp40_2 := Imp.go xlp40_2 (by omega))); omega)) (by first | exact om_420c7ba86e3d klp5_1.2 klp40_0.1 f216 | first | omega | ((try (have i_xlp40_2 := Imp.go xlp40_2 (by omega))); (try (have i_xlp5_3 := Imp.go xlp5_3 (by omega))); (try (have i_xlp5_3 := Imp.go xlp5_3 (by omega))); (try (have i_xlp40_2 := Imp.go xlp40_2 (by omega))); omega)) (Or.inr (Or.inr ⟨(show 1 ≤ (V231 0 8).toInt from by (first | exact om_14e1582db31a r195.1 f218 pq226 t230 | omega)), (fun k => by rw [show (V231 0 8).toInt = (V39 0 8).toInt from by omega]; exact hi k)⟩)) (show 0 ≤ (g4 - 1) from by first | exact om_76a34b28fb8f klp5_1.2 ((Imp.go xlp5_3 (f15))) | first | omega | ((try (have i_xlp40_2 := Imp.go xlp40_2 (by omega))); (try (have i_xlp5_3 := Imp.go xlp5_3 (by omega))); (try (have i_xlp5_3 := Imp.go xlp5_3 (by omega))); (try (have i_xlp40_2 := Imp.go xlp40_2 (by omega))); omega)) (show y2.toInt ≤ 6 from by first | exact om_1cd470348f7c klp5_1.2 | first | omega | ((try (have i_xlp40_2 := Imp.go xlp40_2 (by omega))); (try (have i_xlp5_3 := Imp.go xlp5_3 (by omega))); (try (have i_xlp5_3 := Imp.go xlp5_3 (by omega))); (try (have i_xlp40_2 := Imp.go xlp40_2 (by omega))); omega)) (Imp.mk (fun hp => have hp : (V231 0 8).toInt = 0 := hp; (show 7 - y2.toInt < (g4 - 1) from by first | omega | ((try (have i_xlp40_2 := Imp.go xlp40_2 (by omega))); (try (have i_xlp5_3 := Imp.go xlp5_3 (by omega))); (try (have i_xlp5_3 := Imp.go xlp5_3 (by omega))); (try (have i_xlp40_2 := Imp.go xlp40_2 (by omega))); omega)))) (show (V231 0 12).toInt = (V 0 12).toInt from by first | exact om_570b691c1130 pq234 | first | omega | ((try (have i_xlp40_2 := Imp.go xlp40_2 (by omega))); (try (have i_xlp5_3 := Imp.go xlp5_3 (by omega))); (try (have i_xlp5_3 := Imp.go xlp5_3 (by omega))); (try (have i_xlp40_2 := Imp.go xlp40_2 (by omega))); omega)) (by first | omega | ((try (have i_xlp40_2 := Imp.go xlp40_2 (by omega))); (try (have i_xlp5_3 := Imp.go xlp5_3 (by omega))); (try (have i_xlp5_3 := Imp.go xlp5_3 (by omega))); (try (have i_xlp40_2 := Imp.go xlp40_2 (by omega))); omega)) (agr.tr (agr.up (agr.tr (agr.up (agr.tr (agr.tr agr.rf ajV3 (by decide) (by decide)) ajV20 (by decide) (by decide)) hV32 rfl) ajV39 (by decide) (by decide)) hV222 rfl) ajV231 (by decide) (by decide)) hMV231 hP hD hS (lv_sub hl [0, 3, 4, 5, 6] rfl)
                          · skip
                            have f235 : ((V39 0 8)).toInt = 0 := b_eq rfl (by decide) c223
                            exfalso; first | exact om_0abcda13baee r195.1 f218 f235 | first | omega | ((try (have i_xlp40_2 := Imp.go xlp40_2 (by omega))); (try (have i_xlp5_3 := Imp.go xlp5_3 (by omega))); (try (have i_xlp5_3 := Imp.go xlp5_3 (by omega))); (try (have i_xlp40_2 := Imp.go xlp40_2 (by omega))); omega)
                        · skip
                          have f236 : ((V39 0 8)).toInt = 0 := b_eq rfl (by decide) c219
                          exfalso; first | exact om_0abcda13baee r195.1 f218 f236 | first | omega | ((try (have i_xlp40_2 := Imp.go xlp40_2 (by omega))); (try (have i_xlp5_3 := Imp.go xlp5_3 (by omega))); (try (have i_xlp5_3 := Imp.go xlp5_3 (by omega))); (try (have i_xlp40_2 := Imp.go xlp40_2 (by omega))); omega)
                      · skip
                        have f237 : ((V39 0 8)).toInt = 0 := b_eq rfl (by decide) c217
                        exfalso; first | exact om_09885ab343b9 f7 f237 | first | omega | ((try (have i_xlp40_2 := Imp.go xlp40_2 (by omega))); (try (have i_xlp5_3 := Imp.go xlp5_3 (by omega))); (try (have i_xlp5_3 := Imp.go xlp5_3 (by omega))); (try (have i_xlp40_2 := Imp.go xlp40_2 (by omega))); omega)
              have r238 : Int32.toInt 0 = 0 := by decide
              exact lp40 ((y2.toInt - (Int32.toInt 0) + 1 : Int).toNat) 0 V32 H locs ls (by decide) (Or.inl ⟨W0 rl35, rl35, fun k h9 => by exfalso; omega⟩) (show (Int32.toInt 0) ≤ y2.toInt from by first | exact om_6f9bb8cf3bec klp5_1.1 r238 | first | omega | ((try (have i_xlp5_3 := Imp.go xlp5_3 (by omega))); omega)) (Imp.mk (fun hp => have hp : 1 ≤ (V32 0 8).toInt := hp; (show (V32 0 8).toInt = (V32 0 8).toInt from by first | exact om_4c2c879c4424 | first | omega | ((try (have i_xlp5_3 := Imp.go xlp5_3 (by omega))); omega)))) (by first | exact om_7441a7786481 | first | omega | ((try (have i_xlp5_3 := Imp.go xlp5_3 (by omega))); omega)) agr.rf hMV32 hP hD hS (lv_sub hl [0, 1, 2, 3, 4, 5, 6] rfl)
            · skip
              have hb239 : ∀ k, Rc gT (Crun gs (Itypes gy gw 0 [] :: k)) (Cbad (V20 0 8).toInt) := fun k => Rc.go1 (hq k) (ty_b h24)
              have r240 : 0 ≤ ((V20 0 8)).toInt ∧ ((V20 0 8)).toInt ≤ 70000 := hMV20 0 8
              refine lv_istore (lv' := [(5, .int z16), (4, .int y1), (3, .int y2), (0, .ref (ad 0)), (1, .ref (ad 15)), (2, .int p1)]) hx hb dX12_takeTypes_21 hl (by decide) rfl (fun ls hl => ?_)
              refine lv_aload_n hx hb dX12_takeTypes_23 rfl (lv_at hl 3 rfl) ?_
              refine lv_dup hx hb dX12_takeTypes_24 rfl ?_
              refine va_get (D := D) (ci := 12) (v := .int (V20 0 7)) (C := RX12) (T := TX12) (N := 100) hx hb hg inX12 hown hK hP 0 rfl rfl 7 (by decide) (hg _ w1713) (fun _ h9 => h9) rfl dX12_takeTypes_25 ?_
              refine lv_iconst (v := 1) hx hb dX12_takeTypes_28 (by decide) ?_
              refine lv_isub hx hb dX12_takeTypes_29 ?_
              have r241 := i_full (V20 0 7)
              refine lv_topi (fun z242 ez242 => ?_)
              have hz242 : Imp (-2147483648 ≤ ((V20 0 7)).toInt - 1 ∧ ((V20 0 7)).toInt - 1 ≤ 2147483647) (z242.toInt = ((V20 0 7)).toInt - 1) := Imp.mk (fun hp => i_sub ez242 rfl (by decide) hp)
              refine va_put (D := D) (ci := 12) (v := .int z242) (ty := tyX12 7) (C := RX12) (T := TX12) (N := 100) hx hb hg inX12 tyX12 tyX12_ok nmX12 hown hK hP hD hS 0 rfl rfl 7 (by decide) (hg _ w1713) (fun _ h9 => h9) rfl (tyX12_ok 7 (by decide)) rfl rfl (Nat.le_of_ble_eq_true rfl) dX12_takeTypes_30 (fun H locs hP hD hS => ?_)
              obtain ⟨V243, hV243⟩ : ∃ z, z = up2 V20 0 7 z242 := ⟨_, rfl⟩
              have hP : va_P D vwCl (mw ad kk ks.1 V243 L) H := by rw [hV243]; exact hP
              have hD : va_D A (mw ad kk ks.1 V243 L) := by rw [hV243]; exact hD
              have hMV243 : rgd bM V243 := hMV20.put hV243 (i_full _)
              have agV243 : agr [(0, 7), (0, 8)] [15, 21, 53] V V243 := agV20.up hV243 rfl
              have pq244 : (V243 0 8).toInt = ((V20 0 8)).toInt := congrArg Int32.toInt (up2_k hV243 (by decide))
              refine lv_iconst (v := 0) hx hb dX12_takeTypes_33 (by decide) ?_
              refine lv_istore (lv' := [(6, .int 0), (5, .int z16), (4, .int y1), (3, .int y2), (0, .ref (ad 0)), (1, .ref (ad 15)), (2, .int p1)]) hx hb dX12_takeTypes_34 hl (by decide) rfl (fun ls hl => ?_)
              have lp247 : ∀ (fulp247 : Nat) (y245 : Int32) (V246 : Vf) (H : Heap) (locs : List Loc) (ls : Array Slot), 0 ≤ y245.toInt ∧ y245.toInt ≤ 6 → (((V246 0 8).toInt = 0 ∧ RelM V246 L bq gn gT s1 gl ∧ (∀ k : Nat, (k : Int) < y245.toInt → (V246 53 k).toInt ≠ z16.toInt)) ∨ (1 ≤ (V246 0 8).toInt ∧ ∀ k, Rc gT (Crun gs (Itypes gy gw 0 [] :: k)) (Cbad (V246 0 8).toInt))) → y245.toInt ≤ y2.toInt → Imp (1 ≤ (V243 0 8).toInt) ((V246 0 8).toInt = (V243 0 8).toInt) → y2.toInt - y245.toInt < (fulp247 : Int) → agr [(0, 8)] [] V243 V246 → rgd bM V246 → va_P D vwCl (mw ad kk ks.1 V246 L) H → va_D A (mw ad kk ks.1 V246 L) → va_S A s.heap H locs → lv_has ls 7 [(6, .int y245), (5, .int z16), (4, .int y1), (3, .int y2), (0, .ref (ad 0)), (1, .ref (ad 15)), (2, .int p1)] → W p l e r_s_takeTypesA15 s m ([.ref (ad 0), .ref (ad 15), .int p1] : List Value).toArray below meth c H locs 0 0 (MQ below (q_s_takeTypesA15 D ks ad kk V L p1 bq gn gT gs gl gy gw go A) ([.ref (ad 0), .ref (ad 15), .int p1] : List Value).toArray s 0 0 A) (F0 m 36 ls []) := by
                (try clear hb239); (try clear fz9)
                intro fulp247
                induction fulp247 with
                | zero =>
                  intro y245 V246 H locs ls klp247_0 xlp247_0 xlp247_1 xlp247_2 hn ajV246 hMV246 hP hD hS hl
                  exfalso; (first | exact om_4634b1278845 xlp247_1 hn | omega)
                | succ fulp247 ihlp247 =>
                  intro y245 V246 H locs ls klp247_0 xlp247_0 xlp247_1 xlp247_2 hn ajV246 hMV246 hP hD hS hl
                  have agV246 : agr [(0, 7), (0, 8)] [15, 21, 53] V V246 := agV243.tr ajV246 (by decide) (by decide)
                  refine lv_iload hx hb dX12_takeTypes_36 (lv_at hl 0 rfl) ?_
                  rcases xlp247_0 with ⟨f7, ri, ni⟩ | ⟨f7, hi⟩
                  · skip
                    exfalso; first | omega | ((try (have i_xlp247_2 := Imp.go xlp247_2 (by omega))); (try (have i_hz242 := Imp.go hz242 (by omega))); (try (have i_xlp5_3 := Imp.go xlp5_3 (by omega))); (try (have i_xlp5_3 := Imp.go xlp5_3 (by omega))); (try (have i_hz242 := Imp.go hz242 (by omega))); (try (have i_xlp247_2 := Imp.go xlp247_2 (by omega))); omega)
                  · skip
                    have r248 : 0 ≤ ((V246 0 8)).toInt ∧ ((V246 0 8)).toInt ≤ 70000 := hMV246 0 8
                    refine lv_iload_n hx hb dX12_takeTypes_38 rfl (lv_at hl 3 rfl) ?_
                    refine lv_icmp_ge (tgt := 72) hx hb dX12_takeTypes_39 (by decide) (fun c249 => ?_) (fun c249 => ?_)
                    · skip
                      have f250 : y2.toInt ≤ y245.toInt := b_le rfl rfl c249
                      refine lv_aload_n hx hb dX12_takeTypes_72 rfl (lv_at hl 4 rfl) ?_
                      refine va_get (D := D) (ci := 12) (v := .int (V246 0 8)) (C := RX12) (T := TX12) (N := 100) hx hb hg inX12 hown hK hP 0 rfl rfl 8 (by decide) (hg _ w1714) (fun _ h9 => h9) rfl dX12_takeTypes_73 ?_
                      refine lv_if_ne (tgt := 90) hx hb dX12_takeTypes_76 (by decide) (fun c251 => ?_) (fun c251 => ?_)
                      · skip
                        have f252 : ((V246 0 8)).toInt ≠ 0 := b_neq rfl (by decide) c251
                        refine lv_aload_n hx hb dX12_takeTypes_90 rfl (lv_at hl 4 rfl) ?_
                        refine lv_dup hx hb dX12_takeTypes_91 rfl ?_
                        refine va_get (D := D) (ci := 12) (v := .int (V246 0 7)) (C := RX12) (T := TX12) (N := 100) hx hb hg inX12 hown hK hP 0 rfl rfl 7 (by decide) (hg _ w1713) (fun _ h9 => h9) rfl dX12_takeTypes_92 ?_
                        refine g_top (v := z242) ((ajV246 0 7 rfl).trans (up2_s hV243)) ?_
                        refine lv_iconst (v := 1) hx hb dX12_takeTypes_95 (by decide) ?_
                        refine lv_iadd hx hb dX12_takeTypes_96 ?_
                        have r253 := i_full z242
                        refine lv_topi (fun z254 ez254 => ?_)
                        have hz254 : Imp (-2147483648 ≤ z242.toInt + 1 ∧ z242.toInt + 1 ≤ 2147483647) (z254.toInt = z242.toInt + 1) := Imp.mk (fun hp => i_add ez254 rfl (by decide) hp)
                        refine va_put (D := D) (ci := 12) (v := .int z254) (ty := tyX12 7) (C := RX12) (T := TX12) (N := 100) hx hb hg inX12 tyX12 tyX12_ok nmX12 hown hK hP hD hS 0 rfl rfl 7 (by decide) (hg _ w1713) (fun _ h9 => h9) rfl (tyX12_ok 7 (by decide)) rfl rfl (Nat.le_of_ble_eq_true rfl) dX12_takeTypes_97 (fun H locs hP hD hS => ?_)
                        obtain ⟨V255, hV255⟩ : ∃ z, z = up2 V246 0 7 z254 := ⟨_, rfl⟩
                        have hP : va_P D vwCl (mw ad kk ks.1 V255 L) H := by rw [hV255]; exact hP
                        have hD : va_D A (mw ad kk ks.1 V255 L) := by rw [hV255]; exact hD
                        have hMV255 : rgd bM V255 := hMV246.put hV255 (i_full _)
                        have agV255 : agr [(0, 7), (0, 8)] [15, 21, 53] V V255 := agV246.up hV255 rfl
                        refine lv_aload_n hx hb dX12_takeTypes_100 rfl (lv_at hl 4 rfl) ?_
                        refine va_get (D := D) (ci := 12) (v := .int (V255 0 8)) (C := RX12) (T := TX12) (N := 100) hx hb hg inX12 hown hK hP 0 rfl rfl 8 (by decide) (hg _ w1714) (fun _ h9 => h9) rfl dX12_takeTypes_101 ?_
                        refine g_top (v := (V246 0 8)) (up2_k hV255 (by decide)) ?_
                        refine lv_if_ne (tgt := 184) hx hb dX12_takeTypes_104 (by decide) (fun c256 => ?_) (fun c256 => ?_)
                        · skip
                          have f257 : ((V246 0 8)).toInt ≠ 0 := b_neq rfl (by decide) c256
                          refine lv_aload_n hx hb dX12_takeTypes_184 rfl (lv_at hl 4 rfl) ?_
                          refine lv_bipush (v := 44) hx hb dX12_takeTypes_185 (by decide) ?_
                          have r258 : Int32.toInt 44 = 44 := by decide
                          have pq259 : (V255 0 8).toInt = ((V246 0 8)).toInt := congrArg Int32.toInt (up2_k hV255 (by decide))
                          refine gA_int (gA_runV (As := [.int 44]) (rest := []) (ci := 12) (q0 := 0) hx hb hml hown hg hP hD hK hS hA hnw hgk (s_hasSignB l D ks H.size ad kk V255 L 44 hMV255 (show 1 ≤ (V255 0 8).toInt from by first | exact om_1499017b39b7 r248.1 f252 pq259 | first | omega | ((try (have i_xlp5_3 := Imp.go xlp5_3 (f15))); omega) | ((try (have i_hz254 := Imp.go hz254 (by omega))); (try (have i_xlp247_2 := Imp.go xlp247_2 (by omega))); (try (have i_hz242 := Imp.go hz242 (by omega))); (try (have i_xlp5_3 := Imp.go xlp5_3 (by omega))); first | omega | ((try (have i_xlp5_3 := Imp.go xlp5_3 (by omega))); (try (have i_hz242 := Imp.go hz242 (by omega))); (try (have i_xlp247_2 := Imp.go xlp247_2 (by omega))); (try (have i_hz254 := Imp.go hz254 (by omega))); omega)))) w2067 w2069 w94 w172 w2070 rfl rfl hdV_yX12_hasSign ⟨Nat.le_of_ble_eq_true rfl, Nat.le_of_ble_eq_true rfl⟩ rfl hl.1 rfl (Nat.le_of_ble_eq_true rfl) dX12_takeTypes_187 ⟨Nat.le_of_ble_eq_true rfl, Nat.le_of_ble_eq_true rfl⟩) hP hD hK hS hA (fun z260 u261 H locs w262 hP hD hK hS => ?_)
                          obtain ⟨V264, L265⟩ := u261
                          obtain ⟨hMV264, ajV264, axL265, rgz260, t263⟩ := w262
                          have axL265 : L = L265 := Eq.symm axL265
                          subst axL265
                          have hP : va_P D vwCl (mw ad kk ks.1 V264 L) H := hP
                          have hD : va_D A (mw ad kk ks.1 V264 L) := hD
                          have hMV264 : rgd bM V264 := hMV264
                          have ajV264 : agr [(0, 7)] [] V255 V264 := ajV264
                          have agV264 : agr [(0, 7), (0, 8)] [15, 21, 53] V V264 := agV255.tr ajV264 (by decide) (by decide)
                          have rgz260 : 0 ≤ z260.toInt ∧ z260.toInt ≤ 0 := rgz260
                          have t263 : (V264 0 8).toInt = (V255 0 8).toInt := t263
                          have pq266 : (V264 0 8).toInt = ((V246 0 8)).toInt := congrArg Int32.toInt ((ajV264 0 8 rfl).trans (up2_k hV255 (by decide)))
                          refine lv_istore (lv' := [(4, .int z260), (6, .int y245), (5, .int z16), (3, .int y2), (0, .ref (ad 0)), (1, .ref (ad 15)), (2, .int p1)]) hx hb dX12_takeTypes_190 hl (by decide) rfl (fun ls hl => ?_)
                          refine lv_goto (tgt := 5) hx hb dX12_takeTypes_192 (by decide) ?_
                          have pq267 : (V264 0 12).toInt = ((V 0 12)).toInt := congrArg Int32.toInt ((ajV264 0 12 rfl).trans ((up2_k hV255 (by decide)).trans ((ajV246 0 12 rfl).trans ((up2_k hV243 (by decide)).trans ((ajV20 0 12 rfl).trans (ajV3 0 12 rfl))))))
                          exact ihlp5 (g4 - 1) z260 y2 V264 H locs ls (by first | exact om_641b3f05f166 rgz260.1 rgz260.2 | first | omega | ((try (have i_xlp5_3 := Imp.go xlp5_3 (f15))); omega) | ((try (have i_hz254 := Imp.go hz254 (by omega))); (try (have i_xlp247_2 := Imp.go xlp247_2 (by omega))); (try (have i_hz242 := Imp.go hz242 (by omega))); (try (have i_xlp5_3 := Imp.go xlp5_3 (by omega))); first | omega | ((try (have i_xlp5_3 := Imp.go xlp5_3 (by omega))); (try (have i_hz242 := Imp.go hz242 (by omega))); (try (have i_xlp247_2 := Imp.go xlp247_2 (by omega))); (try (have i_hz254 := Imp.go hz254 (by omega))); omega))) (by first | exact om_5de5485ce193 klp247_0.1 klp247_0.2 xlp247_1 f250 | first | omega | ((try (have i_xlp5_3 := Imp.go xlp5_3 (f15))); omega) | ((try (have i_hz254 := Imp.go hz254 (by omega))); (try (have i_xlp247_2 := Imp.go xlp247_2 (by omega))); (try (have i_hz242 := Imp.go hz242 (by omega))); (try (have i_xlp5_3 := Imp.go xlp5_3 (by omega))); first | omega | ((try (have i_xlp5_3 := Imp.go xlp5_3 (by omega))); (try (have i_hz242 := Imp.go hz242 (by omega))); (try (have i_xlp247_2 := Imp.go xlp247_2 (by omega))); (try (have i_hz254 := Imp.go hz254 (by omega))); omega))) (Or.inr (Or.inr ⟨(show 1 ≤ (V264 0 8).toInt from by (first | exact om_14e1582db31a r248.1 f252 pq259 t263 | omega)), (fun k => by rw [show (V264 0 8).toInt = (V246 0 8).toInt from by omega]; exact hi k)⟩)) (show 0 ≤ (g4 - 1) from by first | exact om_53bb2050c72d klp247_0.2 f250 ((Imp.go xlp5_3 (f15))) | first | omega | ((try (have i_xlp5_3 := Imp.go xlp5_3 (f15))); omega) | ((try (have i_hz254 := Imp.go hz254 (by omega))); (try (have i_xlp247_2 := Imp.go xlp247_2 (by omega))); (try (have i_hz242 := Imp.go hz242 (by omega))); (try (have i_xlp5_3 := Imp.go xlp5_3 (by omega))); first | omega | ((try (have i_xlp5_3 := Imp.go xlp5_3 (by omega))); (try (have i_hz242 := Imp.go hz242 (by omega))); (try (have i_xlp247_2 := Imp.go xlp247_2 (by omega))); (try (have i_hz254 := Imp.go hz254 (by omega))); omega))) (show y2.toInt ≤ 6 from by first | exact om_95b7a1d732ac klp247_0.2 f250 | first | omega | ((try (have i_xlp5_3 := Imp.go xlp5_3 (f15))); omega) | ((try (have i_hz254 := Imp.go hz254 (by omega))); (try (have i_xlp247_2 := Imp.go xlp247_2 (by omega))); (try (have i_hz242 := Imp.go hz242 (by omega))); (try (have i_xlp5_3 := Imp.go xlp5_3 (by omega))); first | omega | ((try (have i_xlp5_3 := Imp.go xlp5_3 (by omega))); (try (have i_hz242 := Imp.go hz242 (by omega))); (try (have i_xlp247_2 := Imp.go xlp247_2 (by omega))); (try (have i_hz254 := Imp.go hz254 (by omega))); omega))) (Imp.mk (fun hp => have hp : (V264 0 8).toInt = 0 := hp; (show 7 - y2.toInt < (g4 - 1) from by first | omega | ((try (have i_xlp5_3 := Imp.go xlp5_3 (f15))); omega) | ((try (have i_hz254 := Imp.go hz254 (by omega))); (try (have i_xlp247_2 := Imp.go xlp247_2 (by omega))); (try (have i_hz242 := Imp.go hz242 (by omega))); (try (have i_xlp5_3 := Imp.go xlp5_3 (by omega))); first | omega | ((try (have i_xlp5_3 := Imp.go xlp5_3 (by omega))); (try (have i_hz242 := Imp.go hz242 (by omega))); (try (have i_xlp247_2 := Imp.go xlp247_2 (by omega))); (try (have i_hz254 := Imp.go hz254 (by omega))); omega))))) (show (V264 0 12).toInt = (V 0 12).toInt from by first | exact om_570b691c1130 pq267 | first | omega | ((try (have i_xlp5_3 := Imp.go xlp5_3 (f15))); omega) | ((try (have i_hz254 := Imp.go hz254 (by omega))); (try (have i_xlp247_2 := Imp.go xlp247_2 (by omega))); (try (have i_hz242 := Imp.go hz242 (by omega))); (try (have i_xlp5_3 := Imp.go xlp5_3 (by omega))); first | omega | ((try (have i_xlp5_3 := Imp.go xlp5_3 (by omega))); (try (have i_hz242 := Imp.go hz242 (by omega))); (try (have i_xlp247_2 := Imp.go xlp247_2 (by omega))); (try (have i_hz254 := Imp.go hz254 (by omega))); omega))) (by first | omega | ((try (have i_xlp5_3 := Imp.go xlp5_3 (f15))); omega) | ((try (have i_hz254 := Imp.go hz254 (by omega))); (try (have i_xlp247_2 := Imp.go xlp247_2 (by omega))); (try (have i_hz242 := Imp.go hz242 (by omega))); (try (have i_xlp5_3 := Imp.go xlp5_3 (by omega))); first | omega | ((try (have i_xlp5_3 := Imp.go xlp5_3 (by omega))); (try (have i_hz242 := Imp.go hz242 (by omega))); (try (have i_xlp247_2 := Imp.go xlp247_2 (by omega))); (try (have i_hz254 := Imp.go hz254 (by omega))); omega))) (agr.tr (agr.up (agr.tr (agr.up (agr.tr (agr.tr agr.rf ajV3 (by decide) (by decide)) ajV20 (by decide) (by decide)) hV243 rfl) ajV246 (by decide) (by decide)) hV255 rfl) ajV264 (by decide) (by decide)) hMV264 hP hD hS (lv_sub hl [0, 3, 4, 5, 6] rfl)
                        · skip
                          have f268 : ((V246 0 8)).toInt = 0 := b_eq rfl (by decide) c256
                          exfalso; first | exact om_0abcda13baee r248.1 f252 f268 | first | omega | ((try (have i_xlp5_3 := Imp.go xlp5_3 (f15))); omega) | ((try (have i_hz254 := Imp.go hz254 (by omega))); (try (have i_xlp247_2 := Imp.go xlp247_2 (by omega))); (try (have i_hz242 := Imp.go hz242 (by omega))); (try (have i_xlp5_3 := Imp.go xlp5_3 (by omega))); first | omega | ((try (have i_xlp5_3 := Imp.go xlp5_3 (by omega))); (try (have i_hz242 := Imp.go hz242 (by omega))); (try (have i_xlp247_2 := Imp.go xlp247_2 (by omega))); (try (have i_hz254 := Imp.go hz254 (by omega))); omega))
                      · skip
                        have f269 : ((V246 0 8)).toInt = 0 := b_eq rfl (by decide) c251
                        exfalso; first | exact om_09885ab343b9 f7 f269 | first | omega | ((try (have i_xlp247_2 := Imp.go xlp247_2 (by omega))); (try (have i_hz242 := Imp.go hz242 (by omega))); (try (have i_xlp5_3 := Imp.go xlp5_3 (by omega))); (try (have i_xlp5_3 := Imp.go xlp5_3 (by omega))); (try (have i_hz242 := Imp.go hz242 (by omega))); (try (have i_xlp247_2 := Imp.go xlp247_2 (by omega))); omega)
                    · skip
                      have f270 : y245.toInt < y2.toInt := b_nle rfl rfl c249
                      refine lv_aload_n hx hb dX12_takeTypes_42 rfl (lv_at hl 4 rfl) ?_
                      refine va_get (D := D) (ci := 12) (v := .int (V246 0 8)) (C := RX12) (T := TX12) (N := 100) hx hb hg inX12 hown hK hP 0 rfl rfl 8 (by decide) (hg _ w1714) (fun _ h9 => h9) rfl dX12_takeTypes_43 ?_
                      refine lv_if_ne (tgt := 72) hx hb dX12_takeTypes_46 (by decide) (fun c271 => ?_) (fun c271 => ?_)
                      · skip
                        have f272 : ((V246 0 8)).toInt ≠ 0 := b_neq rfl (by decide) c271
                        refine lv_aload_n hx hb dX12_takeTypes_72 rfl (lv_at hl 4 rfl) ?_
                        refine va_get (D := D) (ci := 12) (v := .int (V246 0 8)) (C := RX12) (T := TX12) (N := 100) hx hb hg inX12 hown hK hP 0 rfl rfl 8 (by decide) (hg _ w1714) (fun _ h9 => h9) rfl dX12_takeTypes_73 ?_
                        refine lv_if_ne (tgt := 90) hx hb dX12_takeTypes_76 (by decide) (fun c273 => ?_) (fun c273 => ?_)
                        · skip
                          have f274 : ((V246 0 8)).toInt ≠ 0 := b_neq rfl (by decide) c273
                          refine lv_aload_n hx hb dX12_takeTypes_90 rfl (lv_at hl 4 rfl) ?_
                          refine lv_dup hx hb dX12_takeTypes_91 rfl ?_
                          refine va_get (D := D) (ci := 12) (v := .int (V246 0 7)) (C := RX12) (T := TX12) (N := 100) hx hb hg inX12 hown hK hP 0 rfl rfl 7 (by decide) (hg _ w1713) (fun _ h9 => h9) rfl dX12_takeTypes_92 ?_
                          refine g_top (v := z242) ((ajV246 0 7 rfl).trans (up2_s hV243)) ?_
                          refine lv_iconst (v := 1) hx hb dX12_takeTypes_95 (by decide) ?_
                          refine lv_iadd hx hb dX12_takeTypes_96 ?_
                          have r275 := i_full z242
                          refine lv_topi (fun z276 ez276 => ?_)
                          have hz276 : Imp (-2147483648 ≤ z242.toInt + 1 ∧ z242.toInt + 1 ≤ 2147483647) (z276.toInt = z242.toInt + 1) := Imp.mk (fun hp => i_add ez276 rfl (by decide) hp)
                          refine va_put (D := D) (ci := 12) (v := .int z276) (ty := tyX12 7) (C := RX12) (T := TX12) (N := 100) hx hb hg inX12 tyX12 tyX12_ok nmX12 hown hK hP hD hS 0 rfl rfl 7 (by decide) (hg _ w1713) (fun _ h9 => h9) rfl (tyX12_ok 7 (by decide)) rfl rfl (Nat.le_of_ble_eq_true rfl) dX12_takeTypes_97 (fun H locs hP hD hS => ?_)
                          obtain ⟨V277, hV277⟩ : ∃ z, z = up2 V246 0 7 z276 := ⟨_, rfl⟩
                          have hP : va_P D vwCl (mw ad kk ks.1 V277 L) H := by rw [hV277]; exact hP
                          have hD : va_D A (mw ad kk ks.1 V277 L) := by rw [hV277]; exact hD
                          have hMV277 : rgd bM V277 := hMV246.put hV277 (i_full _)
                          have agV277 : agr [(0, 7), (0, 8)] [15, 21, 53] V V277 := agV246.up hV277 rfl
                          refine lv_aload_n hx hb dX12_takeTypes_100 rfl (lv_at hl 4 rfl) ?_
                          refine va_get (D := D) (ci := 12) (v := .int (V277 0 8)) (C := RX12) (T := TX12) (N := 100) hx hb hg inX12 hown hK hP 0 rfl rfl 8 (by decide) (hg _ w1714) (fun _ h9 => h9) rfl dX12_takeTypes_101 ?_
                          refine g_top (v := (V246 0 8)) (up2_k hV277 (by decide)) ?_
                          refine lv_if_ne (tgt := 184) hx hb dX12_takeTypes_104 (by decide) (fun c278 => ?_) (fun c278 => ?_)
                          · skip
                            have f279 : ((V246 0 8)).toInt ≠ 0 := b_neq rfl (by decide) c278
                            refine lv_aload_n hx hb dX12_takeTypes_184 rfl (lv_at hl 4 rfl) ?_
                            refine lv_bipush (v := 44) hx hb dX12_takeTypes_185 (by decide) ?_
                            have r280 : Int32.toInt 44 = 44 := by decide
                            have pq281 : (V277 0 8).toInt = ((V246 0 8)).toInt := congrArg Int32.toInt (up2_k hV277 (by decide))
                            refine gA_int (gA_runV (As := [.int 44]) (rest := []) (ci := 12) (q0 := 0) hx hb hml hown hg hP hD hK hS hA hnw hgk (s_hasSignB l D ks H.size ad kk V277 L 44 hMV277 (show 1 ≤ (V277 0 8).toInt from by first | exact om_1499017b39b7 r248.1 f272 pq281 | first | omega | ((try (have i_xlp5_3 := Imp.go xlp5_3 (f15))); omega) | ((try (have i_hz276 := Imp.go hz276 (by omega))); (try (have i_xlp247_2 := Imp.go xlp247_2 (by omega))); (try (have i_hz242 := Imp.go hz242 (by omega))); (try (have i_xlp5_3 := Imp.go xlp5_3 (by omega))); first | omega | ((try (have i_xlp5_3 := Imp.go xlp5_3 (by omega))); (try (have i_hz242 := Imp.go hz242 (by omega))); (try (have i_xlp247_2 := Imp.go xlp247_2 (by omega))); (try (have i_hz276 := Imp.go hz276 (by omega))); omega)))) w2067 w2069 w94 w172 w2070 rfl rfl hdV_yX12_hasSign ⟨Nat.le_of_ble_eq_true rfl, Nat.le_of_ble_eq_true rfl⟩ rfl hl.1 rfl (Nat.le_of_ble_eq_true rfl) dX12_takeTypes_187 ⟨Nat.le_of_ble_eq_true rfl, Nat.le_of_ble_eq_true rfl⟩) hP hD hK hS hA (fun z282 u283 H locs w284 hP hD hK hS => ?_)
                            obtain ⟨V286, L287⟩ := u283
                            obtain ⟨hMV286, ajV286, axL287, rgz282, t285⟩ := w284
                            have axL287 : L = L287 := Eq.symm axL287
                            subst axL287
                            have hP : va_P D vwCl (mw ad kk ks.1 V286 L) H := hP
                            have hD : va_D A (mw ad kk ks.1 V286 L) := hD
                            have hMV286 : rgd bM V286 := hMV286
                            have ajV286 : agr [(0, 7)] [] V277 V286 := ajV286
                            have agV286 : agr [(0, 7), (0, 8)] [15, 21, 53] V V286 := agV277.tr ajV286 (by decide) (by decide)
                            have rgz282 : 0 ≤ z282.toInt ∧ z282.toInt ≤ 0 := rgz282
                            have t285 : (V286 0 8).toInt = (V277 0 8).toInt := t285
                            have pq288 : (V286 0 8).toInt = ((V246 0 8)).toInt := congrArg Int32.toInt ((ajV286 0 8 rfl).trans (up2_k hV277 (by decide)))
                            refine lv_istore (lv' := [(4, .int z282), (6, .int y245), (5, .int z16), (3, .int y2), (0, .ref (ad 0)), (1, .ref (ad 15)), (2, .int p1)]) hx hb dX12_takeTypes_190 hl (by decide) rfl (fun ls hl => ?_)
                            refine lv_goto (tgt := 5) hx hb dX12_takeTypes_192 (by decide) ?_
                            have pq289 : (V286 0 12).toInt = ((V 0 12)).toInt := congrArg Int32.toInt ((ajV286 0 12 rfl).trans ((up2_k hV277 (by decide)).trans ((ajV246 0 12 rfl).trans ((up2_k hV243 (by decide)).trans ((ajV20 0 12 rfl).trans (ajV3 0 12 rfl))))))
                            exact ihlp5 (g4 - 1) z282 y2 V286 H locs ls (by first | exact om_641b3f05f166 rgz282.1 rgz282.2 | first | omega | ((try (have i_xlp5_3 := Imp.go xlp5_3 (f15))); omega) | ((try (have i_hz276 := Imp.go hz276 (by omega))); (try (have i_xlp247_2 := Imp.go xlp247_2 (by omega))); (try (have i_hz242 := Imp.go hz242 (by omega))); (try (have i_xlp5_3 := Imp.go xlp5_3 (by omega))); first | omega | ((try (have i_xlp5_3 := Imp.go xlp5_3 (by omega))); (try (have i_hz242 := Imp.go hz242 (by omega))); (try (have i_xlp247_2 := Imp.go xlp247_2 (by omega))); (try (have i_hz276 := Imp.go hz276 (by omega))); omega))) (by first | exact om_420c7ba86e3d klp5_1.2 klp247_0.1 f270 | first | omega | ((try (have i_xlp5_3 := Imp.go xlp5_3 (f15))); omega) | ((try (have i_hz276 := Imp.go hz276 (by omega))); (try (have i_xlp247_2 := Imp.go xlp247_2 (by omega))); (try (have i_hz242 := Imp.go hz242 (by omega))); (try (have i_xlp5_3 := Imp.go xlp5_3 (by omega))); first | omega | ((try (have i_xlp5_3 := Imp.go xlp5_3 (by omega))); (try (have i_hz242 := Imp.go hz242 (by omega))); (try (have i_xlp247_2 := Imp.go xlp247_2 (by omega))); (try (have i_hz276 := Imp.go hz276 (by omega))); omega))) (Or.inr (Or.inr ⟨(show 1 ≤ (V286 0 8).toInt from by (first | exact om_14e1582db31a r248.1 f272 pq281 t285 | omega)), (fun k => by rw [show (V286 0 8).toInt = (V246 0 8).toInt from by omega]; exact hi k)⟩)) (show 0 ≤ (g4 - 1) from by first | exact om_76a34b28fb8f klp5_1.2 ((Imp.go xlp5_3 (f15))) | first | omega | ((try (have i_xlp5_3 := Imp.go xlp5_3 (f15))); omega) | ((try (have i_hz276 := Imp.go hz276 (by omega))); (try (have i_xlp247_2 := Imp.go xlp247_2 (by omega))); (try (have i_hz242 := Imp.go hz242 (by omega))); (try (have i_xlp5_3 := Imp.go xlp5_3 (by omega))); first | omega | ((try (have i_xlp5_3 := Imp.go xlp5_3 (by omega))); (try (have i_hz242 := Imp.go hz242 (by omega))); (try (have i_xlp247_2 := Imp.go xlp247_2 (by omega))); (try (have i_hz276 := Imp.go hz276 (by omega))); omega))) (show y2.toInt ≤ 6 from by first | exact om_1cd470348f7c klp5_1.2 | first | omega | ((try (have i_xlp5_3 := Imp.go xlp5_3 (f15))); omega) | ((try (have i_hz276 := Imp.go hz276 (by omega))); (try (have i_xlp247_2 := Imp.go xlp247_2 (by omega))); (try (have i_hz242 := Imp.go hz242 (by omega))); (try (have i_xlp5_3 := Imp.go xlp5_3 (by omega))); first | omega | ((try (have i_xlp5_3 := Imp.go xlp5_3 (by omega))); (try (have i_hz242 := Imp.go hz242 (by omega))); (try (have i_xlp247_2 := Imp.go xlp247_2 (by omega))); (try (have i_hz276 := Imp.go hz276 (by omega))); omega))) (Imp.mk (fun hp => have hp : (V286 0 8).toInt = 0 := hp; (show 7 - y2.toInt < (g4 - 1) from by first | omega | ((try (have i_xlp5_3 := Imp.go xlp5_3 (f15))); omega) | ((try (have i_hz276 := Imp.go hz276 (by omega))); (try (have i_xlp247_2 := Imp.go xlp247_2 (by omega))); (try (have i_hz242 := Imp.go hz242 (by omega))); (try (have i_xlp5_3 := Imp.go xlp5_3 (by omega))); first | omega | ((try (have i_xlp5_3 := Imp.go xlp5_3 (by omega))); (try (have i_hz242 := Imp.go hz242 (by omega))); (try (have i_xlp247_2 := Imp.go xlp247_2 (by omega))); (try (have i_hz276 := Imp.go hz276 (by omega))); omega))))) (show (V286 0 12).toInt = (V 0 12).toInt from by first | exact om_570b691c1130 pq289 | first | omega | ((try (have i_xlp5_3 := Imp.go xlp5_3 (f15))); omega) | ((try (have i_hz276 := Imp.go hz276 (by omega))); (try (have i_xlp247_2 := Imp.go xlp247_2 (by omega))); (try (have i_hz242 := Imp.go hz242 (by omega))); (try (have i_xlp5_3 := Imp.go xlp5_3 (by omega))); first | omega | ((try (have i_xlp5_3 := Imp.go xlp5_3 (by omega))); (try (have i_hz242 := Imp.go hz242 (by omega))); (try (have i_xlp247_2 := Imp.go xlp247_2 (by omega))); (try (have i_hz276 := Imp.go hz276 (by omega))); omega))) (by first | omega | ((try (have i_xlp5_3 := Imp.go xlp5_3 (f15))); omega) | ((try (have i_hz276 := Imp.go hz276 (by omega))); (try (have i_xlp247_2 := Imp.go xlp247_2 (by omega))); (try (have i_hz242 := Imp.go hz242 (by omega))); (try (have i_xlp5_3 := Imp.go xlp5_3 (by omega))); first | omega | ((try (have i_xlp5_3 := Imp.go xlp5_3 (by omega))); (try (have i_hz242 := Imp.go hz242 (by omega))); (try (have i_xlp247_2 := Imp.go xlp247_2 (by omega))); (try (have i_hz276 := Imp.go hz276 (by omega))); omega))) (agr.tr (agr.up (agr.tr (agr.up (agr.tr (agr.tr agr.rf ajV3 (by decide) (by decide)) ajV20 (by decide) (by decide)) hV243 rfl) ajV246 (by decide) (by decide)) hV277 rfl) ajV286 (by decide) (by decide)) hMV286 hP hD hS (lv_sub hl [0, 3, 4, 5, 6] rfl)
                          · skip
                            have f290 : ((V246 0 8)).toInt = 0 := b_eq rfl (by decide) c278
                            exfalso; first | exact om_0abcda13baee r248.1 f272 f290 | first | omega | ((try (have i_xlp5_3 := Imp.go xlp5_3 (f15))); omega) | ((try (have i_hz276 := Imp.go hz276 (by omega))); (try (have i_xlp247_2 := Imp.go xlp247_2 (by omega))); (try (have i_hz242 := Imp.go hz242 (by omega))); (try (have i_xlp5_3 := Imp.go xlp5_3 (by omega))); first | omega | ((try (have i_xlp5_3 := Imp.go xlp5_3 (by omega))); (try (have i_hz242 := Imp.go hz242 (by omega))); (try (have i_xlp247_2 := Imp.go xlp247_2 (by omega))); (try (have i_hz276 := Imp.go hz276 (by omega))); omega))
                        · skip
                          have f291 : ((V246 0 8)).toInt = 0 := b_eq rfl (by decide) c273
                          exfalso; first | exact om_0abcda13baee r248.1 f272 f291 | first | omega | ((try (have i_xlp247_2 := Imp.go xlp247_2 (by omega))); (try (have i_hz242 := Imp.go hz242 (by omega))); (try (have i_xlp5_3 := Imp.go xlp5_3 (by omega))); (try (have i_xlp5_3 := Imp.go xlp5_3 (by omega))); (try (have i_hz242 := Imp.go hz242 (by omega))); (try (have i_xlp247_2 := Imp.go xlp247_2 (by omega))); omega)
                      · skip
                        have f292 : ((V246 0 8)).toInt = 0 := b_eq rfl (by decide) c271
                        exfalso; first | exact om_09885ab343b9 f7 f292 | first | omega | ((try (have i_xlp247_2 := Imp.go xlp247_2 (by omega))); (try (have i_hz242 := Imp.go hz242 (by omega))); (try (have i_xlp5_3 := Imp.go xlp5_3 (by omega))); (try (have i_xlp5_3 := Imp.go xlp5_3 (by omega))); (try (have i_hz242 := Imp.go hz242 (by omega))); (try (have i_xlp247_2 := Imp.go xlp247_2 (by omega))); omega)
              have r293 : Int32.toInt 0 = 0 := by decide
              exact lp247 ((y2.toInt - (Int32.toInt 0) + 1 : Int).toNat) 0 V243 H locs ls (by decide) (Or.inr ⟨(show 1 ≤ (V243 0 8).toInt from by omega), (fun k => by rw [show (V243 0 8).toInt = (V20 0 8).toInt from by omega]; exact hb239 k)⟩) (show (Int32.toInt 0) ≤ y2.toInt from by first | exact om_6f9bb8cf3bec klp5_1.1 r293 | first | omega | ((try (have i_hz242 := Imp.go hz242 (by omega))); (try (have i_xlp5_3 := Imp.go xlp5_3 (by omega))); (try (have i_xlp5_3 := Imp.go xlp5_3 (by omega))); (try (have i_hz242 := Imp.go hz242 (by omega))); omega)) (Imp.mk (fun hp => have hp : 1 ≤ (V243 0 8).toInt := hp; (show (V243 0 8).toInt = (V243 0 8).toInt from by first | exact om_4c2c879c4424 | first | omega | ((try (have i_hz242 := Imp.go hz242 (by omega))); (try (have i_xlp5_3 := Imp.go xlp5_3 (by omega))); (try (have i_xlp5_3 := Imp.go xlp5_3 (by omega))); (try (have i_hz242 := Imp.go hz242 (by omega))); omega)))) (by first | exact om_7441a7786481 | first | omega | ((try (have i_hz242 := Imp.go hz242 (by omega))); (try (have i_xlp5_3 := Imp.go xlp5_3 (by omega))); (try (have i_xlp5_3 := Imp.go xlp5_3 (by omega))); (try (have i_hz242 := Imp.go hz242 (by omega))); omega)) agr.rf hMV243 hP hD hS (lv_sub hl [0, 1, 2, 3, 4, 5, 6] rfl)
      · skip
        have fz294 := RelM.rg rq
        refine lv_if_eq (tgt := 195) hx hb dX12_takeTypes_7 (by decide) (fun c295 => ?_) (fun c295 => ?_)
        · skip
          have f296 : y1.toInt = 0 := b_eq rfl (by decide) c295
          exact W.vret hx hb hr (fun t ht hW => ⟨⟨(V3, L), rfl, ⟨hMV3, agV3, rfl, (Or.inl ⟨W0 rq, s1, sn, hq, rq, keepS.le (keepS.tr (keepS.rf : keepS gs 0 gs) kq) (by decide), (show keepL gs s1 from fun j9 h9 => ((show ∀ j9, 5 ≤ j9 → s1.2.1 j9 = gs.2.1 j9 from ll9) j9 h9).trans ((show keepL gs gs from fun _ _ => rfl) j9 h9)), (UNm.ag uq (rfl : V3 15 = V3 15)), cq⟩)⟩, by rw [ht]; exact hP, va_K.moved hW.alike hK, hD⟩, hS.F ht⟩) hS.2.2 dX12_takeTypes_195
        · skip
          have f297 : y1.toInt ≠ 0 := b_neq rfl (by decide) c295
          exfalso; first | omega | ((try (have i_xlp5_3 := Imp.go xlp5_3 (by omega))); omega)
      · skip
        refine lv_if_eq (tgt := 195) hx hb dX12_takeTypes_7 (by decide) (fun c298 => ?_) (fun c298 => ?_)
        · skip
          have f299 : y1.toInt = 0 := b_eq rfl (by decide) c298
          exact W.vret hx hb hr (fun t ht hW => ⟨⟨(V3, L), rfl, ⟨hMV3, agV3, rfl, (Or.inr ⟨(show 1 ≤ (V3 0 8).toInt from by omega), hq⟩)⟩, by rw [ht]; exact hP, va_K.moved hW.alike hK, hD⟩, hS.F ht⟩) hS.2.2 dX12_takeTypes_195
        · skip
          have f300 : y1.toInt ≠ 0 := b_neq rfl (by decide) c298
          refine lv_aload_n hx hb dX12_takeTypes_10 rfl (lv_at hl 2 rfl) ?_
          refine va_get (D := D) (ci := 12) (v := .int (V3 0 8)) (C := RX12) (T := TX12) (N := 100) hx hb hg inX12 hown hK hP 0 rfl rfl 8 (by decide) (hg _ w1714) (fun _ h9 => h9) rfl dX12_takeTypes_11 ?_
          refine lv_if_ne (tgt := 195) hx hb dX12_takeTypes_14 (by decide) (fun c301 => ?_) (fun c301 => ?_)
          · skip
            have f302 : ((V3 0 8)).toInt ≠ 0 := b_neq rfl (by decide) c301
            exact W.vret hx hb hr (fun t ht hW => ⟨⟨(V3, L), rfl, ⟨hMV3, agV3, rfl, (Or.inr ⟨(show 1 ≤ (V3 0 8).toInt from by (first | exact om_76052c512981 r6.1 f302 | omega)), hq⟩)⟩, by rw [ht]; exact hP, va_K.moved hW.alike hK, hD⟩, hS.F ht⟩) hS.2.2 dX12_takeTypes_195
          · skip
            have f303 : ((V3 0 8)).toInt = 0 := b_eq rfl (by decide) c301
            exfalso; first | omega | ((try (have i_xlp5_3 := Imp.go xlp5_3 (by omega))); omega)
  have r304 : Int32.toInt 1 = 1 := by decide
  have r305 : Int32.toInt 0 = 0 := by decide
  have r306 : 0 ≤ ((V 0 8)).toInt ∧ ((V 0 8)).toInt ≤ 70000 := hMV 0 8
  have r307 : 0 ≤ ((V 0 12)).toInt ∧ ((V 0 12)).toInt ≤ 1 := hMV 0 12
  have z00 : (Int32.toInt 0).toNat = 0 := by decide
  exact lp5 ((9 + 1 : Int).toNat) 9 1 0 V H locs ls (by decide) (by decide) (Or.inl ⟨W0 rel, by decide, gs, [], (by rw [z00]; exact fun k => Rc.rf), rel, ⟨keepS.rf, fun _ _ => rfl⟩, LST.z (by decide), UNm.z, cnm⟩) (show 0 ≤ 9 from by omega) (show (Int32.toInt 0) ≤ 6 from by (first | exact om_5d5a707c7800 r305 | omega)) (Imp.mk (fun hp => have hp : (V 0 8).toInt = 0 := hp; (show 7 - (Int32.toInt 0) < 9 from by (first | exact om_f530ea408148 r305 | omega)))) (show (V 0 12).toInt = (V 0 12).toInt from by (first | exact om_4c2c879c4424 | omega)) (by (first | exact om_2f55e767c825 | omega)) agr.rf hMV hP hD hS (lv_sub hl [0, 1, 2, 3, 4] rfl)
abbrev r_s_takeTypesA21 : Room := { frames := 3, cells := 0, slots := 0, locals := 71 }
abbrev q_s_takeTypesA21 (D : va_G) (ks : KS) (ad : Nat → Nat) (kk : Nat → ClassId) (V : Vf) (L : Lf) (p1 : Int32) (bq : Nat) (gn : Nat) (gT : Tk) (gs : St) (gl : List Int64) (gy : Int) (gw : Int64) (go : Nat) (A : Nat → Prop) : Array Value → State → Outcome → State → Prop := va_Qv (fun (u : Vf × Lf) => rgd bM u.1 ∧ agr [(0, 7), (0, 8)] [15, 21, 53] V u.1 ∧ u.2 = L ∧ (RdTm gT gs gy gw (u.1 0 8).toInt (fun s9 sn => RelM u.1 u.2 bq gn gT s9 gl ∧ keepS gs 1 s9 ∧ keepL gs s9 ∧ UNm 21 go V u.1 gs.1 sn ∧ CNm u.1 bq gs))) (fun u t => gq D A (mw ad kk ks.1 u.1 u.2) (mty kk) t) A
set_option maxHeartbeats 4000000 in
set_option maxRecDepth 100000 in
theorem s_takeTypesA21 (l : Launch) (D : va_G) (ks : KS) (sz : Nat) (ad : Nat → Nat) (kk : Nat → ClassId) (V : Vf) (L : Lf) (p1 : Int32) (bq : Nat) (gn : Nat) (gT : Tk) (gs : St) (gl : List Int64) (gy : Int) (gw : Int64) (go : Nat) (hMV : rgd bM V) (rg_p1 : 0 ≤ p1.toInt ∧ p1.toInt ≤ 47) (rel : RelM V L bq gn gT gs gl) (pgo : p1.toInt = (go : Int)) (gfr : go = 24 * bq + (gs.2.1 2).length) (cnm : CNm V bq gs)  : Met l yX12_takeTypes (Cond.code yX12_takeTypes cX12_takeTypes 7 none :: GW) r_s_takeTypesA21 (va_Pc [.ref (ad 0), .ref (ad 21), .int p1] (gp D ks (mw ad kk ks.1 V L) (mty kk) sz)) (q_s_takeTypesA21 D ks ad kk V L p1 bq gn gT gs gl gy gw go (va_A (mw ad kk ks.1 V L) sz)) 0 0 (va_A (mw ad kk ks.1 V L) sz) := by
  refine g_met (q_s_takeTypesA21 D ks ad kk V L p1 bq gn gT gs gl gy gw go) (by decide) (Nat.le_of_ble_eq_true rfl) ?_
  intro p e s m below meth c A ls H locs hx hb hr hml hown hg hlocks hin hnw hgk hP hK hD hS hA hl
  have hown : s.vm.findClass RX12 = some m.cls := hown
  have hl : lv_has ls 7 [(0, .ref (ad 0)), (1, .ref (ad 21)), (2, .int p1)] := hl
  have hP : va_P D vwCl (mw ad kk ks.1 V L) H := hP
  have hD : va_D A (mw ad kk ks.1 V L) := hD
  have hK : va_K D vwCl (mty kk) s := hK
  have agV : agr [(0, 7), (0, 8)] [15, 21, 53] V V := agr.rf
  have rf_p1 := i_full p1
  have rg0 := RelM.rg rel
  have cl0 := RelM.cl rel
  have cq0 := RelM.cq rel
  refine lv_iconst (v := 0) hx hb dX12_takeTypes_0 (by decide) ?_
  refine lv_istore_n (lv' := [(3, .int 0), (0, .ref (ad 0)), (1, .ref (ad 21)), (2, .int p1)]) hx hb dX12_takeTypes_1 rfl hl (by decide) rfl (fun ls hl => ?_)
  refine lv_iconst (v := 1) hx hb dX12_takeTypes_2 (by decide) ?_
  refine lv_istore (lv' := [(4, .int 1), (3, .int 0), (0, .ref (ad 0)), (1, .ref (ad 21)), (2, .int p1)]) hx hb dX12_takeTypes_3 hl (by decide) rfl (fun ls hl => ?_)
  have lp5 : ∀ (fulp5 : Nat) (g4 : Int) (y1 : Int32) (y2 : Int32) (V3 : Vf) (H : Heap) (locs : List Loc) (ls : Array Slot), 0 ≤ y1.toInt ∧ y1.toInt ≤ 1 → 0 ≤ y2.toInt ∧ y2.toInt ≤ 6 → LTI V 21 go gy gw V3 L bq gn gT gs gl y2.toInt y1.toInt → 0 ≤ g4 → y2.toInt ≤ 6 → Imp ((V3 0 8).toInt = 0) (7 - y2.toInt < g4) → (V3 0 12).toInt = (V 0 12).toInt → g4 < (fulp5 : Int) → agr [(0, 7), (0, 8)] [15, 21, 53] V V3 → rgd bM V3 → va_P D vwCl (mw ad kk ks.1 V3 L) H → va_D A (mw ad kk ks.1 V3 L) → va_S A s.heap H locs → lv_has ls 7 [(4, .int y1), (3, .int y2), (0, .ref (ad 0)), (1, .ref (ad 21)), (2, .int p1)] → W p l e r_s_takeTypesA21 s m ([.ref (ad 0), .ref (ad 21), .int p1] : List Value).toArray below meth c H locs 0 0 (MQ below (q_s_takeTypesA21 D ks ad kk V L p1 bq gn gT gs gl gy gw go A) ([.ref (ad 0), .ref (ad 21), .int p1] : List Value).toArray s 0 0 A) (F0 m 5 ls []) := by
    intro fulp5
    induction fulp5 with
    | zero =>
      intro g4 y1 y2 V3 H locs ls klp5_0 klp5_1 xlp5_0 xlp5_1 xlp5_2 xlp5_3 xlp5_4 hn ajV3 hMV3 hP hD hS hl
      exfalso; (first | exact om_21e89d3d06d7 xlp5_1 hn | omega)
    | succ fulp5 ihlp5 =>
      intro g4 y1 y2 V3 H locs ls klp5_0 klp5_1 xlp5_0 xlp5_1 xlp5_2 xlp5_3 xlp5_4 hn ajV3 hMV3 hP hD hS hl
      have agV3 : agr [(0, 7), (0, 8)] [15, 21, 53] V V3 := agV.tr ajV3 (by decide) (by decide)
      have r6 : 0 ≤ ((V3 0 8)).toInt ∧ ((V3 0 8)).toInt ≤ 70000 := hMV3 0 8
      have pq7 : (V3 0 12).toInt = ((V 0 12)).toInt := congrArg Int32.toInt (ajV3 0 12 rfl)
      have r8 : 0 ≤ ((V 0 12)).toInt ∧ ((V 0 12)).toInt ≤ 1 := hMV 0 12
      refine lv_iload hx hb dX12_takeTypes_5 (lv_at hl 0 rfl) ?_
      rcases xlp5_0 with ⟨f8, m8, s1, sn, hq, rq, ⟨kq, ll9⟩, lq, uq, cq⟩ | ⟨f8, m8, s1, sn, hq, rq, ⟨kq, ll9⟩, uq, cq⟩ | ⟨f8, hq⟩
      · skip
        have fz9 := RelM.rg rq
        refine lv_if_eq (tgt := 195) hx hb dX12_takeTypes_7 (by decide) (fun c10 => ?_) (fun c10 => ?_)
        · skip
          have f11 : y1.toInt = 0 := b_eq rfl (by decide) c10
          exfalso; first | omega | ((try (have i_xlp5_3 := Imp.go xlp5_3 (by omega))); omega)
        · skip
          have f12 : y1.toInt ≠ 0 := b_neq rfl (by decide) c10
          refine lv_aload_n hx hb dX12_takeTypes_10 rfl (lv_at hl 2 rfl) ?_
          refine va_get (D := D) (ci := 12) (v := .int (V3 0 8)) (C := RX12) (T := TX12) (N := 100) hx hb hg inX12 hown hK hP 0 rfl rfl 8 (by decide) (hg _ w1714) (fun _ h9 => h9) rfl dX12_takeTypes_11 ?_
          refine lv_if_ne (tgt := 195) hx hb dX12_takeTypes_14 (by decide) (fun c13 => ?_) (fun c13 => ?_)
          · skip
            have f14 : ((V3 0 8)).toInt ≠ 0 := b_neq rfl (by decide) c13
            exfalso; first | omega | ((try (have i_xlp5_3 := Imp.go xlp5_3 (by omega))); omega)
          · skip
            have f15 : ((V3 0 8)).toInt = 0 := b_eq rfl (by decide) c13
            refine lv_aload_n hx hb dX12_takeTypes_17 rfl (lv_at hl 2 rfl) ?_
            refine gA_int (gA_runV (As := []) (rest := []) (ci := 12) (q0 := 0) hx hb hml hown hg hP hD hK hS hA hnw hgk (s_takeTypeA l D ks H.size ad kk V3 L (bq) (gn) (gT) (s1) (gl) hMV3 rq) w2059 w2061 w92 w172 w2062 rfl rfl hdV_yX12_takeType ⟨Nat.le_of_ble_eq_true rfl, Nat.le_of_ble_eq_true rfl⟩ rfl hl.1 rfl (Nat.le_of_ble_eq_true rfl) dX12_takeTypes_18 ⟨Nat.le_of_ble_eq_true rfl, Nat.le_of_ble_eq_true rfl⟩) hP hD hK hS hA (fun z16 u17 H locs w18 hP hD hK hS => ?_)
            obtain ⟨V20, L21⟩ := u17
            obtain ⟨hMV20, ajV20, axL21, rgz16, t19⟩ := w18
            have axL21 : L = L21 := Eq.symm axL21
            subst axL21
            have hP : va_P D vwCl (mw ad kk ks.1 V20 L) H := hP
            have hD : va_D A (mw ad kk ks.1 V20 L) := hD
            have hMV20 : rgd bM V20 := hMV20
            have ajV20 : agr [(0, 7), (0, 8)] [] V3 V20 := ajV20
            have agV20 : agr [(0, 7), (0, 8)] [15, 21, 53] V V20 := agV3.tr ajV20 (by decide) (by decide)
            have rgz16 : (-1) ≤ z16.toInt ∧ z16.toInt ≤ 23 := rgz16
            have t19 : KmN (look (gT) (s1) ((s1).2.1 0)) (V20 0 8).toInt (fun f9 => RelM V20 L (bq) (gn) (gT) (nx (s1) 1) (gl) ∧ z16.toInt = ((f9 : Nat) : Int) ∧ f9 < 24) := t19
            rcases t19 with ⟨q22, fx23, h24, rl25, hf26, hb27⟩ | ⟨q22, h24⟩
            · skip
              have ps28 : (nx s1 1).1 0 = s1.1 0 + 1 := rfl
              have fz29 := RelM.rg rl25
              have r30 : 0 ≤ ((V20 0 8)).toInt ∧ ((V20 0 8)).toInt ≤ 70000 := hMV20 0 8
              refine lv_istore (lv' := [(5, .int z16), (4, .int y1), (3, .int y2), (0, .ref (ad 0)), (1, .ref (ad 21)), (2, .int p1)]) hx hb dX12_takeTypes_21 hl (by decide) rfl (fun ls hl => ?_)
              refine lv_aload_n hx hb dX12_takeTypes_23 rfl (lv_at hl 3 rfl) ?_
              refine lv_dup hx hb dX12_takeTypes_24 rfl ?_
              refine va_get (D := D) (ci := 12) (v := .int (V20 0 7)) (C := RX12) (T := TX12) (N := 100) hx hb hg inX12 hown hK hP 0 rfl rfl 7 (by decide) (hg _ w1713) (fun _ h9 => h9) rfl dX12_takeTypes_25 ?_
              refine lv_iconst (v := 1) hx hb dX12_takeTypes_28 (by decide) ?_
              refine lv_isub hx hb dX12_takeTypes_29 ?_
              refine lv_topi (fun z31 ez31 => ?_)
              have hz31 : z31.toInt = ((V20 0 7)).toInt - 1 := i_sub ez31 rfl (by decide) (by omega)
              refine va_put (D := D) (ci := 12) (v := .int z31) (ty := tyX12 7) (C := RX12) (T := TX12) (N := 100) hx hb hg inX12 tyX12 tyX12_ok nmX12 hown hK hP hD hS 0 rfl rfl 7 (by decide) (hg _ w1713) (fun _ h9 => h9) rfl (tyX12_ok 7 (by decide)) rfl rfl (Nat.le_of_ble_eq_true rfl) dX12_takeTypes_30 (fun H locs hP hD hS => ?_)
              obtain ⟨V32, hV32⟩ : ∃ z, z = up2 V20 0 7 z31 := ⟨_, rfl⟩
              have hP : va_P D vwCl (mw ad kk ks.1 V32 L) H := by rw [hV32]; exact hP
              have hD : va_D A (mw ad kk ks.1 V32 L) := by rw [hV32]; exact hD
              have hMV32 : rgd bM V32 := hMV20.put hV32 (i_full _)
              have agV32 : agr [(0, 7), (0, 8)] [15, 21, 53] V V32 := agV20.up hV32 rfl
              have pq33 : (V32 0 8).toInt = ((V20 0 8)).toInt := congrArg Int32.toInt (up2_k hV32 (by decide))
              have rz34 : -5 ≤ z31.toInt ∧ z31.toInt ≤ 5000 := by first | omega | ((try (have i_xlp5_3 := Imp.go xlp5_3 (by omega))); omega)
              have rl35 : RelM V32 L bq gn gT s1 gl := RelM.v8 rl25 hV32 (by (first | exact om_a53909a885f5 hz31 | omega))
              have fz36 := RelM.rg rl35
              have pq37 : (V32 0 7).toInt = z31.toInt := congrArg Int32.toInt (up2_s hV32)
              refine lv_iconst (v := 0) hx hb dX12_takeTypes_33 (by decide) ?_
              refine lv_istore (lv' := [(6, .int 0), (5, .int z16), (4, .int y1), (3, .int y2), (0, .ref (ad 0)), (1, .ref (ad 21)), (2, .int p1)]) hx hb dX12_takeTypes_34 hl (by decide) rfl (fun ls hl => ?_)
              have lp40 : ∀ (fulp40 : Nat) (y38 : Int32) (V39 : Vf) (H : Heap) (locs : List Loc) (ls : Array Slot), 0 ≤ y38.toInt ∧ y38.toInt ≤ 6 → (((V39 0 8).toInt = 0 ∧ RelM V39 L bq gn gT s1 gl ∧ (∀ k : Nat, (k : Int) < y38.toInt → (V39 53 k).toInt ≠ z16.toInt)) ∨ (1 ≤ (V39 0 8).toInt ∧ ∀ k, Rc gT (Crun gs (Itypes gy gw 0 [] :: k)) (Cbad (V39 0 8).toInt))) → y38.toInt ≤ y2.toInt → Imp (1 ≤ (V32 0 8).toInt) ((V39 0 8).toInt = (V32 0 8).toInt) → y2.toInt - y38.toInt < (fulp40 : Int) → agr [(0, 8)] [] V32 V39 → rgd bM V39 → va_P D vwCl (mw ad kk ks.1 V39 L) H → va_D A (mw ad kk ks.1 V39 L) → va_S A s.heap H locs → lv_has ls 7 [(6, .int y38), (5, .int z16), (4, .int y1), (3, .int y2), (0, .ref (ad 0)), (1, .ref (ad 21)), (2, .int p1)] → W p l e r_s_takeTypesA21 s m ([.ref (ad 0), .ref (ad 21), .int p1] : List Value).toArray below meth c H locs 0 0 (MQ below (q_s_takeTypesA21 D ks ad kk V L p1 bq gn gT gs gl gy gw go A) ([.ref (ad 0), .ref (ad 21), .int p1] : List Value).toArray s 0 0 A) (F0 m 36 ls []) := by
                (try clear fz36); (try clear rl35); (try clear fz29); (try clear ps28); (try clear fz9)
                intro fulp40
                induction fulp40 with
                | zero =>
                  intro y38 V39 H locs ls klp40_0 xlp40_0 xlp40_1 xlp40_2 hn ajV39 hMV39 hP hD hS hl
                  exfalso; (first | exact om_4634b1278845 xlp40_1 hn | omega)
                | succ fulp40 ihlp40 =>
                  intro y38 V39 H locs ls klp40_0 xlp40_0 xlp40_1 xlp40_2 hn ajV39 hMV39 hP hD hS hl
                  have agV39 : agr [(0, 7), (0, 8)] [15, 21, 53] V V39 := agV32.tr ajV39 (by decide) (by decide)
                  refine lv_iload hx hb dX12_takeTypes_36 (lv_at hl 0 rfl) ?_
                  rcases xlp40_0 with ⟨f7, ri, ni⟩ | ⟨f7, hi⟩
                  · skip
                    have fz41 := RelM.rg ri
                    have r42 : 0 ≤ ((V39 0 8)).toInt ∧ ((V39 0 8)).toInt ≤ 70000 := hMV39 0 8
                    have pq43 : (V39 0 7).toInt = z31.toInt := congrArg Int32.toInt ((ajV39 0 7 rfl).trans (up2_s hV32))
                    refine lv_iload_n hx hb dX12_takeTypes_38 rfl (lv_at hl 3 rfl) ?_
                    refine lv_icmp_ge (tgt := 72) hx hb dX12_takeTypes_39 (by decide) (fun c44 => ?_) (fun c44 => ?_)
                    · skip
                      have f45 : y2.toInt ≤ y38.toInt := b_le rfl rfl c44
                      refine lv_aload_n hx hb dX12_takeTypes_72 rfl (lv_at hl 4 rfl) ?_
                      refine va_get (D := D) (ci := 12) (v := .int (V39 0 8)) (C := RX12) (T := TX12) (N := 100) hx hb hg inX12 hown hK hP 0 rfl rfl 8 (by decide) (hg _ w1714) (fun _ h9 => h9) rfl dX12_takeTypes_73 ?_
                      refine lv_if_ne (tgt := 90) hx hb dX12_takeTypes_76 (by decide) (fun c46 => ?_) (fun c46 => ?_)
                      · skip
                        have f47 : ((V39 0 8)).toInt ≠ 0 := b_neq rfl (by decide) c46
                        exfalso; first | exact om_0b51723c7ef6 f7 f47 | first | omega | ((try (have i_xlp40_2 := Imp.go xlp40_2 (by omega))); (try (have i_xlp5_3 := Imp.go xlp5_3 (by omega))); (try (have i_xlp5_3 := Imp.go xlp5_3 (by omega))); (try (have i_xlp40_2 := Imp.go xlp40_2 (by omega))); omega)
                      · skip
                        have f48 : ((V39 0 8)).toInt = 0 := b_eq rfl (by decide) c46
                        refine lv_iload_n hx hb dX12_takeTypes_79 rfl (lv_at hl 3 rfl) ?_
                        refine lv_bipush (v := 6) hx hb dX12_takeTypes_80 (by decide) ?_
                        refine lv_icmp_ne (tgt := 90) hx hb dX12_takeTypes_82 (by decide) (fun c49 => ?_) (fun c49 => ?_)
                        · skip
                          have f50 : y2.toInt ≠ 6 := b_neq rfl (by decide) c49
                          refine lv_aload_n hx hb dX12_takeTypes_90 rfl (lv_at hl 4 rfl) ?_
                          refine lv_dup hx hb dX12_takeTypes_91 rfl ?_
                          refine va_get (D := D) (ci := 12) (v := .int (V39 0 7)) (C := RX12) (T := TX12) (N := 100) hx hb hg inX12 hown hK hP 0 rfl rfl 7 (by decide) (hg _ w1713) (fun _ h9 => h9) rfl dX12_takeTypes_92 ?_
                          refine g_top (v := z31) ((ajV39 0 7 rfl).trans (up2_s hV32)) ?_
                          refine lv_iconst (v := 1) hx hb dX12_takeTypes_95 (by decide) ?_
                          refine lv_iadd hx hb dX12_takeTypes_96 ?_
                          refine lv_topi (fun z51 ez51 => ?_)
                          have hz51 : z51.toInt = z31.toInt + 1 := i_add ez51 rfl (by decide) (by (first | exact om_37595bfb6665 rz34.1 rz34.2 | omega))
                          refine va_put (D := D) (ci := 12) (v := .int z51) (ty := tyX12 7) (C := RX12) (T := TX12) (N := 100) hx hb hg inX12 tyX12 tyX12_ok nmX12 hown hK hP hD hS 0 rfl rfl 7 (by decide) (hg _ w1713) (fun _ h9 => h9) rfl (tyX12_ok 7 (by decide)) rfl rfl (Nat.le_of_ble_eq_true rfl) dX12_takeTypes_97 (fun H locs hP hD hS => ?_)
                          obtain ⟨V52, hV52⟩ : ∃ z, z = up2 V39 0 7 z51 := ⟨_, rfl⟩
                          have hP : va_P D vwCl (mw ad kk ks.1 V52 L) H := by rw [hV52]; exact hP
                          have hD : va_D A (mw ad kk ks.1 V52 L) := by rw [hV52]; exact hD
                          have hMV52 : rgd bM V52 := hMV39.put hV52 (i_full _)
                          have agV52 : agr [(0, 7), (0, 8)] [15, 21, 53] V V52 := agV39.up hV52 rfl
                          have nn53 : fx23 ∉ sn := (LST.no (LST.ag lq (by rw [(funext (fun q => ajV39 53 q rfl) : V39 53 = V32 53), (up2_fo hV32 (by decide) : V32 53 = V20 53), (funext (fun q => ajV20 53 q rfl) : V20 53 = V3 53)] : V39 53 = V3 53)) (fun k h9 => by rw [← hf26]; exact ni k (by omega)))
                          have kd54 : gT.1 (s1.1 0) ≠ 0 := look_ne h24
                          have rl55 : RelM V52 L bq gn gT (nx s1 1) gl := RelM.n1 ri hV52 (by (first | exact om_f8adf868c938 pq43 hz51 | omega)) kd54
                          have hr56 : ∀ k, Rc gT (Crun gs (Itypes gy gw 0 [] :: k)) (Crun (nx s1 1) (Imore gy gw (y2.toInt.toNat + 1) (fx23 :: sn) :: k)) := fun k => Rc.go1 (hq k) (ty_y h24 nn53 (by omega))
                          have fz57 := RelM.rg rl55
                          have pq58 : (V52 0 8).toInt = ((V39 0 8)).toInt := congrArg Int32.toInt (up2_k hV52 (by decide))
                          have pq59 : (V52 0 7).toInt = z51.toInt := congrArg Int32.toInt (up2_s hV52)
                          refine lv_aload_n hx hb dX12_takeTypes_100 rfl (lv_at hl 4 rfl) ?_
                          refine va_get (D := D) (ci := 12) (v := .int (V52 0 8)) (C := RX12) (T := TX12) (N := 100) hx hb hg inX12 hown hK hP 0 rfl rfl 8 (by decide) (hg _ w1714) (fun _ h9 => h9) rfl dX12_takeTypes_101 ?_
                          refine g_top (v := (V39 0 8)) (up2_k hV52 (by decide)) ?_
                          refine lv_if_ne (tgt := 184) hx hb dX12_takeTypes_104 (by decide) (fun c60 => ?_) (fun c60 => ?_)
                          · skip
                            have f61 : ((V39 0 8)).toInt ≠ 0 := b_neq rfl (by decide) c60
                            exfalso; first | exact om_fb320d7600b7 r42.1 f48 f61 | first | omega | ((try (have i_xlp40_2 := Imp.go xlp40_2 (by omega))); (try (have i_xlp5_3 := Imp.go xlp5_3 (by omega))); (try (have i_xlp5_3 := Imp.go xlp5_3 (by omega))); (try (have i_xlp40_2 := Imp.go xlp40_2 (by omega))); omega)
                          · skip
                            have f62 : ((V39 0 8)).toInt = 0 := b_eq rfl (by decide) c60
                            refine lv_aload_n hx hb dX12_takeTypes_107 rfl (lv_at hl 4 rfl) ?_
                            refine va_get (D := D) (ci := 12) (v := .ref (ad 53)) (C := RX12) (T := TX12) (N := 100) hx hb hg inX12 hown hK hP 0 rfl rfl 53 (by decide) (hg _ w1759) (fun _ h9 => h9) rfl dX12_takeTypes_108 ?_
                            refine lv_iload_n hx hb dX12_takeTypes_111 rfl (lv_at hl 3 rfl) ?_
                            refine lv_iload hx hb dX12_takeTypes_112 (lv_at hl 1 rfl) ?_
                            refine va_iast (D := D) (i := y2) (x := z16) hx hb hK hP hD hS 41 40 rfl rfl (i_in (a := y2.toInt) rfl (by first | exact om_24404d21e4ca klp5_1.1 klp5_1.2 f50 | first | omega | ((try (have i_xlp40_2 := Imp.go xlp40_2 (by omega))); (try (have i_xlp5_3 := Imp.go xlp5_3 (by omega))); (try (have i_xlp5_3 := Imp.go xlp5_3 (by omega))); (try (have i_xlp40_2 := Imp.go xlp40_2 (by omega))); omega))) dX12_takeTypes_114 (fun H locs hP hD hS => ?_)
                            obtain ⟨V63, hV63⟩ : ∃ z, z = up2 V52 53 (Int32.toNatClampNeg y2) z16 := ⟨_, rfl⟩
                            have hP : va_P D vwCl (mw ad kk ks.1 V63 L) H := by rw [hV63]; exact hP
                            have hD : va_D A (mw ad kk ks.1 V63 L) := by rw [hV63]; exact hD
                            have hMV63 : rgd bM V63 := hMV52.put hV63 (show (-1) ≤ z16.toInt ∧ z16.toInt ≤ 23 from by first | exact om_b5ea211f5a81 rgz16.1 rgz16.2 | first | omega | ((try (have i_xlp40_2 := Imp.go xlp40_2 (by omega))); (try (have i_xlp5_3 := Imp.go xlp5_3 (by omega))); (try (have i_xlp5_3 := Imp.go xlp5_3 (by omega))); (try (have i_xlp40_2 := Imp.go xlp40_2 (by omega))); omega))
                            have agV63 : agr [(0, 7), (0, 8)] [15, 21, 53] V V63 := agV52.up hV63 rfl
                            obtain ⟨z65, ez65⟩ : ∃ y : Int32, y = y2 + 1 := ⟨_, rfl⟩
                            have hz65 : z65.toInt = y2.toInt + 1 := i_add ez65 rfl (by decide) (by (first | exact om_875f8b1f1696 klp5_1.1 klp5_1.2 f50 | omega))
                            refine lv_iinc (v := z65) (lv' := [(3, .int z65), (6, .int y38), (5, .int z16), (4, .int y1), (0, .ref (ad 0)), (1, .ref (ad 21)), (2, .int p1)]) hx hb dX12_takeTypes_115 hl (k := 3) rfl (by rw [ez65]; rfl) (by decide) rfl (fun ls hl => ?_)
                            have ls66 : LST V63 z65.toInt (fx23 :: sn) := LST.add (LST.ag lq (by rw [(up2_fo hV52 (by decide) : V52 53 = V39 53), (funext (fun q => ajV39 53 q rfl) : V39 53 = V32 53), (up2_fo hV32 (by decide) : V32 53 = V20 53), (funext (fun q => ajV20 53 q rfl) : V20 53 = V3 53)] : V52 53 = V3 53)) hV63 rfl (by omega) (by omega) (by omega)
                            refine lv_iconst (v := 0) hx hb dX12_takeTypes_118 (by decide) ?_
                            refine lv_istore (lv' := [(6, .int 0), (3, .int z65), (5, .int z16), (4, .int y1), (0, .ref (ad 0)), (1, .ref (ad 21)), (2, .int p1)]) hx hb dX12_takeTypes_119 hl (by decide) rfl (fun ls hl => ?_)
                            have lp69 : ∀ (fulp69 : Nat) (y67 : Int32) (V68 : Vf) (H : Heap) (locs : List Loc) (ls : Array Slot), 0 ≤ y67.toInt ∧ y67.toInt ≤ 24 → (UNx 21 go V V68 gs.1 y67.toInt (fx23 :: sn) sn) → (CNm V68 bq gs) → 24 - y67.toInt < (fulp69 : Int) → agr [] [15, 21] V63 V68 → rgd bM V68 → va_P D vwCl (mw ad kk ks.1 V68 L) H → va_D A (mw ad kk ks.1 V68 L) → va_S A s.heap H locs → lv_has ls 7 [(6, .int y67), (3, .int z65), (5, .int z16), (4, .int y1), (0, .ref (ad 0)), (1, .ref (ad 21)), (2, .int p1)] → W p l e r_s_takeTypesA21 s m ([.ref (ad 0), .ref (ad 21), .int p1] : List Value).toArray below meth c H locs 0 0 (MQ below (q_s_takeTypesA21 D ks ad kk V L p1 bq gn gT gs gl gy gw go A) ([.ref (ad 0), .ref (ad 21), .int p1] : List Value).toArray s 0 0 A) (F0 m 121 ls []) := by
                              (try clear fz57); (try clear kd54); (try clear fz41); (try clear fz36); (try clear rl35); (try clear fz29); (try clear ps28); (try clear fz9)
                              intro fulp69
                              induction fulp69 with
                              | zero =>
                                intro y67 V68 H locs ls klp69_0 xlp69_0 xlp69_1 hn ajV68 hMV68 hP hD hS hl
                                exfalso; (first | exact om_9386ef0df612 klp69_0.2 hn | omega)
                              | succ fulp69 ihlp69 =>
                                intro y67 V68 H locs ls klp69_0 xlp69_0 xlp69_1 hn ajV68 hMV68 hP hD hS hl
                                have agV68 : agr [(0, 7), (0, 8)] [15, 21, 53] V V68 := agV63.tr ajV68 (by decide) (by decide)
                                refine lv_iload hx hb dX12_takeTypes_121 (lv_at hl 0 rfl) ?_
                                refine lv_bipush (v := 24) hx hb dX12_takeTypes_123 (by decide) ?_
                                refine lv_icmp_ge (tgt := 184) hx hb dX12_takeTypes_125 (by decide) (fun c70 => ?_) (fun c70 => ?_)
                                · skip
                                  have f71 : 24 ≤ y67.toInt := b_le (by decide) rfl c70
                                  have un72 : UNm 21 go V V68 gs.1 (fx23 :: sn) := UNx.all xlp69_0 (by (first | exact om_69cd31f94d1d f71 | omega))
                                  refine lv_aload_n hx hb dX12_takeTypes_184 rfl (lv_at hl 4 rfl) ?_
                                  refine lv_bipush (v := 44) hx hb dX12_takeTypes_185 (by decide) ?_
                                  have rl73 : RelM V68 L bq gn gT (nx s1 1) gl := RelM.ag rl55 (show agr [] [15, 21, 53] V52 V68 from (agr.tr (agr.up agr.rf hV63 rfl) ajV68 (by decide) (by decide))) (by decide) (show agL [] L L from agL.rf) (by decide)
                                  have r74 : Int32.toInt 44 = 44 := by decide
                                  refine gA_int (gA_runV (As := [.int 44]) (rest := []) (ci := 12) (q0 := 0) hx hb hml hown hg hP hD hK hS hA hnw hgk (s_hasSignA l D ks H.size ad kk V68 L 44 (bq) (gn) (gT) ((nx s1 1)) (gl) hMV68 rl73 (sg_yes (j := 44) (by decide) (by decide) (by decide))) w2067 w2069 w94 w172 w2070 rfl rfl hdV_yX12_hasSign ⟨Nat.le_of_ble_eq_true rfl, Nat.le_of_ble_eq_true rfl⟩ rfl hl.1 rfl (Nat.le_of_ble_eq_true rfl) dX12_takeTypes_187 ⟨Nat.le_of_ble_eq_true rfl, Nat.le_of_ble_eq_true rfl⟩) hP hD hK hS hA (fun z75 u76 H locs w77 hP hD hK hS => ?_)
                                  obtain ⟨V79, L80⟩ := u76
                                  obtain ⟨hMV79, ajV79, axL80, rgz75, t78⟩ := w77
                                  have axL80 : L = L80 := Eq.symm axL80
                                  subst axL80
                                  have hP : va_P D vwCl (mw ad kk ks.1 V79 L) H := hP
                                  have hD : va_D A (mw ad kk ks.1 V79 L) := hD
                                  have hMV79 : rgd bM V79 := hMV79
                                  have ajV79 : agr [(0, 7)] [] V68 V79 := ajV79
                                  have agV79 : agr [(0, 7), (0, 8)] [15, 21, 53] V V79 := agV68.tr ajV79 (by decide) (by decide)
                                  have rgz75 : 0 ≤ z75.toInt ∧ z75.toInt ≤ 1 := rgz75
                                  have t78 : (z75.toInt = 1 ∧ (gT).1 (((nx s1 1)).1 0) = (Int32.toInt 44) ∧ RelM V79 L (bq) (gn) (gT) (nx ((nx s1 1)) 1) (gl)) ∨ (z75.toInt = 0 ∧ (gT).1 (((nx s1 1)).1 0) ≠ (Int32.toInt 44) ∧ RelM V79 L (bq) (gn) (gT) ((nx s1 1)) (gl)) := t78
                                  rcases t78 with ⟨q81, h82, rl83⟩ | ⟨q81, h82, rl83⟩
                                  · skip
                                    have kd84 : gT.1 ((nx s1 1).1 0) = 44 := h82.trans (by decide)
                                    have hr85 : ∀ k, Rc gT (Crun gs (Itypes gy gw 0 [] :: k)) (Crun (nx (nx s1 1) 1) (Itypes gy gw (y2.toInt.toNat + 1) (fx23 :: sn) :: k)) := fun k => Rc.go1 (hr56 k) (more_y gy gw (y2.toInt.toNat + 1) (fx23 :: sn) kd84)
                                    have ps86 : (nx (nx s1 1) 1).1 0 = (nx s1 1).1 0 + 1 := rfl
                                    have fz87 := RelM.rg rl83
                                    have pq88 : (V79 0 8).toInt = ((V39 0 8)).toInt := congrArg Int32.toInt ((ajV79 0 8 rfl).trans ((ajV68 0 8 rfl).trans ((up2_o hV63 (by decide)).trans (up2_k hV52 (by decide)))))
                                    refine lv_istore (lv' := [(4, .int z75), (6, .int y67), (3, .int z65), (5, .int z16), (0, .ref (ad 0)), (1, .ref (ad 21)), (2, .int p1)]) hx hb dX12_takeTypes_190 hl (by decide) rfl (fun ls hl => ?_)
                                    refine lv_goto (tgt := 5) hx hb dX12_takeTypes_192 (by decide) ?_
                                    have pq89 : (V79 0 12).toInt = ((V 0 12)).toInt := congrArg Int32.toInt ((ajV79 0 12 rfl).trans ((ajV68 0 12 rfl).trans ((up2_o hV63 (by decide)).trans ((up2_k hV52 (by decide)).trans ((ajV39 0 12 rfl).trans ((up2_k hV32 (by decide)).trans ((ajV20 0 12 rfl).trans (ajV3 0 12 rfl))))))))
                                    have cn90 : CNm V79 bq gs := CNm.ag xlp69_1 (show agr [(0, 7)] [] V68 V79 from (agr.tr agr.rf ajV79 (by decide) (by decide))) (by decide) keepC.rf
                                    exact ihlp5 (g4 - 1) z75 z65 V79 H locs ls (by first | exact om_eb7af9d60398 rgz75.1 rgz75.2 | first | omega | ((try (have i_xlp40_2 := Imp.go xlp40_2 (by omega))); (try (have i_xlp5_3 := Imp.go xlp5_3 (by omega))); (try (have i_xlp5_3 := Imp.go xlp5_3 (by omega))); (try (have i_xlp40_2 := Imp.go xlp40_2 (by omega))); omega)) (by first | exact om_6575912fbdd9 klp5_1.1 klp5_1.2 f50 hz65 | first | omega | ((try (have i_xlp40_2 := Imp.go xlp40_2 (by omega))); (try (have i_xlp5_3 := Imp.go xlp5_3 (by omega))); (try (have i_xlp5_3 := Imp.go xlp5_3 (by omega))); (try (have i_xlp40_2 := Imp.go xlp40_2 (by omega))); omega)) (Or.inl ⟨W0 rl83, (by omega), (nx (nx s1 1) 1), (fx23 :: sn), (by rw [show z65.toInt.toNat = (y2.toInt.toNat + 1) from by omega]; exact hr85), rl83, ⟨keepS.le (keepS.tr (keepS.tr (keepS.tr (keepS.rf : keepS gs 0 gs) kq) (keepS.n1 1)) (keepS.n1 1)) (by decide), (show keepL gs (nx (nx s1 1) 1) from fun j9 h9 => ((show ∀ j9, 5 ≤ j9 → (nx (nx s1 1) 1).2.1 j9 = (nx s1 1).2.1 j9 from fun _ _ => rfl) j9 h9).trans ((show keepL gs (nx s1 1) from fun j9 h9 => ((show ∀ j9, 5 ≤ j9 → (nx s1 1).2.1 j9 = s1.2.1 j9 from fun _ _ => rfl) j9 h9).trans ((show keepL gs s1 from fun j9 h9 => ((show ∀ j9, 5 ≤ j9 → s1.2.1 j9 = gs.2.1 j9 from ll9) j9 h9).trans ((show keepL gs gs from fun _ _ => rfl) j9 h9)) j9 h9)) j9 h9))⟩, LST.ag ls66 (by rw [(funext (fun q => ajV79 53 q rfl) : V79 53 = V68 53), (funext (fun q => ajV68 53 q rfl) : V68 53 = V63 53)] : V79 53 = V63 53), (UNm.ag un72 (by rw [(funext (fun q => ajV79 21 q rfl) : V79 21 = V68 21)] : V79 21 = V68 21)), cn90⟩) (show 0 ≤ (g4 - 1) from by first | exact om_63465e109454 klp5_1.2 f50 ((Imp.go xlp5_3 (f15))) | first | omega | ((try (have i_xlp40_2 := Imp.go xlp40_2 (by omega))); (try (have i_xlp5_3 := Imp.go xlp5_3 (by omega))); (try (have i_xlp5_3 := Imp.go xlp5_3 (by omega))); (try (have i_xlp40_2 := Imp.go xlp40_2 (by omega))); omega)) (show z65.toInt ≤ 6 from by first | exact om_1e1b103e2e8d klp5_1.2 f50 hz65 | first | omega | ((try (have i_xlp40_2 := Imp.go xlp40_2 (by omega))); (try (have i_xlp5_3 := Imp.go xlp5_3 (by omega))); (try (have i_xlp5_3 := Imp.go xlp5_3 (by omega))); (try (have i_xlp40_2 := Imp.go xlp40_2 (by omega))); omega)) (Imp.mk (fun hp => have hp : (V79 0 8).toInt = 0 := hp; (show 7 - z65.toInt < (g4 - 1) from by first | exact om_3b5c2a59e72f hz65 ((Imp.go xlp5_3 (f15))) | first | omega | ((try (have i_xlp40_2 := Imp.go xlp40_2 (by omega))); (try (have i_xlp5_3 := Imp.go xlp5_3 (by omega))); (try (have i_xlp5_3 := Imp.go xlp5_3 (by omega))); (try (have i_xlp40_2 := Imp.go xlp40_2 (by omega))); omega)))) (show (V79 0 12).toInt = (V 0 12).toInt from by first | exact om_570b691c1130 pq89 | first | omega | ((try (have i_xlp40_2 := Imp.go xlp40_2 (by omega))); (try (have i_xlp5_3 := Imp.go xlp5_3 (by omega))); (try (have i_xlp5_3 := Imp.go xlp5_3 (by omega))); (try (have i_xlp40_2 := Imp.go xlp40_2 (by omega))); omega)) (by first | omega | ((try (have i_xlp40_2 := Imp.go xlp40_2 (by omega))); (try (have i_xlp5_3 := Imp.go xlp5_3 (by omega))); (try (have i_xlp5_3 := Imp.go xlp5_3 (by omega))); (try (have i_xlp40_2 := Imp.go xlp40_2 (by omega))); omega)) (agr.tr (agr.tr (agr.up (agr.up (agr.tr (agr.up (agr.tr (agr.tr agr.rf ajV3 (by decide) (by decide)) ajV20 (by decide) (by decide)) hV32 rfl) ajV39 (by decide) (by decide)) hV52 rfl) hV63 rfl) ajV68 (by decide) (by decide)) ajV79 (by decide) (by decide)) hMV79 hP hD hS (lv_sub hl [0, 2, 4, 5, 6] rfl)
                                  · skip
                                    have kd91 : gT.1 ((nx s1 1).1 0) ≠ 44 := fun h9 => h82 (h9.trans (by decide))
                                    have fz92 := RelM.rg rl83
                                    have pq93 : (V79 0 8).toInt = ((V39 0 8)).toInt := congrArg Int32.toInt ((ajV79 0 8 rfl).trans ((ajV68 0 8 rfl).trans ((up2_o hV63 (by decide)).trans (up2_k hV52 (by decide)))))
                                    refine lv_istore (lv' := [(4, .int z75), (6, .int y67), (3, .int z65), (5, .int z16), (0, .ref (ad 0)), (1, .ref (ad 21)), (2, .int p1)]) hx hb dX12_takeTypes_190 hl (by decide) rfl (fun ls hl => ?_)
                                    refine lv_goto (tgt := 5) hx hb dX12_takeTypes_192 (by decide) ?_
                                    have pq94 : (V79 0 12).toInt = ((V 0 12)).toInt := congrArg Int32.toInt ((ajV79 0 12 rfl).trans ((ajV68 0 12 rfl).trans ((up2_o hV63 (by decide)).trans ((up2_k hV52 (by decide)).trans ((ajV39 0 12 rfl).trans ((up2_k hV32 (by decide)).trans ((ajV20 0 12 rfl).trans (ajV3 0 12 rfl))))))))
                                    have hr95 : ∀ k, Rc gT (Crun gs (Itypes gy gw 0 [] :: k)) (Crun (nx s1 1) (ItyD gy gw (fx23 :: sn) :: k)) := fun k => Rc.go1 (hr56 k) (more_n gy gw (y2.toInt.toNat + 1) (fx23 :: sn) kd91)
                                    have cn96 : CNm V79 bq gs := CNm.ag xlp69_1 (show agr [(0, 7)] [] V68 V79 from (agr.tr agr.rf ajV79 (by decide) (by decide))) (by decide) keepC.rf
                                    exact ihlp5 (g4 - 1) z75 z65 V79 H locs ls (by first | exact om_eb7af9d60398 rgz75.1 rgz75.2 | first | omega | ((try (have i_xlp40_2 := Imp.go xlp40_2 (by omega))); (try (have i_xlp5_3 := Imp.go xlp5_3 (by omega))); (try (have i_xlp5_3 := Imp.go xlp5_3 (by omega))); (try (have i_xlp40_2 := Imp.go xlp40_2 (by omega))); omega)) (by first | exact om_6575912fbdd9 klp5_1.1 klp5_1.2 f50 hz65 | first | omega | ((try (have i_xlp40_2 := Imp.go xlp40_2 (by omega))); (try (have i_xlp5_3 := Imp.go xlp5_3 (by omega))); (try (have i_xlp5_3 := Imp.go xlp5_3 (by omega))); (try (have i_xlp40_2 := Imp.go xlp40_2 (by omega))); omega)) (Or.inr (Or.inl ⟨W0 rl83, (by omega), (nx s1 1), (fx23 :: sn), hr95, rl83, ⟨keepS.le (keepS.tr (keepS.tr (keepS.rf : keepS gs 0 gs) kq) (keepS.n1 1)) (by decide), (show keepL gs (nx s1 1) from fun j9 h9 => ((show ∀ j9, 5 ≤ j9 → (nx s1 1).2.1 j9 = s1.2.1 j9 from fun _ _ => rfl) j9 h9).trans ((show keepL gs s1 from fun j9 h9 => ((show ∀ j9, 5 ≤ j9 → s1.2.1 j9 = gs.2.1 j9 from ll9) j9 h9).trans ((show keepL gs gs from fun _ _ => rfl) j9 h9)) j9 h9))⟩, (UNm.ag un72 (by rw [(funext (fun q => ajV79 21 q rfl) : V79 21 = V68 21)] : V79 21 = V68 21)), cn96⟩)) (show 0 ≤ (g4 - 1) from by first | exact om_63465e109454 klp5_1.2 f50 ((Imp.go xlp5_3 (f15))) | first | omega | ((try (have i_xlp40_2 := Imp.go xlp40_2 (by omega))); (try (have i_xlp5_3 := Imp.go xlp5_3 (by omega))); (try (have i_xlp5_3 := Imp.go xlp5_3 (by omega))); (try (have i_xlp40_2 := Imp.go xlp40_2 (by omega))); omega)) (show z65.toInt ≤ 6 from by first | exact om_1e1b103e2e8d klp5_1.2 f50 hz65 | first | omega | ((try (have i_xlp40_2 := Imp.go xlp40_2 (by omega))); (try (have i_xlp5_3 := Imp.go xlp5_3 (by omega))); (try (have i_xlp5_3 := Imp.go xlp5_3 (by omega))); (try (have i_xlp40_2 := Imp.go xlp40_2 (by omega))); omega)) (Imp.mk (fun hp => have hp : (V79 0 8).toInt = 0 := hp; (show 7 - z65.toInt < (g4 - 1) from by first | exact om_3b5c2a59e72f hz65 ((Imp.go xlp5_3 (f15))) | first | omega | ((try (have i_xlp40_2 := Imp.go xlp40_2 (by omega))); (try (have i_xlp5_3 := Imp.go xlp5_3 (by omega))); (try (have i_xlp5_3 := Imp.go xlp5_3 (by omega))); (try (have i_xlp40_2 := Imp.go xlp40_2 (by omega))); omega)))) (show (V79 0 12).toInt = (V 0 12).toInt from by first | exact om_570b691c1130 pq94 | first | omega | ((try (have i_xlp40_2 := Imp.go xlp40_2 (by omega))); (try (have i_xlp5_3 := Imp.go xlp5_3 (by omega))); (try (have i_xlp5_3 := Imp.go xlp5_3 (by omega))); (try (have i_xlp40_2 := Imp.go xlp40_2 (by omega))); omega)) (by first | omega | ((try (have i_xlp40_2 := Imp.go xlp40_2 (by omega))); (try (have i_xlp5_3 := Imp.go xlp5_3 (by omega))); (try (have i_xlp5_3 := Imp.go xlp5_3 (by omega))); (try (have i_xlp40_2 := Imp.go xlp40_2 (by omega))); omega)) (agr.tr (agr.tr (agr.up (agr.up (agr.tr (agr.up (agr.tr (agr.tr agr.rf ajV3 (by decide) (by decide)) ajV20 (by decide) (by decide)) hV32 rfl) ajV39 (by decide) (by decide)) hV52 rfl) hV63 rfl) ajV68 (by decide) (by decide)) ajV79 (by decide) (by decide)) hMV79 hP hD hS (lv_sub hl [0, 2, 4, 5, 6] rfl)
                                · skip
                                  have f97 : y67.toInt < 24 := b_nle (by decide) rfl c70
                                  refine lv_aload_n hx hb dX12_takeTypes_128 rfl (lv_at hl 5 rfl) ?_
                                  refine lv_bipush (v := 24) hx hb dX12_takeTypes_129 (by decide) ?_
                                  refine lv_iload_n hx hb dX12_takeTypes_131 rfl (lv_at hl 6 rfl) ?_
                                  refine lv_imul hx hb dX12_takeTypes_132 ?_
                                  refine lv_topi (fun z98 ez98 => ?_)
                                  have hz98 : z98.toInt = 24 * p1.toInt := i_mul ez98 (by decide) rfl (by (first | exact om_71c20f736ea3 rg_p1.2 pgo gfr | omega))
                                  refine lv_iload hx hb dX12_takeTypes_133 (lv_at hl 0 rfl) ?_
                                  refine lv_iadd hx hb dX12_takeTypes_135 ?_
                                  refine lv_topi (fun z99 ez99 => ?_)
                                  have hz99 : z99.toInt = z98.toInt + y67.toInt := i_add ez99 rfl rfl (by (first | exact om_ce4b95d991a9 rg_p1.2 pgo gfr klp69_0.1 f97 hz98 | omega))
                                  refine lv_aload_n hx hb dX12_takeTypes_136 rfl (lv_at hl 5 rfl) ?_
                                  refine lv_bipush (v := 24) hx hb dX12_takeTypes_137 (by decide) ?_
                                  refine lv_iload_n hx hb dX12_takeTypes_139 rfl (lv_at hl 6 rfl) ?_
                                  refine lv_imul hx hb dX12_takeTypes_140 ?_
                                  refine lv_topi (fun z100 ez100 => ?_)
                                  have hz100 : z100.toInt = 24 * p1.toInt := i_mul ez100 (by decide) rfl (by (first | exact om_71c20f736ea3 rg_p1.2 pgo gfr | omega))
                                  refine lv_iload hx hb dX12_takeTypes_141 (lv_at hl 0 rfl) ?_
                                  refine lv_iadd hx hb dX12_takeTypes_143 ?_
                                  refine lv_topi (fun z101 ez101 => ?_)
                                  have hz101 : z101.toInt = z100.toInt + y67.toInt := i_add ez101 rfl rfl (by (first | exact om_ce4b95d991a9 rg_p1.2 pgo gfr klp69_0.1 f97 hz100 | omega))
                                  refine va_zald (D := D) (i := z101) hx hb hK hP 14 13 rfl rfl (i_in (a := z101.toInt) rfl (by first | exact om_e21fd4bb223a rg_p1.1 rg_p1.2 klp69_0.1 f97 hz100 hz101 | first | omega | ((try (have i_xlp40_2 := Imp.go xlp40_2 (by omega))); (try (have i_xlp5_3 := Imp.go xlp5_3 (by omega))); (try (have i_xlp5_3 := Imp.go xlp5_3 (by omega))); (try (have i_xlp40_2 := Imp.go xlp40_2 (by omega))); omega))) dX12_takeTypes_144 ?_
                                  have r102 : 0 ≤ ((V68 21 (Int32.toNatClampNeg z101))).toInt ∧ ((V68 21 (Int32.toNatClampNeg z101))).toInt ≤ 1 := hMV68 21 (Int32.toNatClampNeg z101)
                                  refine lv_if_ne (tgt := 172) hx hb dX12_takeTypes_145 (by decide) (fun c103 => ?_) (fun c103 => ?_)
                                  · skip
                                    have f104 : ((V68 21 (Int32.toNatClampNeg z101))).toInt ≠ 0 := b_neq rfl (by decide) c103
                                    refine lv_iconst (v := 1) hx hb dX12_takeTypes_172 (by decide) ?_
                                    refine lv_goto (tgt := 177) hx hb dX12_takeTypes_173 (by decide) ?_
                                    refine va_zast (D := D) (i := z99) (x := 1) hx hb hK hP hD hS 14 13 rfl rfl (i_in (a := z99.toInt) rfl (by first | exact om_e21fd4bb223a rg_p1.1 rg_p1.2 klp69_0.1 f97 hz98 hz99 | first | omega | ((try (have i_xlp40_2 := Imp.go xlp40_2 (by omega))); (try (have i_xlp5_3 := Imp.go xlp5_3 (by omega))); (try (have i_xlp5_3 := Imp.go xlp5_3 (by omega))); (try (have i_xlp40_2 := Imp.go xlp40_2 (by omega))); omega))) dX12_takeTypes_177 (fun H locs hP hD hS => ?_)
                                    obtain ⟨V105, hV105⟩ : ∃ z, z = up2 V68 21 (Int32.toNatClampNeg z99) (vp_nar .boolean 1) := ⟨_, rfl⟩
                                    have hP : va_P D vwCl (mw ad kk ks.1 V105 L) H := by rw [hV105]; exact hP
                                    have hD : va_D A (mw ad kk ks.1 V105 L) := by rw [hV105]; exact hD
                                    have hMV105 : rgd bM V105 := hMV68.put hV105 (nar_b _)
                                    have agV105 : agr [(0, 7), (0, 8)] [15, 21, 53] V V105 := agV68.up hV105 rfl
                                    obtain ⟨z106, ez106⟩ : ∃ y : Int32, y = y67 + 1 := ⟨_, rfl⟩
                                    have hz106 : z106.toInt = y67.toInt + 1 := i_add ez106 rfl (by decide) (by (first | exact om_bc9106cf44c9 klp69_0.1 f97 | omega))
                                    refine lv_iinc (v := z106) (lv' := [(6, .int z106), (3, .int z65), (5, .int z16), (4, .int y1), (0, .ref (ad 0)), (1, .ref (ad 21)), (2, .int p1)]) hx hb dX12_takeTypes_178 hl (k := 0) rfl (by rw [ez106]; rfl) (by decide) rfl (fun ls hl => ?_)
                                    refine lv_goto (tgt := 121) hx hb dX12_takeTypes_181 (by decide) ?_
                                    have kc107 := i_clamp (x := y67) rfl (by (first | exact om_eafa9039069c klp69_0.1 | omega))
                                    have kp110 : (Int32.toNatClampNeg z99) = 24 * go + (Int32.toNatClampNeg y67) := by have h9 := i_clamp (x := z99) rfl (by (first | exact om_eca9e79ec4c2 pgo gfr klp69_0.1 hz98 hz99 | omega)); (first | exact om_b57d09e2e28e pgo hz98 hz99 kc107 h9 | omega)
                                    have kA108 : (V68 21 (Int32.toNatClampNeg z101)).toInt = (V68 21 (24 * go + (Int32.toNatClampNeg y67))).toInt := by rw [show Int32.toNatClampNeg z101 = 24 * go + (Int32.toNatClampNeg y67) from by have h9 := i_clamp (x := z101) rfl (by (first | exact om_eca9e79ec4c2 pgo gfr klp69_0.1 hz100 hz101 | omega)); omega]
                                    have r111 : 0 ≤ (V68 21 (24 * go + (Int32.toNatClampNeg y67))).toInt ∧ (V68 21 (24 * go + (Int32.toNatClampNeg y67))).toInt ≤ 1 := hMV68 21 _
                                    have r112 : 0 ≤ (V68 15 (24 * (24 * bq + fx23) + (Int32.toNatClampNeg y67))).toInt ∧ (V68 15 (24 * (24 * bq + fx23) + (Int32.toNatClampNeg y67))).toInt ≤ 1 := hMV68 15 _
                                    have nr113 : (vp_nar .boolean 1).toInt = 1 := by decide
                                    have lt9 : fx23 < (gs.2.1 0).length := by have h9 := look_lt h24; rw [((keepS.tr (keepS.rf : keepS gs 0 gs) kq)).2.2.1 0 (by decide)] at h9; exact h9
                                    have cn114 : CNm V105 bq gs := CNm.up xlp69_1 hV105 (fun q9 => by have h9 := i_clamp (x := z99) rfl (by (first | exact om_eca9e79ec4c2 pgo gfr klp69_0.1 hz98 hz99 | omega)); unfold rdm at q9; omega)
                                    exact ihlp69 z106 V105 H locs ls (by first | exact om_a5349b170263 klp69_0.1 f97 hz106 | first | omega | ((try (have i_xlp40_2 := Imp.go xlp40_2 (by omega))); (try (have i_xlp5_3 := Imp.go xlp5_3 (by omega))); (try (have i_xlp5_3 := Imp.go xlp5_3 (by omega))); (try (have i_xlp40_2 := Imp.go xlp40_2 (by omega))); omega)) (UNx.st (u := 24 * bq + fx23) (y := (Int32.toNatClampNeg y67)) xlp69_0 hV105 kp110 (by omega) (by omega) (by omega) (xlp69_1.2.2.1 fx23 lt9) (show ((vp_nar .boolean 1)).toInt = 1 ↔ _ from iff_of_true (by decide) (Or.inl (by omega)))) cn114 (by first | exact om_9592d9319ffa hn hz106 | first | omega | ((try (have i_xlp40_2 := Imp.go xlp40_2 (by omega))); (try (have i_xlp5_3 := Imp.go xlp5_3 (by omega))); (try (have i_xlp5_3 := Imp.go xlp5_3 (by omega))); (try (have i_xlp40_2 := Imp.go xlp40_2 (by omega))); omega)) (agr.up (agr.tr agr.rf ajV68 (by decide) (by decide)) hV105 rfl) hMV105 hP hD hS (lv_sub hl [0, 1, 2, 3, 4, 5, 6] rfl)
                                  · skip
                                    have f115 : ((V68 21 (Int32.toNatClampNeg z101))).toInt = 0 := b_eq rfl (by decide) c103
                                    refine lv_aload_n hx hb dX12_takeTypes_148 rfl (lv_at hl 4 rfl) ?_
                                    refine va_get (D := D) (ci := 12) (v := .ref (ad 15)) (C := RX12) (T := TX12) (N := 100) hx hb hg inX12 hown hK hP 0 rfl rfl 15 (by decide) (hg _ w1721) (fun _ h9 => h9) rfl dX12_takeTypes_149 ?_
                                    refine lv_bipush (v := 24) hx hb dX12_takeTypes_152 (by decide) ?_
                                    refine lv_bipush (v := 24) hx hb dX12_takeTypes_154 (by decide) ?_
                                    refine lv_aload_n hx hb dX12_takeTypes_156 rfl (lv_at hl 4 rfl) ?_
                                    refine va_get (D := D) (ci := 12) (v := .int (V68 0 12)) (C := RX12) (T := TX12) (N := 100) hx hb hg inX12 hown hK hP 0 rfl rfl 12 (by decide) (hg _ w1718) (fun _ h9 => h9) rfl dX12_takeTypes_157 ?_
                                    refine g_top (v := (V 0 12)) ((ajV68 0 12 rfl).trans ((up2_o hV63 (by decide)).trans ((up2_k hV52 (by decide)).trans ((ajV39 0 12 rfl).trans ((up2_k hV32 (by decide)).trans ((ajV20 0 12 rfl).trans (ajV3 0 12 rfl))))))) ?_
                                    refine lv_imul hx hb dX12_takeTypes_160 ?_
                                    refine lv_topi (fun z116 ez116 => ?_)
                                    have hz116 : z116.toInt = 24 * ((V 0 12)).toInt := i_mul ez116 (by decide) rfl (by (first | exact om_3f8aba7b6ce1 r8.1 r8.2 | omega))
                                    refine lv_iload hx hb dX12_takeTypes_161 (lv_at hl 2 rfl) ?_
                                    refine lv_iadd hx hb dX12_takeTypes_163 ?_
                                    refine lv_topi (fun z117 ez117 => ?_)
                                    have hz117 : z117.toInt = z116.toInt + z16.toInt := i_add ez117 rfl rfl (by (first | exact om_28492b8d939d r8.1 r8.2 rgz16.1 rgz16.2 hz116 | omega))
                                    refine lv_imul hx hb dX12_takeTypes_164 ?_
                                    refine lv_topi (fun z118 ez118 => ?_)
                                    have hz118 : z118.toInt = 24 * z117.toInt := i_mul ez118 (by decide) rfl (by (first | exact om_fc84c92ae077 r8.1 r8.2 rgz16.1 rgz16.2 hz116 hz117 | omega))
                                    refine lv_iload hx hb dX12_takeTypes_165 (lv_at hl 0 rfl) ?_
                                    refine lv_iadd hx hb dX12_takeTypes_167 ?_
                                    refine lv_topi (fun z119 ez119 => ?_)
                                    have hz119 : z119.toInt = z118.toInt + y67.toInt := i_add ez119 rfl rfl (by (first | exact om_44ef469b3d0d r8.1 r8.2 rgz16.1 rgz16.2 klp69_0.1 f97 hz116 hz117 hz118 | omega))
                                    refine va_zald (D := D) (i := z119) hx hb hK hP 8 7 rfl rfl (i_in (a := z119.toInt) rfl (by first | omega | ((try (have i_xlp40_2 := Imp.go xlp40_2 (by omega))); (try (have i_xlp5_3 := Imp.go xlp5_3 (by omega))); (try (have i_xlp5_3 := Imp.go xlp5_3 (by omega))); (try (have i_xlp40_2 := Imp.go xlp40_2 (by omega))); omega))) dX12_takeTypes_168 ?_
                                    have r120 : 0 ≤ ((V68 15 (Int32.toNatClampNeg z119))).toInt ∧ ((V68 15 (Int32.toNatClampNeg z119))).toInt ≤ 1 := hMV68 15 (Int32.toNatClampNeg z119)
                                    refine lv_if_eq (tgt := 176) hx hb dX12_takeTypes_169 (by decide) (fun c121 => ?_) (fun c121 => ?_)
                                    · skip
                                      have f122 : ((V68 15 (Int32.toNatClampNeg z119))).toInt = 0 := b_eq rfl (by decide) c121
                                      refine lv_iconst (v := 0) hx hb dX12_takeTypes_176 (by decide) ?_
                                      refine va_zast (D := D) (i := z99) (x := 0) hx hb hK hP hD hS 14 13 rfl rfl (i_in (a := z99.toInt) rfl (by first | exact om_e21fd4bb223a rg_p1.1 rg_p1.2 klp69_0.1 f97 hz98 hz99 | first | omega | ((try (have i_xlp40_2 := Imp.go xlp40_2 (by omega))); (try (have i_xlp5_3 := Imp.go xlp5_3 (by omega))); (try (have i_xlp5_3 := Imp.go xlp5_3 (by omega))); (try (have i_xlp40_2 := Imp.go xlp40_2 (by omega))); omega))) dX12_takeTypes_177 (fun H locs hP hD hS => ?_)
                                      obtain ⟨V123, hV123⟩ : ∃ z, z = up2 V68 21 (Int32.toNatClampNeg z99) (vp_nar .boolean 0) := ⟨_, rfl⟩
                                      have hP : va_P D vwCl (mw ad kk ks.1 V123 L) H := by rw [hV123]; exact hP
                                      have hD : va_D A (mw ad kk ks.1 V123 L) := by rw [hV123]; exact hD
                                      have hMV123 : rgd bM V123 := hMV68.put hV123 (nar_b _)
                                      have agV123 : agr [(0, 7), (0, 8)] [15, 21, 53] V V123 := agV68.up hV123 rfl
                                      obtain ⟨z124, ez124⟩ : ∃ y : Int32, y = y67 + 1 := ⟨_, rfl⟩
                                      have hz124 : z124.toInt = y67.toInt + 1 := i_add ez124 rfl (by decide) (by (first | exact om_bc9106cf44c9 klp69_0.1 f97 | omega))
                                      refine lv_iinc (v := z124) (lv' := [(6, .int z124), (3, .int z65), (5, .int z16), (4, .int y1), (0, .ref (ad 0)), (1, .ref (ad 21)), (2, .int p1)]) hx hb dX12_takeTypes_178 hl (k := 0) rfl (by rw [ez124]; rfl) (by decide) rfl (fun ls hl => ?_)
                                      refine lv_goto (tgt := 121) hx hb dX12_takeTypes_181 (by decide) ?_
                                      have kc125 := i_clamp (x := y67) rfl (by (first | exact om_eafa9039069c klp69_0.1 | omega))
                                      have kp128 : (Int32.toNatClampNeg z99) = 24 * go + (Int32.toNatClampNeg y67) := by have h9 := i_clamp (x := z99) rfl (by (first | exact om_eca9e79ec4c2 pgo gfr klp69_0.1 hz98 hz99 | omega)); (first | exact om_b57d09e2e28e pgo hz98 hz99 kc125 h9 | omega)
                                      have kA126 : (V68 21 (Int32.toNatClampNeg z101)).toInt = (V68 21 (24 * go + (Int32.toNatClampNeg y67))).toInt := by rw [show Int32.toNatClampNeg z101 = 24 * go + (Int32.toNatClampNeg y67) from by have h9 := i_clamp (x := z101) rfl (by (first | exact om_eca9e79ec4c2 pgo gfr klp69_0.1 hz100 hz101 | omega)); omega]
                                      have r129 : 0 ≤ (V68 21 (24 * go + (Int32.toNatClampNeg y67))).toInt ∧ (V68 21 (24 * go + (Int32.toNatClampNeg y67))).toInt ≤ 1 := hMV68 21 _
                                      have r130 : 0 ≤ (V68 15 (24 * (24 * bq + fx23) + (Int32.toNatClampNeg y67))).toInt ∧ (V68 15 (24 * (24 * bq + fx23) + (Int32.toNatClampNeg y67))).toInt ≤ 1 := hMV68 15 _
                                      have kB127 : (V68 15 (Int32.toNatClampNeg z119)).toInt = (V68 15 (24 * (24 * bq + fx23) + (Int32.toNatClampNeg y67))).toInt := by rw [show Int32.toNatClampNeg z119 = 24 * (24 * bq + fx23) + (Int32.toNatClampNeg y67) from by have h9 := i_clamp (x := z119) rfl (by omega); omega]
                                      have nr131 : (vp_nar .boolean 0).toInt = 0 := by decide
                                      have lt9 : fx23 < (gs.2.1 0).length := by have h9 := look_lt h24; rw [((keepS.tr (keepS.rf : keepS gs 0 gs) kq)).2.2.1 0 (by decide)] at h9; exact h9
                                      have cn132 : CNm V123 bq gs := CNm.up xlp69_1 hV123 (fun q9 => by have h9 := i_clamp (x := z99) rfl (by (first | exact om_eca9e79ec4c2 pgo gfr klp69_0.1 hz98 hz99 | omega)); unfold rdm at q9; omega)
                                      exact ihlp69 z124 V123 H locs ls (by first | exact om_a5349b170263 klp69_0.1 f97 hz124 | first | omega | ((try (have i_xlp40_2 := Imp.go xlp40_2 (by omega))); (try (have i_xlp5_3 := Imp.go xlp5_3 (by omega))); (try (have i_xlp5_3 := Imp.go xlp5_3 (by omega))); (try (have i_xlp40_2 := Imp.go xlp40_2 (by omega))); omega)) (UNx.st (u := 24 * bq + fx23) (y := (Int32.toNatClampNeg y67)) xlp69_0 hV123 kp128 (by omega) (by omega) (by omega) (xlp69_1.2.2.1 fx23 lt9) (show ((vp_nar .boolean 0)).toInt = 1 ↔ _ from iff_of_false (by decide) (fun h9 => h9.elim (fun h8 => by omega) (fun h8 => by omega)))) cn132 (by first | exact om_9592d9319ffa hn hz124 | first | omega | ((try (have i_xlp40_2 := Imp.go xlp40_2 (by omega))); (try (have i_xlp5_3 := Imp.go xlp5_3 (by omega))); (try (have i_xlp5_3 := Imp.go xlp5_3 (by omega))); (try (have i_xlp40_2 := Imp.go xlp40_2 (by omega))); omega)) (agr.up (agr.tr agr.rf ajV68 (by decide) (by decide)) hV123 rfl) hMV123 hP hD hS (lv_sub hl [0, 1, 2, 3, 4, 5, 6] rfl)
                                    · skip
                                      have f133 : ((V68 15 (Int32.toNatClampNeg z119))).toInt ≠ 0 := b_neq rfl (by decide) c121
                                      refine lv_iconst (v := 1) hx hb dX12_takeTypes_172 (by decide) ?_
                                      refine lv_goto (tgt := 177) hx hb dX12_takeTypes_173 (by decide) ?_
                                      refine va_zast (D := D) (i := z99) (x := 1) hx hb hK hP hD hS 14 13 rfl rfl (i_in (a := z99.toInt) rfl (by first | exact om_e21fd4bb223a rg_p1.1 rg_p1.2 klp69_0.1 f97 hz98 hz99 | first | omega | ((try (have i_xlp40_2 := Imp.go xlp40_2 (by omega))); (try (have i_xlp5_3 := Imp.go xlp5_3 (by omega))); (try (have i_xlp5_3 := Imp.go xlp5_3 (by omega))); (try (have i_xlp40_2 := Imp.go xlp40_2 (by omega))); omega))) dX12_takeTypes_177 (fun H locs hP hD hS => ?_)
                                      obtain ⟨V134, hV134⟩ : ∃ z, z = up2 V68 21 (Int32.toNatClampNeg z99) (vp_nar .boolean 1) := ⟨_, rfl⟩
                                      have hP : va_P D vwCl (mw ad kk ks.1 V134 L) H := by rw [hV134]; exact hP
                                      have hD : va_D A (mw ad kk ks.1 V134 L) := by rw [hV134]; exact hD
                                      have hMV134 : rgd bM V134 := hMV68.put hV134 (nar_b _)
                                      have agV134 : agr [(0, 7), (0, 8)] [15, 21, 53] V V134 := agV68.up hV134 rfl
                                      obtain ⟨z135, ez135⟩ : ∃ y : Int32, y = y67 + 1 := ⟨_, rfl⟩
                                      have hz135 : z135.toInt = y67.toInt + 1 := i_add ez135 rfl (by decide) (by (first | exact om_bc9106cf44c9 klp69_0.1 f97 | omega))
                                      refine lv_iinc (v := z135) (lv' := [(6, .int z135), (3, .int z65), (5, .int z16), (4, .int y1), (0, .ref (ad 0)), (1, .ref (ad 21)), (2, .int p1)]) hx hb dX12_takeTypes_178 hl (k := 0) rfl (by rw [ez135]; rfl) (by decide) rfl (fun ls hl => ?_)
                                      refine lv_goto (tgt := 121) hx hb dX12_takeTypes_181 (by decide) ?_
                                      have kc136 := i_clamp (x := y67) rfl (by (first | exact om_eafa9039069c klp69_0.1 | omega))
                                      have kp139 : (Int32.toNatClampNeg z99) = 24 * go + (Int32.toNatClampNeg y67) := by have h9 := i_clamp (x := z99) rfl (by (first | exact om_eca9e79ec4c2 pgo gfr klp69_0.1 hz98 hz99 | omega)); (first | exact om_b57d09e2e28e pgo hz98 hz99 kc136 h9 | omega)
                                      have kA137 : (V68 21 (Int32.toNatClampNeg z101)).toInt = (V68 21 (24 * go + (Int32.toNatClampNeg y67))).toInt := by rw [show Int32.toNatClampNeg z101 = 24 * go + (Int32.toNatClampNeg y67) from by have h9 := i_clamp (x := z101) rfl (by (first | exact om_eca9e79ec4c2 pgo gfr klp69_0.1 hz100 hz101 | omega)); omega]
                                      have r140 : 0 ≤ (V68 21 (24 * go + (Int32.toNatClampNeg y67))).toInt ∧ (V68 21 (24 * go + (Int32.toNatClampNeg y67))).toInt ≤ 1 := hMV68 21 _
                                      have r141 : 0 ≤ (V68 15 (24 * (24 * bq + fx23) + (Int32.toNatClampNeg y67))).toInt ∧ (V68 15 (24 * (24 * bq + fx23) + (Int32.toNatClampNeg y67))).toInt ≤ 1 := hMV68 15 _
                                      have kB138 : (V68 15 (Int32.toNatClampNeg z119)).toInt = (V68 15 (24 * (24 * bq + fx23) + (Int32.toNatClampNeg y67))).toInt := by rw [show Int32.toNatClampNeg z119 = 24 * (24 * bq + fx23) + (Int32.toNatClampNeg y67) from by have h9 := i_clamp (x := z119) rfl (by omega); omega]
                                      have nr142 : (vp_nar .boolean 1).toInt = 1 := by decide
                                      have lt9 : fx23 < (gs.2.1 0).length := by have h9 := look_lt h24; rw [((keepS.tr (keepS.rf : keepS gs 0 gs) kq)).2.2.1 0 (by decide)] at h9; exact h9
                                      have cn143 : CNm V134 bq gs := CNm.up xlp69_1 hV134 (fun q9 => by have h9 := i_clamp (x := z99) rfl (by (first | exact om_eca9e79ec4c2 pgo gfr klp69_0.1 hz98 hz99 | omega)); unfold rdm at q9; omega)
                                      exact ihlp69 z135 V134 H locs ls (by first | exact om_a5349b170263 klp69_0.1 f97 hz135 | first | omega | ((try (have i_xlp40_2 := Imp.go xlp40_2 (by omega))); (try (have i_xlp5_3 := Imp.go xlp5_3 (by omega))); (try (have i_xlp5_3 := Imp.go xlp5_3 (by omega))); (try (have i_xlp40_2 := Imp.go xlp40_2 (by omega))); omega)) (UNx.st (u := 24 * bq + fx23) (y := (Int32.toNatClampNeg y67)) xlp69_0 hV134 kp139 (by omega) (by omega) (by omega) (xlp69_1.2.2.1 fx23 lt9) (show ((vp_nar .boolean 1)).toInt = 1 ↔ _ from iff_of_true (by decide) (Or.inr (by omega)))) cn143 (by first | exact om_9592d9319ffa hn hz135 | first | omega | ((try (have i_xlp40_2 := Imp.go xlp40_2 (by omega))); (try (have i_xlp5_3 := Imp.go xlp5_3 (by omega))); (try (have i_xlp5_3 := Imp.go xlp5_3 (by omega))); (try (have i_xlp40_2 := Imp.go xlp40_2 (by omega))); omega)) (agr.up (agr.tr agr.rf ajV68 (by decide) (by decide)) hV134 rfl) hMV134 hP hD hS (lv_sub hl [0, 1, 2, 3, 4, 5, 6] rfl)
                            have r144 : Int32.toInt 0 = 0 := by decide
                            have cn145 : CNm V63 bq gs := CNm.ag cq (show agr [(0, 7), (0, 8)] [53] V3 V63 from (agr.up (agr.up (agr.tr (agr.up (agr.tr agr.rf ajV20 (by decide) (by decide)) hV32 rfl) ajV39 (by decide) (by decide)) hV52 rfl) hV63 rfl)) (by decide) keepC.rf
                            exact lp69 ((24 - (Int32.toInt 0) + 1 : Int).toNat) 0 V63 H locs ls (by decide) (UNx.z uq (by rw [(up2_fo hV63 (by decide) : V63 21 = V52 21), (up2_fo hV52 (by decide) : V52 21 = V39 21), (funext (fun q => ajV39 21 q rfl) : V39 21 = V32 21), (up2_fo hV32 (by decide) : V32 21 = V20 21), (funext (fun q => ajV20 21 q rfl) : V20 21 = V3 21)] : V63 21 = V3 21) (by decide)) cn145 (by first | exact om_817980d3aa47 | first | omega | ((try (have i_xlp40_2 := Imp.go xlp40_2 (by omega))); (try (have i_xlp5_3 := Imp.go xlp5_3 (by omega))); (try (have i_xlp5_3 := Imp.go xlp5_3 (by omega))); (try (have i_xlp40_2 := Imp.go xlp40_2 (by omega))); omega)) agr.rf hMV63 hP hD hS (lv_sub hl [0, 1, 2, 3, 4, 5, 6] rfl)
                        · skip
                          have f146 : y2.toInt = 6 := b_eq rfl (by decide) c49
                          refine lv_aload_n hx hb dX12_takeTypes_85 rfl (lv_at hl 4 rfl) ?_
                          refine lv_iconst (v := 5) hx hb dX12_takeTypes_86 (by decide) ?_
                          have r147 : Int32.toInt 5 = 5 := by decide
                          refine gA_void (gA_runV (As := [.int 5]) (rest := []) (ci := 12) (q0 := 0) hx hb hml hown hg hP hD hK hS hA hnw hgk (s_wrongA l D ks H.size ad kk V39 L 5 (bq) (gn) (gT) (s1) (gl) hMV39 (by decide) ri) w2035 w2037 w86 w172 w2038 rfl rfl hdV_yX12_wrong ⟨Nat.le_of_ble_eq_true rfl, Nat.le_of_ble_eq_true rfl⟩ rfl hl.1 rfl (Nat.le_of_ble_eq_true rfl) dX12_takeTypes_87 ⟨Nat.le_of_ble_eq_true rfl, Nat.le_of_ble_eq_true rfl⟩) hP hD hK hS hA (fun u149 H locs w150 hP hD hK hS => ?_)
                          obtain ⟨V153, L154⟩ := u149
                          obtain ⟨hMV153, ajV153, axL154, t151, t152⟩ := w150
                          have axL154 : L = L154 := Eq.symm axL154
                          subst axL154
                          have hP : va_P D vwCl (mw ad kk ks.1 V153 L) H := hP
                          have hD : va_D A (mw ad kk ks.1 V153 L) := hD
                          have hMV153 : rgd bM V153 := hMV153
                          have ajV153 : agr [(0, 8)] [] V39 V153 := ajV153
                          have agV153 : agr [(0, 7), (0, 8)] [15, 21, 53] V V153 := agV39.tr ajV153 (by decide) (by decide)
                          have t151 : 1 ≤ (V153 0 8).toInt := t151
                          have t152 : (V153 0 8).toInt = (Int32.toInt 5) + 16 * (gT).2.2 ((s1).1 0) := t152
                          have r155 : 0 ≤ ((V153 0 8)).toInt ∧ ((V153 0 8)).toInt ≤ 70000 := hMV153 0 8
                          have hb156 : ∀ k, Rc gT (Crun gs (Itypes gy gw 0 [] :: k)) (Cbad (V153 0 8).toInt) := fun k => Rc.go1 (hq k) ((ty_5 h24 (LST.no (LST.ag lq (by rw [(funext (fun q => ajV39 53 q rfl) : V39 53 = V32 53), (up2_fo hV32 (by decide) : V32 53 = V20 53), (funext (fun q => ajV20 53 q rfl) : V20 53 = V3 53)] : V39 53 = V3 53)) (fun k h9 => by rw [← hf26]; exact ni k (by omega))) (by omega)).trans (fl_eq rfl (show (V153 0 8).toInt = 5 + 16 * gT.2.2 (s1.1 0) from by omega)))
                          refine lv_aload_n hx hb dX12_takeTypes_90 rfl (lv_at hl 4 rfl) ?_
                          refine lv_dup hx hb dX12_takeTypes_91 rfl ?_
                          refine va_get (D := D) (ci := 12) (v := .int (V153 0 7)) (C := RX12) (T := TX12) (N := 100) hx hb hg inX12 hown hK hP 0 rfl rfl 7 (by decide) (hg _ w1713) (fun _ h9 => h9) rfl dX12_takeTypes_92 ?_
                          refine g_top (v := z31) ((ajV153 0 7 rfl).trans ((ajV39 0 7 rfl).trans (up2_s hV32))) ?_
                          refine lv_iconst (v := 1) hx hb dX12_takeTypes_95 (by decide) ?_
                          refine lv_iadd hx hb dX12_takeTypes_96 ?_
                          refine lv_topi (fun z157 ez157 => ?_)
                          have hz157 : z157.toInt = z31.toInt + 1 := i_add ez157 rfl (by decide) (by (first | exact om_37595bfb6665 rz34.1 rz34.2 | omega))
                          refine va_put (D := D) (ci := 12) (v := .int z157) (ty := tyX12 7) (C := RX12) (T := TX12) (N := 100) hx hb hg inX12 tyX12 tyX12_ok nmX12 hown hK hP hD hS 0 rfl rfl 7 (by decide) (hg _ w1713) (fun _ h9 => h9) rfl (tyX12_ok 7 (by decide)) rfl rfl (Nat.le_of_ble_eq_true rfl) dX12_takeTypes_97 (fun H locs hP hD hS => ?_)
                          obtain ⟨V158, hV158⟩ : ∃ z, z = up2 V153 0 7 z157 := ⟨_, rfl⟩
                          have hP : va_P D vwCl (mw ad kk ks.1 V158 L) H := by rw [hV158]; exact hP
                          have hD : va_D A (mw ad kk ks.1 V158 L) := by rw [hV158]; exact hD
                          have hMV158 : rgd bM V158 := hMV153.put hV158 (i_full _)
                          have agV158 : agr [(0, 7), (0, 8)] [15, 21, 53] V V158 := agV153.up hV158 rfl
                          refine lv_aload_n hx hb dX12_takeTypes_100 rfl (lv_at hl 4 rfl) ?_
                          refine va_get (D := D) (ci := 12) (v := .int (V158 0 8)) (C := RX12) (T := TX12) (N := 100) hx hb hg inX12 hown hK hP 0 rfl rfl 8 (by decide) (hg _ w1714) (fun _ h9 => h9) rfl dX12_takeTypes_101 ?_
                          refine g_top (v := (V153 0 8)) (up2_k hV158 (by decide)) ?_
                          refine lv_if_ne (tgt := 184) hx hb dX12_takeTypes_104 (by decide) (fun c159 => ?_) (fun c159 => ?_)
                          · skip
                            have f160 : ((V153 0 8)).toInt ≠ 0 := b_neq rfl (by decide) c159
                            refine lv_aload_n hx hb dX12_takeTypes_184 rfl (lv_at hl 4 rfl) ?_
                            refine lv_bipush (v := 44) hx hb dX12_takeTypes_185 (by decide) ?_
                            have r161 : Int32.toInt 44 = 44 := by decide
                            have pq162 : (V158 0 8).toInt = ((V153 0 8)).toInt := congrArg Int32.toInt (up2_k hV158 (by decide))
                            refine gA_int (gA_runV (As := [.int 44]) (rest := []) (ci := 12) (q0 := 0) hx hb hml hown hg hP hD hK hS hA hnw hgk (s_hasSignB l D ks H.size ad kk V158 L 44 hMV158 (show 1 ≤ (V158 0 8).toInt from by first | exact om_e3c391a03e81 t151 pq162 | first | omega | ((try (have i_xlp40_2 := Imp.go xlp40_2 (by omega))); (try (have i_xlp5_3 := Imp.go xlp5_3 (by omega))); (try (have i_xlp5_3 := Imp.go xlp5_3 (by omega))); (try (have i_xlp40_2 := Imp.go xlp40_2 (by omega))); omega))) w2067 w2069 w94 w172 w2070 rfl rfl hdV_yX12_hasSign ⟨Nat.le_of_ble_eq_true rfl, Nat.le_of_ble_eq_true rfl⟩ rfl hl.1 rfl (Nat.le_of_ble_eq_true rfl) dX12_takeTypes_187 ⟨Nat.le_of_ble_eq_true rfl, Nat.le_of_ble_eq_true rfl⟩) hP hD hK hS hA (fun z163 u164 H locs w165 hP hD hK hS => ?_)
                            obtain ⟨V167, L168⟩ := u164
                            obtain ⟨hMV167, ajV167, axL168, rgz163, t166⟩ := w165
                            have axL168 : L = L168 := Eq.symm axL168
                            subst axL168
                            have hP : va_P D vwCl (mw ad kk ks.1 V167 L) H := hP
                            have hD : va_D A (mw ad kk ks.1 V167 L) := hD
                            have hMV167 : rgd bM V167 := hMV167
                            have ajV167 : agr [(0, 7)] [] V158 V167 := ajV167
                            have agV167 : agr [(0, 7), (0, 8)] [15, 21, 53] V V167 := agV158.tr ajV167 (by decide) (by decide)
                            have rgz163 : 0 ≤ z163.toInt ∧ z163.toInt ≤ 0 := rgz163
                            have t166 : (V167 0 8).toInt = (V158 0 8).toInt := t166
                            have pq169 : (V167 0 8).toInt = ((V153 0 8)).toInt := congrArg Int32.toInt ((ajV167 0 8 rfl).trans (up2_k hV158 (by decide)))
                            refine lv_istore (lv' := [(4, .int z163), (6, .int y38), (5, .int z16), (3, .int y2), (0, .ref (ad 0)), (1, .ref (ad 21)), (2, .int p1)]) hx hb dX12_takeTypes_190 hl (by decide) rfl (fun ls hl => ?_)
                            refine lv_goto (tgt := 5) hx hb dX12_takeTypes_192 (by decide) ?_
                            have pq170 : (V167 0 12).toInt = ((V 0 12)).toInt := congrArg Int32.toInt ((ajV167 0 12 rfl).trans ((up2_k hV158 (by decide)).trans ((ajV153 0 12 rfl).trans ((ajV39 0 12 rfl).trans ((up2_k hV32 (by decide)).trans ((ajV20 0 12 rfl).trans (ajV3 0 12 rfl)))))))
                            exact ihlp5 (g4 - 1) z163 y2 V167 H locs ls (by first | exact om_641b3f05f166 rgz163.1 rgz163.2 | first | omega | ((try (have i_xlp40_2 := Imp.go xlp40_2 (by omega))); (try (have i_xlp5_3 := Imp.go xlp5_3 (by omega))); (try (have i_xlp5_3 := Imp.go xlp5_3 (by omega))); (try (have i_xlp40_2 := Imp.go xlp40_2 (by omega))); omega)) (by first | exact om_bcf072f18d8c klp5_1.2 f146 | first | omega | ((try (have i_xlp40_2 := Imp.go xlp40_2 (by omega))); (try (have i_xlp5_3 := Imp.go xlp5_3 (by omega))); (try (have i_xlp5_3 := Imp.go xlp5_3 (by omega))); (try (have i_xlp40_2 := Imp.go xlp40_2 (by omega))); omega)) (Or.inr (Or.inr ⟨(show 1 ≤ (V167 0 8).toInt from by (first | exact om_2487ca371d8b t151 pq162 t166 | omega)), (fun k => by rw [show (V167 0 8).toInt = (V153 0 8).toInt from by omega]; exact hb156 k)⟩)) (show 0 ≤ (g4 - 1) from by first | exact om_76a34b28fb8f klp5_1.2 ((Imp.go xlp5_3 (f15))) | first | omega | ((try (have i_xlp40_2 := Imp.go xlp40_2 (by omega))); (try (have i_xlp5_3 := Imp.go xlp5_3 (by omega))); (try (have i_xlp5_3 := Imp.go xlp5_3 (by omega))); (try (have i_xlp40_2 := Imp.go xlp40_2 (by omega))); omega)) (show y2.toInt ≤ 6 from by first | exact om_1cd470348f7c klp5_1.2 | first | omega | ((try (have i_xlp40_2 := Imp.go xlp40_2 (by omega))); (try (have i_xlp5_3 := Imp.go xlp5_3 (by omega))); (try (have i_xlp5_3 := Imp.go xlp5_3 (by omega))); (try (have i_xlp40_2 := Imp.go xlp40_2 (by omega))); omega)) (Imp.mk (fun hp => have hp : (V167 0 8).toInt = 0 := hp; (show 7 - y2.toInt < (g4 - 1) from by first | omega | ((try (have i_xlp40_2 := Imp.go xlp40_2 (by omega))); (try (have i_xlp5_3 := Imp.go xlp5_3 (by omega))); (try (have i_xlp5_3 := Imp.go xlp5_3 (by omega))); (try (have i_xlp40_2 := Imp.go xlp40_2 (by omega))); omega)))) (show (V167 0 12).toInt = (V 0 12).toInt from by first | exact om_570b691c1130 pq170 | first | omega | ((try (have i_xlp40_2 := Imp.go xlp40_2 (by omega))); (try (have i_xlp5_3 := Imp.go xlp5_3 (by omega))); (try (have i_xlp5_3 := Imp.go xlp5_3 (by omega))); (try (have i_xlp40_2 := Imp.go xlp40_2 (by omega))); omega)) (by first | omega | ((try (have i_xlp40_2 := Imp.go xlp40_2 (by omega))); (try (have i_xlp5_3 := Imp.go xlp5_3 (by omega))); (try (have i_xlp5_3 := Imp.go xlp5_3 (by omega))); (try (have i_xlp40_2 := Imp.go xlp40_2 (by omega))); omega)) (agr.tr (agr.up (agr.tr (agr.tr (agr.up (agr.tr (agr.tr agr.rf ajV3 (by decide) (by decide)) ajV20 (by decide) (by decide)) hV32 rfl) ajV39 (by decide) (by decide)) ajV153 (by decide) (by decide)) hV158 rfl) ajV167 (by decide) (by decide)) hMV167 hP hD hS (lv_sub hl [0, 3, 4, 5, 6] rfl)
                          · skip
                            have f171 : ((V153 0 8)).toInt = 0 := b_eq rfl (by decide) c159
                            exfalso; first | exact om_09885ab343b9 t151 f171 | first | omega | ((try (have i_xlp40_2 := Imp.go xlp40_2 (by omega))); (try (have i_xlp5_3 := Imp.go xlp5_3 (by omega))); (try (have i_xlp5_3 := Imp.go xlp5_3 (by omega))); (try (have i_xlp40_2 := Imp.go xlp40_2 (by omega))); omega)
                    · skip
                      have f172 : y38.toInt < y2.toInt := b_nle rfl rfl c44
                      refine lv_aload_n hx hb dX12_takeTypes_42 rfl (lv_at hl 4 rfl) ?_
                      refine va_get (D := D) (ci := 12) (v := .int (V39 0 8)) (C := RX12) (T := TX12) (N := 100) hx hb hg inX12 hown hK hP 0 rfl rfl 8 (by decide) (hg _ w1714) (fun _ h9 => h9) rfl dX12_takeTypes_43 ?_
                      refine lv_if_ne (tgt := 72) hx hb dX12_takeTypes_46 (by decide) (fun c173 => ?_) (fun c173 => ?_)
                      · skip
                        have f174 : ((V39 0 8)).toInt ≠ 0 := b_neq rfl (by decide) c173
                        exfalso; first | exact om_0b51723c7ef6 f7 f174 | first | omega | ((try (have i_xlp40_2 := Imp.go xlp40_2 (by omega))); (try (have i_xlp5_3 := Imp.go xlp5_3 (by omega))); (try (have i_xlp5_3 := Imp.go xlp5_3 (by omega))); (try (have i_xlp40_2 := Imp.go xlp40_2 (by omega))); omega)
                      · skip
                        have f175 : ((V39 0 8)).toInt = 0 := b_eq rfl (by decide) c173
                        refine lv_aload_n hx hb dX12_takeTypes_49 rfl (lv_at hl 4 rfl) ?_
                        refine va_get (D := D) (ci := 12) (v := .ref (ad 53)) (C := RX12) (T := TX12) (N := 100) hx hb hg inX12 hown hK hP 0 rfl rfl 53 (by decide) (hg _ w1759) (fun _ h9 => h9) rfl dX12_takeTypes_50 ?_
                        refine lv_iload hx hb dX12_takeTypes_53 (lv_at hl 0 rfl) ?_
                        refine va_iald (D := D) (i := y38) hx hb hK hP 41 40 rfl rfl (i_in (a := y38.toInt) rfl (by first | exact om_d031f10f3d19 klp5_1.2 klp40_0.1 f172 | first | omega | ((try (have i_xlp40_2 := Imp.go xlp40_2 (by omega))); (try (have i_xlp5_3 := Imp.go xlp5_3 (by omega))); (try (have i_xlp5_3 := Imp.go xlp5_3 (by omega))); (try (have i_xlp40_2 := Imp.go xlp40_2 (by omega))); omega))) dX12_takeTypes_55 ?_
                        refine g_top (v := (V3 53 (Int32.toNatClampNeg y38))) ((ajV39 53 (Int32.toNatClampNeg y38) rfl).trans ((up2_o hV32 (by decide)).trans (ajV20 53 (Int32.toNatClampNeg y38) rfl))) ?_
                        have r176 : (-1) ≤ ((V3 53 (Int32.toNatClampNeg y38))).toInt ∧ ((V3 53 (Int32.toNatClampNeg y38))).toInt ≤ 23 := hMV3 53 (Int32.toNatClampNeg y38)
                        refine lv_iload hx hb dX12_takeTypes_56 (lv_at hl 1 rfl) ?_
                        refine lv_icmp_ne (tgt := 66) hx hb dX12_takeTypes_58 (by decide) (fun c177 => ?_) (fun c177 => ?_)
                        · skip
                          have f178 : ((V3 53 (Int32.toNatClampNeg y38))).toInt ≠ z16.toInt := b_neq rfl rfl c177
                          obtain ⟨z179, ez179⟩ : ∃ y : Int32, y = y38 + 1 := ⟨_, rfl⟩
                          have hz179 : z179.toInt = y38.toInt + 1 := i_add ez179 rfl (by decide) (by (first | exact om_65d898249a5b klp5_1.2 klp40_0.1 f172 | omega))
                          refine lv_iinc (v := z179) (lv' := [(6, .int z179), (5, .int z16), (4, .int y1), (3, .int y2), (0, .ref (ad 0)), (1, .ref (ad 21)), (2, .int p1)]) hx hb dX12_takeTypes_66 hl (k := 0) rfl (by rw [ez179]; rfl) (by decide) rfl (fun ls hl => ?_)
                          refine lv_goto (tgt := 36) hx hb dX12_takeTypes_69 (by decide) ?_
                          have kc180 := i_clamp (x := y38) rfl (by (first | exact om_eafa9039069c klp40_0.1 | omega))
                          have pq181 : (V39 53 (Int32.toNatClampNeg y38)).toInt = ((V3 53 (Int32.toNatClampNeg y38))).toInt := congrArg Int32.toInt ((ajV39 53 (Int32.toNatClampNeg y38) rfl).trans ((up2_o hV32 (by decide)).trans (ajV20 53 (Int32.toNatClampNeg y38) rfl)))
                          exact ihlp40 z179 V39 H locs ls (by first | exact om_d043005af2aa klp5_1.2 klp40_0.1 f172 hz179 | first | omega | ((try (have i_xlp40_2 := Imp.go xlp40_2 (by omega))); (try (have i_xlp5_3 := Imp.go xlp5_3 (by omega))); (try (have i_xlp5_3 := Imp.go xlp5_3 (by omega))); (try (have i_xlp40_2 := Imp.go xlp40_2 (by omega))); omega)) (Or.inl ⟨W0 ri, ri, fun k h9 => by by_cases c9 : (k : Int) < y38.toInt; exact ni k c9; have ek : k = Int32.toNatClampNeg y38 := (by omega); rw [ek]; omega⟩) (show z179.toInt ≤ y2.toInt from by first | exact om_7fe9249fc074 f172 hz179 | first | omega | ((try (have i_xlp40_2 := Imp.go xlp40_2 (by omega))); (try (have i_xlp5_3 := Imp.go xlp5_3 (by omega))); (try (have i_xlp5_3 := Imp.go xlp5_3 (by omega))); (try (have i_xlp40_2 := Imp.go xlp40_2 (by omega))); omega)) (Imp.mk (fun hp => have hp : 1 ≤ (V32 0 8).toInt := hp; (show (V39 0 8).toInt = (V32 0 8).toInt from by first | omega | ((try (have i_xlp40_2 := Imp.go xlp40_2 (by omega))); (try (have i_xlp5_3 := Imp.go xlp5_3 (by omega))); (try (have i_xlp5_3 := Imp.go xlp5_3 (by omega))); (try (have i_xlp40_2 := Imp.go xlp40_2 (by omega))); omega)))) (by first | exact om_9e7d2b874257 hn hz179 | first | omega | ((try (have i_xlp40_2 := Imp.go xlp40_2 (by omega))); (try (have i_xlp5_3 := Imp.go xlp5_3 (by omega))); (try (have i_xlp5_3 := Imp.go xlp5_3 (by omega))); (try (have i_xlp40_2 := Imp.go xlp40_2 (by omega))); omega)) (agr.tr agr.rf ajV39 (by decide) (by decide)) hMV39 hP hD hS (lv_sub hl [0, 1, 2, 3, 4, 5, 6] rfl)
                        · skip
                          have f182 : ((V3 53 (Int32.toNatClampNeg y38))).toInt = z16.toInt := b_eq rfl rfl c177
                          refine lv_aload_n hx hb dX12_takeTypes_61 rfl (lv_at hl 4 rfl) ?_
                          refine lv_iconst (v := 3) hx hb dX12_takeTypes_62 (by decide) ?_
                          have r183 : Int32.toInt 3 = 3 := by decide
                          refine gA_void (gA_runV (As := [.int 3]) (rest := []) (ci := 12) (q0 := 0) hx hb hml hown hg hP hD hK hS hA hnw hgk (s_wrongA l D ks H.size ad kk V39 L 3 (bq) (gn) (gT) (s1) (gl) hMV39 (by decide) ri) w2035 w2037 w86 w172 w2038 rfl rfl hdV_yX12_wrong ⟨Nat.le_of_ble_eq_true rfl, Nat.le_of_ble_eq_true rfl⟩ rfl hl.1 rfl (Nat.le_of_ble_eq_true rfl) dX12_takeTypes_63 ⟨Nat.le_of_ble_eq_true rfl, Nat.le_of_ble_eq_true rfl⟩) hP hD hK hS hA (fun u185 H locs w186 hP hD hK hS => ?_)
                          obtain ⟨V189, L190⟩ := u185
                          obtain ⟨hMV189, ajV189, axL190, t187, t188⟩ := w186
                          have axL190 : L = L190 := Eq.symm axL190
                          subst axL190
                          have hP : va_P D vwCl (mw ad kk ks.1 V189 L) H := hP
                          have hD : va_D A (mw ad kk ks.1 V189 L) := hD
                          have hMV189 : rgd bM V189 := hMV189
                          have ajV189 : agr [(0, 8)] [] V39 V189 := ajV189
                          have agV189 : agr [(0, 7), (0, 8)] [15, 21, 53] V V189 := agV39.tr ajV189 (by decide) (by decide)
                          have t187 : 1 ≤ (V189 0 8).toInt := t187
                          have t188 : (V189 0 8).toInt = (Int32.toInt 3) + 16 * (gT).2.2 ((s1).1 0) := t188
                          have r191 : 0 ≤ ((V189 0 8)).toInt ∧ ((V189 0 8)).toInt ≤ 70000 := hMV189 0 8
                          have kc192 := i_clamp (x := y38) rfl (by (first | exact om_eafa9039069c klp40_0.1 | omega))
                          have hb193 : ∀ k, Rc gT (Crun gs (Itypes gy gw 0 [] :: k)) (Cbad (V189 0 8).toInt) := fun k => Rc.go1 (hq k) ((ty_3 h24 ((lq fx23).mpr ⟨Int32.toNatClampNeg y38, by omega, by omega⟩)).trans (fl_eq rfl (show (V189 0 8).toInt = 3 + 16 * gT.2.2 (s1.1 0) from by omega)))
                          obtain ⟨z194, ez194⟩ : ∃ y : Int32, y = y38 + 1 := ⟨_, rfl⟩
                          have hz194 : z194.toInt = y38.toInt + 1 := i_add ez194 rfl (by decide) (by (first | exact om_65d898249a5b klp5_1.2 klp40_0.1 f172 | omega))
                          refine lv_iinc (v := z194) (lv' := [(6, .int z194), (5, .int z16), (4, .int y1), (3, .int y2), (0, .ref (ad 0)), (1, .ref (ad 21)), (2, .int p1)]) hx hb dX12_takeTypes_66 hl (k := 0) rfl (by rw [ez194]; rfl) (by decide) rfl (fun ls hl => ?_)
                          refine lv_goto (tgt := 36) hx hb dX12_takeTypes_69 (by decide) ?_
                          exact ihlp40 z194 V189 H locs ls (by first | exact om_d043005af2aa klp5_1.2 klp40_0.1 f172 hz194 | first | omega | ((try (have i_xlp40_2 := Imp.go xlp40_2 (by omega))); (try (have i_xlp5_3 := Imp.go xlp5_3 (by omega))); (try (have i_xlp5_3 := Imp.go xlp5_3 (by omega))); (try (have i_xlp40_2 := Imp.go xlp40_2 (by omega))); omega)) (Or.inr ⟨(show 1 ≤ (V189 0 8).toInt from by (first | exact om_f8d8213eda45 t187 | omega)), hb193⟩) (show z194.toInt ≤ y2.toInt from by first | exact om_7fe9249fc074 f172 hz194 | first | omega | ((try (have i_xlp40_2 := Imp.go xlp40_2 (by omega))); (try (have i_xlp5_3 := Imp.go xlp5_3 (by omega))); (try (have i_xlp5_3 := Imp.go xlp5_3 (by omega))); (try (have i_xlp40_2 := Imp.go xlp40_2 (by omega))); omega)) (Imp.mk (fun hp => have hp : 1 ≤ (V32 0 8).toInt := hp; (show (V189 0 8).toInt = (V32 0 8).toInt from by first | omega | ((try (have i_xlp40_2 := Imp.go xlp40_2 (by omega))); (try (have i_xlp5_3 := Imp.go xlp5_3 (by omega))); (try (have i_xlp5_3 := Imp.go xlp5_3 (by omega))); (try (have i_xlp40_2 := Imp.go xlp40_2 (by omega))); omega)))) (by first | exact om_9e7d2b874257 hn hz194 | first | omega | ((try (have i_xlp40_2 := Imp.go xlp40_2 (by omega))); (try (have i_xlp5_3 := Imp.go xlp5_3 (by omega))); (try (have i_xlp5_3 := Imp.go xlp5_3 (by omega))); (try (have i_xlp40_2 := Imp.go xlp40_2 (by omega))); omega)) (agr.tr (agr.tr agr.rf ajV39 (by decide) (by decide)) ajV189 (by decide) (by decide)) hMV189 hP hD hS (lv_sub hl [0, 1, 2, 3, 4, 5, 6] rfl)
                  · skip
                    have r195 : 0 ≤ ((V39 0 8)).toInt ∧ ((V39 0 8)).toInt ≤ 70000 := hMV39 0 8
                    refine lv_iload_n hx hb dX12_takeTypes_38 rfl (lv_at hl 3 rfl) ?_
                    refine lv_icmp_ge (tgt := 72) hx hb dX12_takeTypes_39 (by decide) (fun c196 => ?_) (fun c196 => ?_)
                    · skip
                      have f197 : y2.toInt ≤ y38.toInt := b_le rfl rfl c196
                      refine lv_aload_n hx hb dX12_takeTypes_72 rfl (lv_at hl 4 rfl) ?_
                      refine va_get (D := D) (ci := 12) (v := .int (V39 0 8)) (C := RX12) (T := TX12) (N := 100) hx hb hg inX12 hown hK hP 0 rfl rfl 8 (by decide) (hg _ w1714) (fun _ h9 => h9) rfl dX12_takeTypes_73 ?_
                      refine lv_if_ne (tgt := 90) hx hb dX12_takeTypes_76 (by decide) (fun c198 => ?_) (fun c198 => ?_)
                      · skip
                        have f199 : ((V39 0 8)).toInt ≠ 0 := b_neq rfl (by decide) c198
                        refine lv_aload_n hx hb dX12_takeTypes_90 rfl (lv_at hl 4 rfl) ?_
                        refine lv_dup hx hb dX12_takeTypes_91 rfl ?_
                        refine va_get (D := D) (ci := 12) (v := .int (V39 0 7)) (C := RX12) (T := TX12) (N := 100) hx hb hg inX12 hown hK hP 0 rfl rfl 7 (by decide) (hg _ w1713) (fun _ h9 => h9) rfl dX12_takeTypes_92 ?_
                        refine g_top (v := z31) ((ajV39 0 7 rfl).trans (up2_s hV32)) ?_
                        refine lv_iconst (v := 1) hx hb dX12_takeTypes_95 (by decide) ?_
                        refine lv_iadd hx hb dX12_takeTypes_96 ?_
                        refine lv_topi (fun z200 ez200 => ?_)
                        have hz200 : z200.toInt = z31.toInt + 1 := i_add ez200 rfl (by decide) (by (first | exact om_37595bfb6665 rz34.1 rz34.2 | omega))
                        refine va_put (D := D) (ci := 12) (v := .int z200) (ty := tyX12 7) (C := RX12) (T := TX12) (N := 100) hx hb hg inX12 tyX12 tyX12_ok nmX12 hown hK hP hD hS 0 rfl rfl 7 (by decide) (hg _ w1713) (fun _ h9 => h9) rfl (tyX12_ok 7 (by decide)) rfl rfl (Nat.le_of_ble_eq_true rfl) dX12_takeTypes_97 (fun H locs hP hD hS => ?_)
                        obtain ⟨V201, hV201⟩ : ∃ z, z = up2 V39 0 7 z200 := ⟨_, rfl⟩
                        have hP : va_P D vwCl (mw ad kk ks.1 V201 L) H := by rw [hV201]; exact hP
                        have hD : va_D A (mw ad kk ks.1 V201 L) := by rw [hV201]; exact hD
                        have hMV201 : rgd bM V201 := hMV39.put hV201 (i_full _)
                        have agV201 : agr [(0, 7), (0, 8)] [15, 21, 53] V V201 := agV39.up hV201 rfl
                        refine lv_aload_n hx hb dX12_takeTypes_100 rfl (lv_at hl 4 rfl) ?_
                        refine va_get (D := D) (ci := 12) (v := .int (V201 0 8)) (C := RX12) (T := TX12) (N := 100) hx hb hg inX12 hown hK hP 0 rfl rfl 8 (by decide) (hg _ w1714) (fun _ h9 => h9) rfl dX12_takeTypes_101 ?_
                        refine g_top (v := (V39 0 8)) (up2_k hV201 (by decide)) ?_
                        refine lv_if_ne (tgt := 184) hx hb dX12_takeTypes_104 (by decide) (fun c202 => ?_) (fun c202 => ?_)
                        · skip
                          have f203 : ((V39 0 8)).toInt ≠ 0 := b_neq rfl (by decide) c202
                          refine lv_aload_n hx hb dX12_takeTypes_184 rfl (lv_at hl 4 rfl) ?_
                          refine lv_bipush (v := 44) hx hb dX12_takeTypes_185 (by decide) ?_
                          have r204 : Int32.toInt 44 = 44 := by decide
                          have pq205 : (V201 0 8).toInt = ((V39 0 8)).toInt := congrArg Int32.toInt (up2_k hV201 (by decide))
                          refine gA_int (gA_runV (As := [.int 44]) (rest := []) (ci := 12) (q0 := 0) hx hb hml hown hg hP hD hK hS hA hnw hgk (s_hasSignB l D ks H.size ad kk V201 L 44 hMV201 (show 1 ≤ (V201 0 8).toInt from by first | exact om_1499017b39b7 r195.1 f199 pq205 | first | omega | ((try (have i_xlp40_2 := Imp.go xlp40_2 (by omega))); (try (have i_xlp5_3 := Imp.go xlp5_3 (by omega))); (try (have i_xlp5_3 := Imp.go xlp5_3 (by omega))); (try (have i_xlp40_2 := Imp.go xlp40_2 (by omega))); omega))) w2067 w2069 w94 w172 w2070 rfl rfl hdV_yX12_hasSign ⟨Nat.le_of_ble_eq_true rfl, Nat.le_of_ble_eq_true rfl⟩ rfl hl.1 rfl (Nat.le_of_ble_eq_true rfl) dX12_takeTypes_187 ⟨Nat.le_of_ble_eq_true rfl, Nat.le_of_ble_eq_true rfl⟩) hP hD hK hS hA (fun z206 u207 H locs w208 hP hD hK hS => ?_)
                          obtain ⟨V210, L211⟩ := u207
                          obtain ⟨hMV210, ajV210, axL211, rgz206, t209⟩ := w208
                          have axL211 : L = L211 := Eq.symm axL211
                          subst axL211
                          have hP : va_P D vwCl (mw ad kk ks.1 V210 L) H := hP
                          have hD : va_D A (mw ad kk ks.1 V210 L) := hD
                          have hMV210 : rgd bM V210 := hMV210
                          have ajV210 : agr [(0, 7)] [] V201 V210 := ajV210
                          have agV210 : agr [(0, 7), (0, 8)] [15, 21, 53] V V210 := agV201.tr ajV210 (by decide) (by decide)
                          have rgz206 : 0 ≤ z206.toInt ∧ z206.toInt ≤ 0 := rgz206
                          have t209 : (V210 0 8).toInt = (V201 0 8).toInt := t209
                          have pq212 : (V210 0 8).toInt = ((V39 0 8)).toInt := congrArg Int32.toInt ((ajV210 0 8 rfl).trans (up2_k hV201 (by decide)))
                          refine lv_istore (lv' := [(4, .int z206), (6, .int y38), (5, .int z16), (3, .int y2), (0, .ref (ad 0)), (1, .ref (ad 21)), (2, .int p1)]) hx hb dX12_takeTypes_190 hl (by decide) rfl (fun ls hl => ?_)
                          refine lv_goto (tgt := 5) hx hb dX12_takeTypes_192 (by decide) ?_
                          have pq213 : (V210 0 12).toInt = ((V 0 12)).toInt := congrArg Int32.toInt ((ajV210 0 12 rfl).trans ((up2_k hV201 (by decide)).trans ((ajV39 0 12 rfl).trans ((up2_k hV32 (by decide)).trans ((ajV20 0 12 rfl).trans (ajV3 0 12 rfl))))))
                          exact ihlp5 (g4 - 1) z206 y2 V210 H locs ls (by first | exact om_641b3f05f166 rgz206.1 rgz206.2 | first | omega | ((try (have i_xlp40_2 := Imp.go xlp40_2 (by omega))); (try (have i_xlp5_3 := Imp.go xlp5_3 (by omega))); (try (have i_xlp5_3 := Imp.go xlp5_3 (by omega))); (try (have i_xlp40_2 := Imp.go xlp40_2 (by omega))); omega)) (by first | exact om_5de5485ce193 klp40_0.1 klp40_0.2 xlp40_1 f197 | first | omega | ((try (have i_xlp40_2 := Imp.go xlp40_2 (by omega))); (try (have i_xlp5_3 := Imp.go xlp5_3 (by omega))); (try (have i_xlp5_3 := Imp.go xlp5_3 (by omega))); (try (have i_xlp40_2 := Imp.go xlp40_2 (by omega))); omega)) (Or.inr (Or.inr ⟨(show 1 ≤ (V210 0 8).toInt from by (first | exact om_14e1582db31a r195.1 f199 pq205 t209 | omega)), (fun k => by rw [show (V210 0 8).toInt = (V39 0 8).toInt from by omega]; exact hi k)⟩)) (show 0 ≤ (g4 - 1) from by first | exact om_53bb2050c72d klp40_0.2 f197 ((Imp.go xlp5_3 (f15))) | first | omega | ((try (have i_xlp40_2 := Imp.go xlp40_2 (by omega))); (try (have i_xlp5_3 := Imp.go xlp5_3 (by omega))); (try (have i_xlp5_3 := Imp.go xlp5_3 (by omega))); (try (have i_xlp40_2 := Imp.go xlp40_2 (by omega))); omega)) (show y2.toInt ≤ 6 from by first | exact om_95b7a1d732ac klp40_0.2 f197 | first | omega | ((try (have i_xlp40_2 := Imp.go xlp40_2 (by omega))); (try (have i_xlp5_3 := Imp.go xlp5_3 (by omega))); (try (have i_xlp5_3 := Imp.go xlp5_3 (by omega))); (try (have i_xlp40_2 := Imp.go xlp40_2 (by omega))); omega)) (Imp.mk (fun hp => have hp : (V210 0 8).toInt = 0 := hp; (show 7 - y2.toInt < (g4 - 1) from by first | omega | ((try (have i_xlp40_2 := Imp.go xlp40_2 (by omega))); (try (have i_xlp5_3 := Imp.go xlp5_3 (by omega))); (try (have i_xlp5_3 := Imp.go xlp5_3 (by omega))); (try (have i_xlp40_2 := Imp.go xlp40_2 (by omega))); omega)))) (show (V210 0 12).toInt = (V 0 12).toInt from by first | exact om_570b691c1130 pq213 | first | omega | ((try (have i_xlp40_2 := Imp.go xlp40_2 (by omega))); (try (have i_xlp5_3 := Imp.go xlp5_3 (by omega))); (try (have i_xlp5_3 := Imp.go xlp5_3 (by omega))); (try (have i_xlp40_2 := Imp.go xlp40_2 (by omega))); omega)) (by first | omega | ((try (have i_xlp40_2 := Imp.go xlp40_2 (by omega))); (try (have i_xlp5_3 := Imp.go xlp5_3 (by omega))); (try (have i_xlp5_3 := Imp.go xlp5_3 (by omega))); (try (have i_xlp40_2 := Imp.go xlp40_2 (by omega))); omega)) (agr.tr (agr.up (agr.tr (agr.up (agr.tr (agr.tr agr.rf ajV3 (by decide) (by decide)) ajV20 (by decide) (by decide)) hV32 rfl) ajV39 (by decide) (by decide)) hV201 rfl) ajV210 (by decide) (by decide)) hMV210 hP hD hS (lv_sub hl [0, 3, 4, 5, 6] rfl)
                        · skip
                          have f214 : ((V39 0 8)).toInt = 0 := b_eq rfl (by decide) c202
                          exfalso; first | exact om_0abcda13baee r195.1 f199 f214 | first | omega | ((try (have i_xlp40_2 := Imp.go xlp40_2 (by omega))); (try (have i_xlp5_3 := Imp.go xlp5_3 (by omega))); (try (have i_xlp5_3 := Imp.go xlp5_3 (by omega))); (try (have i_xlp40_2 := Imp.go xlp40_2 (by omega))); omega)
                      · skip
                        have f215 : ((V39 0 8)).toInt = 0 := b_eq rfl (by decide) c198
                        exfalso; first | exact om_09885ab343b9 f7 f215 | first | omega | ((try (have i_xlp40_2 := Imp.go xlp40_2 (by omega))); (try (have i_xlp5_3 := Imp.go xlp5_3 (by omega))); (try (have i_xlp5_3 := Imp.go xlp5_3 (by omega))); (try (have i_xlp40_2 := Imp.go xlp40_2 (by omega))); omega)
                    · skip
                      have f216 : y38.toInt < y2.toInt := b_nle rfl rfl c196
                      refine lv_aload_n hx hb dX12_takeTypes_42 rfl (lv_at hl 4 rfl) ?_
                      refine va_get (D := D) (ci := 12) (v := .int (V39 0 8)) (C := RX12) (T := TX12) (N := 100) hx hb hg inX12 hown hK hP 0 rfl rfl 8 (by decide) (hg _ w1714) (fun _ h9 => h9) rfl dX12_takeTypes_43 ?_
                      refine lv_if_ne (tgt := 72) hx hb dX12_takeTypes_46 (by decide) (fun c217 => ?_) (fun c217 => ?_)
                      · skip
                        have f218 : ((V39 0 8)).toInt ≠ 0 := b_neq rfl (by decide) c217
                        refine lv_aload_n hx hb dX12_takeTypes_72 rfl (lv_at hl 4 rfl) ?_
                        refine va_get (D := D) (ci := 12) (v := .int (V39 0 8)) (C := RX12) (T := TX12) (N := 100) hx hb hg inX12 hown hK hP 0 rfl rfl 8 (by decide) (hg _ w1714) (fun _ h9 => h9) rfl dX12_takeTypes_73 ?_
                        refine lv_if_ne (tgt := 90) hx hb dX12_takeTypes_76 (by decide) (fun c219 => ?_) (fun c219 => ?_)
                        · skip
                          have f220 : ((V39 0 8)).toInt ≠ 0 := b_neq rfl (by decide) c219
                          refine lv_aload_n hx hb dX12_takeTypes_90 rfl (lv_at hl 4 rfl) ?_
                          refine lv_dup hx hb dX12_takeTypes_91 rfl ?_
                          refine va_get (D := D) (ci := 12) (v := .int (V39 0 7)) (C := RX12) (T := TX12) (N := 100) hx hb hg inX12 hown hK hP 0 rfl rfl 7 (by decide) (hg _ w1713) (fun _ h9 => h9) rfl dX12_takeTypes_92 ?_
                          refine g_top (v := z31) ((ajV39 0 7 rfl).trans (up2_s hV32)) ?_
                          refine lv_iconst (v := 1) hx hb dX12_takeTypes_95 (by decide) ?_
                          refine lv_iadd hx hb dX12_takeTypes_96 ?_
                          refine lv_topi (fun z221 ez221 => ?_)
                          have hz221 : z221.toInt = z31.toInt + 1 := i_add ez221 rfl (by decide) (by (first | exact om_37595bfb6665 rz34.1 rz34.2 | omega))
                          refine va_put (D := D) (ci := 12) (v := .int z221) (ty := tyX12 7) (C := RX12) (T := TX12) (N := 100) hx hb hg inX12 tyX12 tyX12_ok nmX12 hown hK hP hD hS 0 rfl rfl 7 (by decide) (hg _ w1713) (fun _ h9 => h9) rfl (tyX12_ok 7 (by decide)) rfl rfl (Nat.le_of_ble_eq_true rfl) dX12_takeTypes_97 (fun H locs hP hD hS => ?_)
                          obtain ⟨V222, hV222⟩ : ∃ z, z = up2 V39 0 7 z221 := ⟨_, rfl⟩
                          have hP : va_P D vwCl (mw ad kk ks.1 V222 L) H := by rw [hV222]; exact hP
                          have hD : va_D A (mw ad kk ks.1 V222 L) := by rw [hV222]; exact hD
                          have hMV222 : rgd bM V222 := hMV39.put hV222 (i_full _)
                          have agV222 : agr [(0, 7), (0, 8)] [15, 21, 53] V V222 := agV39.up hV222 rfl
                          refine lv_aload_n hx hb dX12_takeTypes_100 rfl (lv_at hl 4 rfl) ?_
                          refine va_get (D := D) (ci := 12) (v := .int (V222 0 8)) (C := RX12) (T := TX12) (N := 100) hx hb hg inX12 hown hK hP 0 rfl rfl 8 (by decide) (hg _ w1714) (fun _ h9 => h9) rfl dX12_takeTypes_101 ?_
                          refine g_top (v := (V39 0 8)) (up2_k hV222 (by decide)) ?_
                          refine lv_if_ne (tgt := 184) hx hb dX12_takeTypes_104 (by decide) (fun c223 => ?_) (fun c223 => ?_)
                          · skip
                            have f224 : ((V39 0 8)).toInt ≠ 0 := b_neq rfl (by decide) c223
                            refine lv_aload_n hx hb dX12_takeTypes_184 rfl (lv_at hl 4 rfl) ?_
                            refine lv_bipush (v := 44) hx hb dX12_takeTypes_185 (by decide) ?_
                            have r225 : Int32.toInt 44 = 44 := by decide
                            have pq226 : (V222 0 8).toInt = ((V39 0 8)).toInt := congrArg Int32.toInt (up2_k hV222 (by decide))
                            refine gA_int (gA_runV (As := [.int 44]) (rest := []) (ci := 12) (q0 := 0) hx hb hml hown hg hP hD hK hS hA hnw hgk (s_hasSignB l D ks H.size ad kk V222 L 44 hMV222 (show 1 ≤ (V222 0 8).toInt from by first | exact om_1499017b39b7 r195.1 f218 pq226 | first | omega | ((try (have i_xlp40_2 := Imp.go xlp40_2 (by omega))); (try (have i_xlp5_3 := Imp.go xlp5_3 (by omega))); (try (have i_xlp5_3 := Imp.go xlp5_3 (by omega))); (try (have i_xlp40_2 := Imp.go xlp40_2 (by omega))); omega))) w2067 w2069 w94 w172 w2070 rfl rfl hdV_yX12_hasSign ⟨Nat.le_of_ble_eq_true rfl, Nat.le_of_ble_eq_true rfl⟩ rfl hl.1 rfl (Nat.le_of_ble_eq_true rfl) dX12_takeTypes_187 ⟨Nat.le_of_ble_eq_true rfl, Nat.le_of_ble_eq_true rfl⟩) hP hD hK hS hA (fun z227 u228 H locs w229 hP hD hK hS => ?_)
                            obtain ⟨V231, L232⟩ := u228
                            obtain ⟨hMV231, ajV231, axL232, rgz227, t230⟩ := w229
                            have axL232 : L = L232 := Eq.symm axL232
                            subst axL232
                            have hP : va_P D vwCl (mw ad kk ks.1 V231 L) H := hP
                            have hD : va_D A (mw ad kk ks.1 V231 L) := hD
                            have hMV231 : rgd bM V231 := hMV231
                            have ajV231 : agr [(0, 7)] [] V222 V231 := ajV231
                            have agV231 : agr [(0, 7), (0, 8)] [15, 21, 53] V V231 := agV222.tr ajV231 (by decide) (by decide)
                            have rgz227 : 0 ≤ z227.toInt ∧ z227.toInt ≤ 0 := rgz227
                            have t230 : (V231 0 8).toInt = (V222 0 8).toInt := t230
                            have pq233 : (V231 0 8).toInt = ((V39 0 8)).toInt := congrArg Int32.toInt ((ajV231 0 8 rfl).trans (up2_k hV222 (by decide)))
                            refine lv_istore (lv' := [(4, .int z227), (6, .int y38), (5, .int z16), (3, .int y2), (0, .ref (ad 0)), (1, .ref (ad 21)), (2, .int p1)]) hx hb dX12_takeTypes_190 hl (by decide) rfl (fun ls hl => ?_)
                            refine lv_goto (tgt := 5) hx hb dX12_takeTypes_192 (by decide) ?_
                            have pq234 : (V231 0 12).toInt = ((V 0 12)).toInt := congrArg Int32.toInt ((ajV231 0 12 rfl).trans ((up2_k hV222 (by decide)).trans ((ajV39 0 12 rfl).trans ((up2_k hV32 (by decide)).trans ((ajV20 0 12 rfl).trans (ajV3 0 12 rfl))))))
                            exact ihlp5 (g4 - 1) z227 y2 V231 H locs ls (by first | exact om_641b3f05f166 rgz227.1 rgz227.2 | first | omega | ((try (have i_xlp40_2 := Imp.go xlp40_2 (by omega))); (try (have i_xlp5_3 := Imp.go xlp5_3 (by omega))); (try (have i_xlp5_3 := Imp.go xlp5_3 (by omega))); (try (have i_xlp40_2 := Imp.go xlp40_2 (by omega))); omega)) (by first | exact om_420c7ba86e3d klp5_1.2 klp40_0.1 f216 | first | omega | ((try (have i_xlp40_2 := Imp.go xlp40_2 (by omega))); (try (have i_xlp5_3 := Imp.go xlp5_3 (by omega))); (try (have i_xlp5_3 := Imp.go xlp5_3 (by omega))); (try (have i_xlp40_2 := Imp.go xlp40_2 (by omega))); omega)) (Or.inr (Or.inr ⟨(show 1 ≤ (V231 0 8).toInt from by (first | exact om_14e1582db31a r195.1 f218 pq226 t230 | omega)), (fun k => by rw [show (V231 0 8).toInt = (V39 0 8).toInt from by omega]; exact hi k)⟩)) (show 0 ≤ (g4 - 1) from by first | exact om_76a34b28fb8f klp5_1.2 ((Imp.go xlp5_3 (f15))) | first | omega | ((try (have i_xlp40_2 := Imp.go xlp40_2 (by omega))); (try (have i_xlp5_3 := Imp.go xlp5_3 (by omega))); (try (have i_xlp5_3 := Imp.go xlp5_3 (by omega))); (try (have i_xlp40_2 := Imp.go xlp40_2 (by omega))); omega)) (show y2.toInt ≤ 6 from by first | exact om_1cd470348f7c klp5_1.2 | first | omega | ((try (have i_xlp40_2 := Imp.go xlp40_2 (by omega))); (try (have i_xlp5_3 := Imp.go xlp5_3 (by omega))); (try (have i_xlp5_3 := Imp.go xlp5_3 (by omega))); (try (have i_xlp40_2 := Imp.go xlp40_2 (by omega))); omega)) (Imp.mk (fun hp => have hp : (V231 0 8).toInt = 0 := hp; (show 7 - y2.toInt < (g4 - 1) from by first | omega | ((try (have i_xlp40_2 := Imp.go xlp40_2 (by omega))); (try (have i_xlp5_3 := Imp.go xlp5_3 (by omega))); (try (have i_xlp5_3 := Imp.go xlp5_3 (by omega))); (try (have i_xlp40_2 := Imp.go xlp40_2 (by omega))); omega)))) (show (V231 0 12).toInt = (V 0 12).toInt from by first | exact om_570b691c1130 pq234 | first | omega | ((try (have i_xlp40_2 := Imp.go xlp40_2 (by omega))); (try (have i_xlp5_3 := Imp.go xlp5_3 (by omega))); (try (have i_xlp5_3 := Imp.go xlp5_3 (by omega))); (try (have i_xlp40_2 := Imp.go xlp40_2 (by omega))); omega)) (by first | omega | ((try (have i_xlp40_2 := Imp.go xlp40_2 (by omega))); (try (have i_xlp5_3 := Imp.go xlp5_3 (by omega))); (try (have i_xlp5_3 := Imp.go xlp5_3 (by omega))); (try (have i_xlp40_2 := Imp.go xlp40_2 (by omega))); omega)) (agr.tr (agr.up (agr.tr (agr.up (agr.tr (agr.tr agr.rf ajV3 (by decide) (by decide)) ajV20 (by decide) (by decide)) hV32 rfl) ajV39 (by decide) (by decide)) hV222 rfl) ajV231 (by decide) (by decide)) hMV231 hP hD hS (lv_sub hl [0, 3, 4, 5, 6] rfl)
                          · skip
                            have f235 : ((V39 0 8)).toInt = 0 := b_eq rfl (by decide) c223
                            exfalso; first | exact om_0abcda13baee r195.1 f218 f235 | first | omega | ((try (have i_xlp40_2 := Imp.go xlp40_2 (by omega))); (try (have i_xlp5_3 := Imp.go xlp5_3 (by omega))); (try (have i_xlp5_3 := Imp.go xlp5_3 (by omega))); (try (have i_xlp40_2 := Imp.go xlp40_2 (by omega))); omega)
                        · skip
                          have f236 : ((V39 0 8)).toInt = 0 := b_eq rfl (by decide) c219
                          exfalso; first | exact om_0abcda13baee r195.1 f218 f236 | first | omega | ((try (have i_xlp40_2 := Imp.go xlp40_2 (by omega))); (try (have i_xlp5_3 := Imp.go xlp5_3 (by omega))); (try (have i_xlp5_3 := Imp.go xlp5_3 (by omega))); (try (have i_xlp40_2 := Imp.go xlp40_2 (by omega))); omega)
                      · skip
                        have f237 : ((V39 0 8)).toInt = 0 := b_eq rfl (by decide) c217
                        exfalso; first | exact om_09885ab343b9 f7 f237 | first | omega | ((try (have i_xlp40_2 := Imp.go xlp40_2 (by omega))); (try (have i_xlp5_3 := Imp.go xlp5_3 (by omega))); (try (have i_xlp5_3 := Imp.go xlp5_3 (by omega))); (try (have i_xlp40_2 := Imp.go xlp40_2 (by omega))); omega)
              have r238 : Int32.toInt 0 = 0 := by decide
              exact lp40 ((y2.toInt - (Int32.toInt 0) + 1 : Int).toNat) 0 V32 H locs ls (by decide) (Or.inl ⟨W0 rl35, rl35, fun k h9 => by exfalso; omega⟩) (show (Int32.toInt 0) ≤ y2.toInt from by first | exact om_6f9bb8cf3bec klp5_1.1 r238 | first | omega | ((try (have i_xlp5_3 := Imp.go xlp5_3 (by omega))); omega)) (Imp.mk (fun hp => have hp : 1 ≤ (V32 0 8).toInt := hp; (show (V32 0 8).toInt = (V32 0 8).toInt from by first | exact om_4c2c879c4424 | first | omega | ((try (have i_xlp5_3 := Imp.go xlp5_3 (by omega))); omega)))) (by first | exact om_7441a7786481 | first | omega | ((try (have i_xlp5_3 := Imp.go xlp5_3 (by omega))); omega)) agr.rf hMV32 hP hD hS (lv_sub hl [0, 1, 2, 3, 4, 5, 6] rfl)
            · skip
              have hb239 : ∀ k, Rc gT (Crun gs (Itypes gy gw 0 [] :: k)) (Cbad (V20 0 8).toInt) := fun k => Rc.go1 (hq k) (ty_b h24)
              have r240 : 0 ≤ ((V20 0 8)).toInt ∧ ((V20 0 8)).toInt ≤ 70000 := hMV20 0 8
              refine lv_istore (lv' := [(5, .int z16), (4, .int y1), (3, .int y2), (0, .ref (ad 0)), (1, .ref (ad 21)), (2, .int p1)]) hx hb dX12_takeTypes_21 hl (by decide) rfl (fun ls hl => ?_)
              refine lv_aload_n hx hb dX12_takeTypes_23 rfl (lv_at hl 3 rfl) ?_
              refine lv_dup hx hb dX12_takeTypes_24 rfl ?_
              refine va_get (D := D) (ci := 12) (v := .int (V20 0 7)) (C := RX12) (T := TX12) (N := 100) hx hb hg inX12 hown hK hP 0 rfl rfl 7 (by decide) (hg _ w1713) (fun _ h9 => h9) rfl dX12_takeTypes_25 ?_
              refine lv_iconst (v := 1) hx hb dX12_takeTypes_28 (by decide) ?_
              refine lv_isub hx hb dX12_takeTypes_29 ?_
              have r241 := i_full (V20 0 7)
              refine lv_topi (fun z242 ez242 => ?_)
              have hz242 : Imp (-2147483648 ≤ ((V20 0 7)).toInt - 1 ∧ ((V20 0 7)).toInt - 1 ≤ 2147483647) (z242.toInt = ((V20 0 7)).toInt - 1) := Imp.mk (fun hp => i_sub ez242 rfl (by decide) hp)
              refine va_put (D := D) (ci := 12) (v := .int z242) (ty := tyX12 7) (C := RX12) (T := TX12) (N := 100) hx hb hg inX12 tyX12 tyX12_ok nmX12 hown hK hP hD hS 0 rfl rfl 7 (by decide) (hg _ w1713) (fun _ h9 => h9) rfl (tyX12_ok 7 (by decide)) rfl rfl (Nat.le_of_ble_eq_true rfl) dX12_takeTypes_30 (fun H locs hP hD hS => ?_)
              obtain ⟨V243, hV243⟩ : ∃ z, z = up2 V20 0 7 z242 := ⟨_, rfl⟩
              have hP : va_P D vwCl (mw ad kk ks.1 V243 L) H := by rw [hV243]; exact hP
              have hD : va_D A (mw ad kk ks.1 V243 L) := by rw [hV243]; exact hD
              have hMV243 : rgd bM V243 := hMV20.put hV243 (i_full _)
              have agV243 : agr [(0, 7), (0, 8)] [15, 21, 53] V V243 := agV20.up hV243 rfl
              have pq244 : (V243 0 8).toInt = ((V20 0 8)).toInt := congrArg Int32.toInt (up2_k hV243 (by decide))
              refine lv_iconst (v := 0) hx hb dX12_takeTypes_33 (by decide) ?_
              refine lv_istore (lv' := [(6, .int 0), (5, .int z16), (4, .int y1), (3, .int y2), (0, .ref (ad 0)), (1, .ref (ad 21)), (2, .int p1)]) hx hb dX12_takeTypes_34 hl (by decide) rfl (fun ls hl => ?_)
              have lp247 : ∀ (fulp247 : Nat) (y245 : Int32) (V246 : Vf) (H : Heap) (locs : List Loc) (ls : Array Slot), 0 ≤ y245.toInt ∧ y245.toInt ≤ 6 → (((V246 0 8).toInt = 0 ∧ RelM V246 L bq gn gT s1 gl ∧ (∀ k : Nat, (k : Int) < y245.toInt → (V246 53 k).toInt ≠ z16.toInt)) ∨ (1 ≤ (V246 0 8).toInt ∧ ∀ k, Rc gT (Crun gs (Itypes gy gw 0 [] :: k)) (Cbad (V246 0 8).toInt))) → y245.toInt ≤ y2.toInt → Imp (1 ≤ (V243 0 8).toInt) ((V246 0 8).toInt = (V243 0 8).toInt) → y2.toInt - y245.toInt < (fulp247 : Int) → agr [(0, 8)] [] V243 V246 → rgd bM V246 → va_P D vwCl (mw ad kk ks.1 V246 L) H → va_D A (mw ad kk ks.1 V246 L) → va_S A s.heap H locs → lv_has ls 7 [(6, .int y245), (5, .int z16), (4, .int y1), (3, .int y2), (0, .ref (ad 0)), (1, .ref (ad 21)), (2, .int p1)] → W p l e r_s_takeTypesA21 s m ([.ref (ad 0), .ref (ad 21), .int p1] : List Value).toArray below meth c H locs 0 0 (MQ below (q_s_takeTypesA21 D ks ad kk V L p1 bq gn gT gs gl gy gw go A) ([.ref (ad 0), .ref (ad 21), .int p1] : List Value).toArray s 0 0 A) (F0 m 36 ls []) := by
                (try clear hb239); (try clear fz9)
                intro fulp247
                induction fulp247 with
                | zero =>
                  intro y245 V246 H locs ls klp247_0 xlp247_0 xlp247_1 xlp247_2 hn ajV246 hMV246 hP hD hS hl
                  exfalso; (first | exact om_4634b1278845 xlp247_1 hn | omega)
                | succ fulp247 ihlp247 =>
                  intro y245 V246 H locs ls klp247_0 xlp247_0 xlp247_1 xlp247_2 hn ajV246 hMV246 hP hD hS hl
                  have agV246 : agr [(0, 7), (0, 8)] [15, 21, 53] V V246 := agV243.tr ajV246 (by decide) (by decide)
                  refine lv_iload hx hb dX12_takeTypes_36 (lv_at hl 0 rfl) ?_
                  rcases xlp247_0 with ⟨f7, ri, ni⟩ | ⟨f7, hi⟩
                  · skip
                    exfalso; first | omega | ((try (have i_xlp247_2 := Imp.go xlp247_2 (by omega))); (try (have i_hz242 := Imp.go hz242 (by omega))); (try (have i_xlp5_3 := Imp.go xlp5_3 (by omega))); (try (have i_xlp5_3 := Imp.go xlp5_3 (by omega))); (try (have i_hz242 := Imp.go hz242 (by omega))); (try (have i_xlp247_2 := Imp.go xlp247_2 (by omega))); omega)
                  · skip
                    have r248 : 0 ≤ ((V246 0 8)).toInt ∧ ((V246 0 8)).toInt ≤ 70000 := hMV246 0 8
                    refine lv_iload_n hx hb dX12_takeTypes_38 rfl (lv_at hl 3 rfl) ?_
                    refine lv_icmp_ge (tgt := 72) hx hb dX12_takeTypes_39 (by decide) (fun c249 => ?_) (fun c249 => ?_)
                    · skip
                      have f250 : y2.toInt ≤ y245.toInt := b_le rfl rfl c249
                      refine lv_aload_n hx hb dX12_takeTypes_72 rfl (lv_at hl 4 rfl) ?_
                      refine va_get (D := D) (ci := 12) (v := .int (V246 0 8)) (C := RX12) (T := TX12) (N := 100) hx hb hg inX12 hown hK hP 0 rfl rfl 8 (by decide) (hg _ w1714) (fun _ h9 => h9) rfl dX12_takeTypes_73 ?_
                      refine lv_if_ne (tgt := 90) hx hb dX12_takeTypes_76 (by decide) (fun c251 => ?_) (fun c251 => ?_)
                      · skip
                        have f252 : ((V246 0 8)).toInt ≠ 0 := b_neq rfl (by decide) c251
                        refine lv_aload_n hx hb dX12_takeTypes_90 rfl (lv_at hl 4 rfl) ?_
                        refine lv_dup hx hb dX12_takeTypes_91 rfl ?_
                        refine va_get (D := D) (ci := 12) (v := .int (V246 0 7)) (C := RX12) (T := TX12) (N := 100) hx hb hg inX12 hown hK hP 0 rfl rfl 7 (by decide) (hg _ w1713) (fun _ h9 => h9) rfl dX12_takeTypes_92 ?_
                        refine g_top (v := z242) ((ajV246 0 7 rfl).trans (up2_s hV243)) ?_
                        refine lv_iconst (v := 1) hx hb dX12_takeTypes_95 (by decide) ?_
                        refine lv_iadd hx hb dX12_takeTypes_96 ?_
                        have r253 := i_full z242
                        refine lv_topi (fun z254 ez254 => ?_)
                        have hz254 : Imp (-2147483648 ≤ z242.toInt + 1 ∧ z242.toInt + 1 ≤ 2147483647) (z254.toInt = z242.toInt + 1) := Imp.mk (fun hp => i_add ez254 rfl (by decide) hp)
                        refine va_put (D := D) (ci := 12) (v := .int z254) (ty := tyX12 7) (C := RX12) (T := TX12) (N := 100) hx hb hg inX12 tyX12 tyX12_ok nmX12 hown hK hP hD hS 0 rfl rfl 7 (by decide) (hg _ w1713) (fun _ h9 => h9) rfl (tyX12_ok 7 (by decide)) rfl rfl (Nat.le_of_ble_eq_true rfl) dX12_takeTypes_97 (fun H locs hP hD hS => ?_)
                        obtain ⟨V255, hV255⟩ : ∃ z, z = up2 V246 0 7 z254 := ⟨_, rfl⟩
                        have hP : va_P D vwCl (mw ad kk ks.1 V255 L) H := by rw [hV255]; exact hP
                        have hD : va_D A (mw ad kk ks.1 V255 L) := by rw [hV255]; exact hD
                        have hMV255 : rgd bM V255 := hMV246.put hV255 (i_full _)
                        have agV255 : agr [(0, 7), (0, 8)] [15, 21, 53] V V255 := agV246.up hV255 rfl
                        refine lv_aload_n hx hb dX12_takeTypes_100 rfl (lv_at hl 4 rfl) ?_
                        refine va_get (D := D) (ci := 12) (v := .int (V255 0 8)) (C := RX12) (T := TX12) (N := 100) hx hb hg inX12 hown hK hP 0 rfl rfl 8 (by decide) (hg _ w1714) (fun _ h9 => h9) rfl dX12_takeTypes_101 ?_
                        refine g_top (v := (V246 0 8)) (up2_k hV255 (by decide)) ?_
                        refine lv_if_ne (tgt := 184) hx hb dX12_takeTypes_104 (by decide) (fun c256 => ?_) (fun c256 => ?_)
                        · skip
                          have f257 : ((V246 0 8)).toInt ≠ 0 := b_neq rfl (by decide) c256
                          refine lv_aload_n hx hb dX12_takeTypes_184 rfl (lv_at hl 4 rfl) ?_
                          refine lv_bipush (v := 44) hx hb dX12_takeTypes_185 (by decide) ?_
                          have r258 : Int32.toInt 44 = 44 := by decide
                          have pq259 : (V255 0 8).toInt = ((V246 0 8)).toInt := congrArg Int32.toInt (up2_k hV255 (by decide))
                          refine gA_int (gA_runV (As := [.int 44]) (rest := []) (ci := 12) (q0 := 0) hx hb hml hown hg hP hD hK hS hA hnw hgk (s_hasSignB l D ks H.size ad kk V255 L 44 hMV255 (show 1 ≤ (V255 0 8).toInt from by first | exact om_1499017b39b7 r248.1 f252 pq259 | first | omega | ((try (have i_xlp5_3 := Imp.go xlp5_3 (f15))); omega) | ((try (have i_hz254 := Imp.go hz254 (by omega))); (try (have i_xlp247_2 := Imp.go xlp247_2 (by omega))); (try (have i_hz242 := Imp.go hz242 (by omega))); (try (have i_xlp5_3 := Imp.go xlp5_3 (by omega))); first | omega | ((try (have i_xlp5_3 := Imp.go xlp5_3 (by omega))); (try (have i_hz242 := Imp.go hz242 (by omega))); (try (have i_xlp247_2 := Imp.go xlp247_2 (by omega))); (try (have i_hz254 := Imp.go hz254 (by omega))); omega)))) w2067 w2069 w94 w172 w2070 rfl rfl hdV_yX12_hasSign ⟨Nat.le_of_ble_eq_true rfl, Nat.le_of_ble_eq_true rfl⟩ rfl hl.1 rfl (Nat.le_of_ble_eq_true rfl) dX12_takeTypes_187 ⟨Nat.le_of_ble_eq_true rfl, Nat.le_of_ble_eq_true rfl⟩) hP hD hK hS hA (fun z260 u261 H locs w262 hP hD hK hS => ?_)
                          obtain ⟨V264, L265⟩ := u261
                          obtain ⟨hMV264, ajV264, axL265, rgz260, t263⟩ := w262
                          have axL265 : L = L265 := Eq.symm axL265
                          subst axL265
                          have hP : va_P D vwCl (mw ad kk ks.1 V264 L) H := hP
                          have hD : va_D A (mw ad kk ks.1 V264 L) := hD
                          have hMV264 : rgd bM V264 := hMV264
                          have ajV264 : agr [(0, 7)] [] V255 V264 := ajV264
                          have agV264 : agr [(0, 7), (0, 8)] [15, 21, 53] V V264 := agV255.tr ajV264 (by decide) (by decide)
                          have rgz260 : 0 ≤ z260.toInt ∧ z260.toInt ≤ 0 := rgz260
                          have t263 : (V264 0 8).toInt = (V255 0 8).toInt := t263
                          have pq266 : (V264 0 8).toInt = ((V246 0 8)).toInt := congrArg Int32.toInt ((ajV264 0 8 rfl).trans (up2_k hV255 (by decide)))
                          refine lv_istore (lv' := [(4, .int z260), (6, .int y245), (5, .int z16), (3, .int y2), (0, .ref (ad 0)), (1, .ref (ad 21)), (2, .int p1)]) hx hb dX12_takeTypes_190 hl (by decide) rfl (fun ls hl => ?_)
                          refine lv_goto (tgt := 5) hx hb dX12_takeTypes_192 (by decide) ?_
                          have pq267 : (V264 0 12).toInt = ((V 0 12)).toInt := congrArg Int32.toInt ((ajV264 0 12 rfl).trans ((up2_k hV255 (by decide)).trans ((ajV246 0 12 rfl).trans ((up2_k hV243 (by decide)).trans ((ajV20 0 12 rfl).trans (ajV3 0 12 rfl))))))
                          exact ihlp5 (g4 - 1) z260 y2 V264 H locs ls (by first | exact om_641b3f05f166 rgz260.1 rgz260.2 | first | omega | ((try (have i_xlp5_3 := Imp.go xlp5_3 (f15))); omega) | ((try (have i_hz254 := Imp.go hz254 (by omega))); (try (have i_xlp247_2 := Imp.go xlp247_2 (by omega))); (try (have i_hz242 := Imp.go hz242 (by omega))); (try (have i_xlp5_3 := Imp.go xlp5_3 (by omega))); first | omega | ((try (have i_xlp5_3 := Imp.go xlp5_3 (by omega))); (try (have i_hz242 := Imp.go hz242 (by omega))); (try (have i_xlp247_2 := Imp.go xlp247_2 (by omega))); (try (have i_hz254 := Imp.go hz254 (by omega))); omega))) (by first | exact om_5de5485ce193 klp247_0.1 klp247_0.2 xlp247_1 f250 | first | omega | ((try (have i_xlp5_3 := Imp.go xlp5_3 (f15))); omega) | ((try (have i_hz254 := Imp.go hz254 (by omega))); (try (have i_xlp247_2 := Imp.go xlp247_2 (by omega))); (try (have i_hz242 := Imp.go hz242 (by omega))); (try (have i_xlp5_3 := Imp.go xlp5_3 (by omega))); first | omega | ((try (have i_xlp5_3 := Imp.go xlp5_3 (by omega))); (try (have i_hz242 := Imp.go hz242 (by omega))); (try (have i_xlp247_2 := Imp.go xlp247_2 (by omega))); (try (have i_hz254 := Imp.go hz254 (by omega))); omega))) (Or.inr (Or.inr ⟨(show 1 ≤ (V264 0 8).toInt from by (first | exact om_14e1582db31a r248.1 f252 pq259 t263 | omega)), (fun k => by rw [show (V264 0 8).toInt = (V246 0 8).toInt from by omega]; exact hi k)⟩)) (show 0 ≤ (g4 - 1) from by first | exact om_53bb2050c72d klp247_0.2 f250 ((Imp.go xlp5_3 (f15))) | first | omega | ((try (have i_xlp5_3 := Imp.go xlp5_3 (f15))); omega) | ((try (have i_hz254 := Imp.go hz254 (by omega))); (try (have i_xlp247_2 := Imp.go xlp247_2 (by omega))); (try (have i_hz242 := Imp.go hz242 (by omega))); (try (have i_xlp5_3 := Imp.go xlp5_3 (by omega))); first | omega | ((try (have i_xlp5_3 := Imp.go xlp5_3 (by omega))); (try (have i_hz242 := Imp.go hz242 (by omega))); (try (have i_xlp247_2 := Imp.go xlp247_2 (by omega))); (try (have i_hz254 := Imp.go hz254 (by omega))); omega))) (show y2.toInt ≤ 6 from by first | exact om_95b7a1d732ac klp247_0.2 f250 | first | omega | ((try (have i_xlp5_3 := Imp.go xlp5_3 (f15))); omega) | ((try (have i_hz254 := Imp.go hz254 (by omega))); (try (have i_xlp247_2 := Imp.go xlp247_2 (by omega))); (try (have i_hz242 := Imp.go hz242 (by omega))); (try (have i_xlp5_3 := Imp.go xlp5_3 (by omega))); first | omega | ((try (have i_xlp5_3 := Imp.go xlp5_3 (by omega))); (try (have i_hz242 := Imp.go hz242 (by omega))); (try (have i_xlp247_2 := Imp.go xlp247_2 (by omega))); (try (have i_hz254 := Imp.go hz254 (by omega))); omega))) (Imp.mk (fun hp => have hp : (V264 0 8).toInt = 0 := hp; (show 7 - y2.toInt < (g4 - 1) from by first | omega | ((try (have i_xlp5_3 := Imp.go xlp5_3 (f15))); omega) | ((try (have i_hz254 := Imp.go hz254 (by omega))); (try (have i_xlp247_2 := Imp.go xlp247_2 (by omega))); (try (have i_hz242 := Imp.go hz242 (by omega))); (try (have i_xlp5_3 := Imp.go xlp5_3 (by omega))); first | omega | ((try (have i_xlp5_3 := Imp.go xlp5_3 (by omega))); (try (have i_hz242 := Imp.go hz242 (by omega))); (try (have i_xlp247_2 := Imp.go xlp247_2 (by omega))); (try (have i_hz254 := Imp.go hz254 (by omega))); omega))))) (show (V264 0 12).toInt = (V 0 12).toInt from by first | exact om_570b691c1130 pq267 | first | omega | ((try (have i_xlp5_3 := Imp.go xlp5_3 (f15))); omega) | ((try (have i_hz254 := Imp.go hz254 (by omega))); (try (have i_xlp247_2 := Imp.go xlp247_2 (by omega))); (try (have i_hz242 := Imp.go hz242 (by omega))); (try (have i_xlp5_3 := Imp.go xlp5_3 (by omega))); first | omega | ((try (have i_xlp5_3 := Imp.go xlp5_3 (by omega))); (try (have i_hz242 := Imp.go hz242 (by omega))); (try (have i_xlp247_2 := Imp.go xlp247_2 (by omega))); (try (have i_hz254 := Imp.go hz254 (by omega))); omega))) (by first | omega | ((try (have i_xlp5_3 := Imp.go xlp5_3 (f15))); omega) | ((try (have i_hz254 := Imp.go hz254 (by omega))); (try (have i_xlp247_2 := Imp.go xlp247_2 (by omega))); (try (have i_hz242 := Imp.go hz242 (by omega))); (try (have i_xlp5_3 := Imp.go xlp5_3 (by omega))); first | omega | ((try (have i_xlp5_3 := Imp.go xlp5_3 (by omega))); (try (have i_hz242 := Imp.go hz242 (by omega))); (try (have i_xlp247_2 := Imp.go xlp247_2 (by omega))); (try (have i_hz254 := Imp.go hz254 (by omega))); omega))) (agr.tr (agr.up (agr.tr (agr.up (agr.tr (agr.tr agr.rf ajV3 (by decide) (by decide)) ajV20 (by decide) (by decide)) hV243 rfl) ajV246 (by decide) (by decide)) hV255 rfl) ajV264 (by decide) (by decide)) hMV264 hP hD hS (lv_sub hl [0, 3, 4, 5, 6] rfl)
                        · skip
                          have f268 : ((V246 0 8)).toInt = 0 := b_eq rfl (by decide) c256
                          exfalso; first | exact om_0abcda13baee r248.1 f252 f268 | first | omega | ((try (have i_xlp5_3 := Imp.go xlp5_3 (f15))); omega) | ((try (have i_hz254 := Imp.go hz254 (by omega))); (try (have i_xlp247_2 := Imp.go xlp247_2 (by omega))); (try (have i_hz242 := Imp.go hz242 (by omega))); (try (have i_xlp5_3 := Imp.go xlp5_3 (by omega))); first | omega | ((try (have i_xlp5_3 := Imp.go xlp5_3 (by omega))); (try (have i_hz242 := Imp.go hz242 (by omega))); (try (have i_xlp247_2 := Imp.go xlp247_2 (by omega))); (try (have i_hz254 := Imp.go hz254 (by omega))); omega))
                      · skip
                        have f269 : ((V246 0 8)).toInt = 0 := b_eq rfl (by decide) c251
                        exfalso; first | exact om_09885ab343b9 f7 f269 | first | omega | ((try (have i_xlp247_2 := Imp.go xlp247_2 (by omega))); (try (have i_hz242 := Imp.go hz242 (by omega))); (try (have i_xlp5_3 := Imp.go xlp5_3 (by omega))); (try (have i_xlp5_3 := Imp.go xlp5_3 (by omega))); (try (have i_hz242 := Imp.go hz242 (by omega))); (try (have i_xlp247_2 := Imp.go xlp247_2 (by omega))); omega)
                    · skip
                      have f270 : y245.toInt < y2.toInt := b_nle rfl rfl c249
                      refine lv_aload_n hx hb dX12_takeTypes_42 rfl (lv_at hl 4 rfl) ?_
                      refine va_get (D := D) (ci := 12) (v := .int (V246 0 8)) (C := RX12) (T := TX12) (N := 100) hx hb hg inX12 hown hK hP 0 rfl rfl 8 (by decide) (hg _ w1714) (fun _ h9 => h9) rfl dX12_takeTypes_43 ?_
                      refine lv_if_ne (tgt := 72) hx hb dX12_takeTypes_46 (by decide) (fun c271 => ?_) (fun c271 => ?_)
                      · skip
                        have f272 : ((V246 0 8)).toInt ≠ 0 := b_neq rfl (by decide) c271
                        refine lv_aload_n hx hb dX12_takeTypes_72 rfl (lv_at hl 4 rfl) ?_
                        refine va_get (D := D) (ci := 12) (v := .int (V246 0 8)) (C := RX12) (T := TX12) (N := 100) hx hb hg inX12 hown hK hP 0 rfl rfl 8 (by decide) (hg _ w1714) (fun _ h9 => h9) rfl dX12_takeTypes_73 ?_
                        refine lv_if_ne (tgt := 90) hx hb dX12_takeTypes_76 (by decide) (fun c273 => ?_) (fun c273 => ?_)
                        · skip
                          have f274 : ((V246 0 8)).toInt ≠ 0 := b_neq rfl (by decide) c273
                          refine lv_aload_n hx hb dX12_takeTypes_90 rfl (lv_at hl 4 rfl) ?_
                          refine lv_dup hx hb dX12_takeTypes_91 rfl ?_
                          refine va_get (D := D) (ci := 12) (v := .int (V246 0 7)) (C := RX12) (T := TX12) (N := 100) hx hb hg inX12 hown hK hP 0 rfl rfl 7 (by decide) (hg _ w1713) (fun _ h9 => h9) rfl dX12_takeTypes_92 ?_
                          refine g_top (v := z242) ((ajV246 0 7 rfl).trans (up2_s hV243)) ?_
                          refine lv_iconst (v := 1) hx hb dX12_takeTypes_95 (by decide) ?_
                          refine lv_iadd hx hb dX12_takeTypes_96 ?_
                          have r275 := i_full z242
                          refine lv_topi (fun z276 ez276 => ?_)
                          have hz276 : Imp (-2147483648 ≤ z242.toInt + 1 ∧ z242.toInt + 1 ≤ 2147483647) (z276.toInt = z242.toInt + 1) := Imp.mk (fun hp => i_add ez276 rfl (by decide) hp)
                          refine va_put (D := D) (ci := 12) (v := .int z276) (ty := tyX12 7) (C := RX12) (T := TX12) (N := 100) hx hb hg inX12 tyX12 tyX12_ok nmX12 hown hK hP hD hS 0 rfl rfl 7 (by decide) (hg _ w1713) (fun _ h9 => h9) rfl (tyX12_ok 7 (by decide)) rfl rfl (Nat.le_of_ble_eq_true rfl) dX12_takeTypes_97 (fun H locs hP hD hS => ?_)
                          obtain ⟨V277, hV277⟩ : ∃ z, z = up2 V246 0 7 z276 := ⟨_, rfl⟩
                          have hP : va_P D vwCl (mw ad kk ks.1 V277 L) H := by rw [hV277]; exact hP
                          have hD : va_D A (mw ad kk ks.1 V277 L) := by rw [hV277]; exact hD
                          have hMV277 : rgd bM V277 := hMV246.put hV277 (i_full _)
                          have agV277 : agr [(0, 7), (0, 8)] [15, 21, 53] V V277 := agV246.up hV277 rfl
                          refine lv_aload_n hx hb dX12_takeTypes_100 rfl (lv_at hl 4 rfl) ?_
                          refine va_get (D := D) (ci := 12) (v := .int (V277 0 8)) (C := RX12) (T := TX12) (N := 100) hx hb hg inX12 hown hK hP 0 rfl rfl 8 (by decide) (hg _ w1714) (fun _ h9 => h9) rfl dX12_takeTypes_101 ?_
                          refine g_top (v := (V246 0 8)) (up2_k hV277 (by decide)) ?_
                          refine lv_if_ne (tgt := 184) hx hb dX12_takeTypes_104 (by decide) (fun c278 => ?_) (fun c278 => ?_)
                          · skip
                            have f279 : ((V246 0 8)).toInt ≠ 0 := b_neq rfl (by decide) c278
                            refine lv_aload_n hx hb dX12_takeTypes_184 rfl (lv_at hl 4 rfl) ?_
                            refine lv_bipush (v := 44) hx hb dX12_takeTypes_185 (by decide) ?_
                            have r280 : Int32.toInt 44 = 44 := by decide
                            have pq281 : (V277 0 8).toInt = ((V246 0 8)).toInt := congrArg Int32.toInt (up2_k hV277 (by decide))
                            refine gA_int (gA_runV (As := [.int 44]) (rest := []) (ci := 12) (q0 := 0) hx hb hml hown hg hP hD hK hS hA hnw hgk (s_hasSignB l D ks H.size ad kk V277 L 44 hMV277 (show 1 ≤ (V277 0 8).toInt from by first | exact om_1499017b39b7 r248.1 f272 pq281 | first | omega | ((try (have i_xlp5_3 := Imp.go xlp5_3 (f15))); omega) | ((try (have i_hz276 := Imp.go hz276 (by omega))); (try (have i_xlp247_2 := Imp.go xlp247_2 (by omega))); (try (have i_hz242 := Imp.go hz242 (by omega))); (try (have i_xlp5_3 := Imp.go xlp5_3 (by omega))); first | omega | ((try (have i_xlp5_3 := Imp.go xlp5_3 (by omega))); (try (have i_hz242 := Imp.go hz242 (by omega))); (try (have i_xlp247_2 := Imp.go xlp247_2 (by omega))); (try (have i_hz276 := Imp.go hz276 (by omega))); omega)))) w2067 w2069 w94 w172 w2070 rfl rfl hdV_yX12_hasSign ⟨Nat.le_of_ble_eq_true rfl, Nat.le_of_ble_eq_true rfl⟩ rfl hl.1 rfl (Nat.le_of_ble_eq_true rfl) dX12_takeTypes_187 ⟨Nat.le_of_ble_eq_true rfl, Nat.le_of_ble_eq_true rfl⟩) hP hD hK hS hA (fun z282 u283 H locs w284 hP hD hK hS => ?_)
                            obtain ⟨V286, L287⟩ := u283
                            obtain ⟨hMV286, ajV286, axL287, rgz282, t285⟩ := w284
                            have axL287 : L = L287 := Eq.symm axL287
                            subst axL287
                            have hP : va_P D vwCl (mw ad kk ks.1 V286 L) H := hP
                            have hD : va_D A (mw ad kk ks.1 V286 L) := hD
                            have hMV286 : rgd bM V286 := hMV286
                            have ajV286 : agr [(0, 7)] [] V277 V286 := ajV286
                            have agV286 : agr [(0, 7), (0, 8)] [15, 21, 53] V V286 := agV277.tr ajV286 (by decide) (by decide)
                            have rgz282 : 0 ≤ z282.toInt ∧ z282.toInt ≤ 0 := rgz282
                            have t285 : (V286 0 8).toInt = (V277 0 8).toInt := t285
                            have pq288 : (V286 0 8).toInt = ((V246 0 8)).toInt := congrArg Int32.toInt ((ajV286 0 8 rfl).trans (up2_k hV277 (by decide)))
                            refine lv_istore (lv' := [(4, .int z282), (6, .int y245), (5, .int z16), (3, .int y2), (0, .ref (ad 0)), (1, .ref (ad 21)), (2, .int p1)]) hx hb dX12_takeTypes_190 hl (by decide) rfl (fun ls hl => ?_)
                            refine lv_goto (tgt := 5) hx hb dX12_takeTypes_192 (by decide) ?_
                            have pq289 : (V286 0 12).toInt = ((V 0 12)).toInt := congrArg Int32.toInt ((ajV286 0 12 rfl).trans ((up2_k hV277 (by decide)).trans ((ajV246 0 12 rfl).trans ((up2_k hV243 (by decide)).trans ((ajV20 0 12 rfl).trans (ajV3 0 12 rfl))))))
                            exact ihlp5 (g4 - 1) z282 y2 V286 H locs ls (by first | exact om_641b3f05f166 rgz282.1 rgz282.2 | first | omega | ((try (have i_xlp5_3 := Imp.go xlp5_3 (f15))); omega) | ((try (have i_hz276 := Imp.go hz276 (by omega))); (try (have i_xlp247_2 := Imp.go xlp247_2 (by omega))); (try (have i_hz242 := Imp.go hz242 (by omega))); (try (have i_xlp5_3 := Imp.go xlp5_3 (by omega))); first | omega | ((try (have i_xlp5_3 := Imp.go xlp5_3 (by omega))); (try (have i_hz242 := Imp.go hz242 (by omega))); (try (have i_xlp247_2 := Imp.go xlp247_2 (by omega))); (try (have i_hz276 := Imp.go hz276 (by omega))); omega))) (by first | exact om_420c7ba86e3d klp5_1.2 klp247_0.1 f270 | first | omega | ((try (have i_xlp5_3 := Imp.go xlp5_3 (f15))); omega) | ((try (have i_hz276 := Imp.go hz276 (by omega))); (try (have i_xlp247_2 := Imp.go xlp247_2 (by omega))); (try (have i_hz242 := Imp.go hz242 (by omega))); (try (have i_xlp5_3 := Imp.go xlp5_3 (by omega))); first | omega | ((try (have i_xlp5_3 := Imp.go xlp5_3 (by omega))); (try (have i_hz242 := Imp.go hz242 (by omega))); (try (have i_xlp247_2 := Imp.go xlp247_2 (by omega))); (try (have i_hz276 := Imp.go hz276 (by omega))); omega))) (Or.inr (Or.inr ⟨(show 1 ≤ (V286 0 8).toInt from by (first | exact om_14e1582db31a r248.1 f272 pq281 t285 | omega)), (fun k => by rw [show (V286 0 8).toInt = (V246 0 8).toInt from by omega]; exact hi k)⟩)) (show 0 ≤ (g4 - 1) from by first | exact om_76a34b28fb8f klp5_1.2 ((Imp.go xlp5_3 (f15))) | first | omega | ((try (have i_xlp5_3 := Imp.go xlp5_3 (f15))); omega) | ((try (have i_hz276 := Imp.go hz276 (by omega))); (try (have i_xlp247_2 := Imp.go xlp247_2 (by omega))); (try (have i_hz242 := Imp.go hz242 (by omega))); (try (have i_xlp5_3 := Imp.go xlp5_3 (by omega))); first | omega | ((try (have i_xlp5_3 := Imp.go xlp5_3 (by omega))); (try (have i_hz242 := Imp.go hz242 (by omega))); (try (have i_xlp247_2 := Imp.go xlp247_2 (by omega))); (try (have i_hz276 := Imp.go hz276 (by omega))); omega))) (show y2.toInt ≤ 6 from by first | exact om_1cd470348f7c klp5_1.2 | first | omega | ((try (have i_xlp5_3 := Imp.go xlp5_3 (f15))); omega) | ((try (have i_hz276 := Imp.go hz276 (by omega))); (try (have i_xlp247_2 := Imp.go xlp247_2 (by omega))); (try (have i_hz242 := Imp.go hz242 (by omega))); (try (have i_xlp5_3 := Imp.go xlp5_3 (by omega))); first | omega | ((try (have i_xlp5_3 := Imp.go xlp5_3 (by omega))); (try (have i_hz242 := Imp.go hz242 (by omega))); (try (have i_xlp247_2 := Imp.go xlp247_2 (by omega))); (try (have i_hz276 := Imp.go hz276 (by omega))); omega))) (Imp.mk (fun hp => have hp : (V286 0 8).toInt = 0 := hp; (show 7 - y2.toInt < (g4 - 1) from by first | omega | ((try (have i_xlp5_3 := Imp.go xlp5_3 (f15))); omega) | ((try (have i_hz276 := Imp.go hz276 (by omega))); (try (have i_xlp247_2 := Imp.go xlp247_2 (by omega))); (try (have i_hz242 := Imp.go hz242 (by omega))); (try (have i_xlp5_3 := Imp.go xlp5_3 (by omega))); first | omega | ((try (have i_xlp5_3 := Imp.go xlp5_3 (by omega))); (try (have i_hz242 := Imp.go hz242 (by omega))); (try (have i_xlp247_2 := Imp.go xlp247_2 (by omega))); (try (have i_hz276 := Imp.go hz276 (by omega))); omega))))) (show (V286 0 12).toInt = (V 0 12).toInt from by first | exact om_570b691c1130 pq289 | first | omega | ((try (have i_xlp5_3 := Imp.go xlp5_3 (f15))); omega) | ((try (have i_hz276 := Imp.go hz276 (by omega))); (try (have i_xlp247_2 := Imp.go xlp247_2 (by omega))); (try (have i_hz242 := Imp.go hz242 (by omega))); (try (have i_xlp5_3 := Imp.go xlp5_3 (by omega))); first | omega | ((try (have i_xlp5_3 := Imp.go xlp5_3 (by omega))); (try (have i_hz242 := Imp.go hz242 (by omega))); (try (have i_xlp247_2 := Imp.go xlp247_2 (by omega))); (try (have i_hz276 := Imp.go hz276 (by omega))); omega))) (by first | omega | ((try (have i_xlp5_3 := Imp.go xlp5_3 (f15))); omega) | ((try (have i_hz276 := Imp.go hz276 (by omega))); (try (have i_xlp247_2 := Imp.go xlp247_2 (by omega))); (try (have i_hz242 := Imp.go hz242 (by omega))); (try (have i_xlp5_3 := Imp.go xlp5_3 (by omega))); first | omega | ((try (have i_xlp5_3 := Imp.go xlp5_3 (by omega))); (try (have i_hz242 := Imp.go hz242 (by omega))); (try (have i_xlp247_2 := Imp.go xlp247_2 (by omega))); (try (have i_hz276 := Imp.go hz276 (by omega))); omega))) (agr.tr (agr.up (agr.tr (agr.up (agr.tr (agr.tr agr.rf ajV3 (by decide) (by decide)) ajV20 (by decide) (by decide)) hV243 rfl) ajV246 (by decide) (by decide)) hV277 rfl) ajV286 (by decide) (by decide)) hMV286 hP hD hS (lv_sub hl [0, 3, 4, 5, 6] rfl)
                          · skip
                            have f290 : ((V246 0 8)).toInt = 0 := b_eq rfl (by decide) c278
                            exfalso; first | exact om_0abcda13baee r248.1 f272 f290 | first | omega | ((try (have i_xlp5_3 := Imp.go xlp5_3 (f15))); omega) | ((try (have i_hz276 := Imp.go hz276 (by omega))); (try (have i_xlp247_2 := Imp.go xlp247_2 (by omega))); (try (have i_hz242 := Imp.go hz242 (by omega))); (try (have i_xlp5_3 := Imp.go xlp5_3 (by omega))); first | omega | ((try (have i_xlp5_3 := Imp.go xlp5_3 (by omega))); (try (have i_hz242 := Imp.go hz242 (by omega))); (try (have i_xlp247_2 := Imp.go xlp247_2 (by omega))); (try (have i_hz276 := Imp.go hz276 (by omega))); omega))
                        · skip
                          have f291 : ((V246 0 8)).toInt = 0 := b_eq rfl (by decide) c273
                          exfalso; first | exact om_0abcda13baee r248.1 f272 f291 | first | omega | ((try (have i_xlp247_2 := Imp.go xlp247_2 (by omega))); (try (have i_hz242 := Imp.go hz242 (by omega))); (try (have i_xlp5_3 := Imp.go xlp5_3 (by omega))); (try (have i_xlp5_3 := Imp.go xlp5_3 (by omega))); (try (have i_hz242 := Imp.go hz242 (by omega))); (try (have i_xlp247_2 := Imp.go xlp247_2 (by omega))); omega)
                      · skip
                        have f292 : ((V246 0 8)).toInt = 0 := b_eq rfl (by decide) c271
                        exfalso; first | exact om_09885ab343b9 f7 f292 | first | omega | ((try (have i_xlp247_2 := Imp.go xlp247_2 (by omega))); (try (have i_hz242 := Imp.go hz242 (by omega))); (try (have i_xlp5_3 := Imp.go xlp5_3 (by omega))); (try (have i_xlp5_3 := Imp.go xlp5_3 (by omega))); (try (have i_hz242 := Imp.go hz242 (by omega))); (try (have i_xlp247_2 := Imp.go xlp247_2 (by omega))); omega)
              have r293 : Int32.toInt 0 = 0 := by decide
              exact lp247 ((y2.toInt - (Int32.toInt 0) + 1 : Int).toNat) 0 V243 H locs ls (by decide) (Or.inr ⟨(show 1 ≤ (V243 0 8).toInt from by omega), (fun k => by rw [show (V243 0 8).toInt = (V20 0 8).toInt from by omega]; exact hb239 k)⟩) (show (Int32.toInt 0) ≤ y2.toInt from by first | exact om_6f9bb8cf3bec klp5_1.1 r293 | first | omega | ((try (have i_hz242 := Imp.go hz242 (by omega))); (try (have i_xlp5_3 := Imp.go xlp5_3 (by omega))); (try (have i_xlp5_3 := Imp.go xlp5_3 (by omega))); (try (have i_hz242 := Imp.go hz242 (by omega))); omega)) (Imp.mk (fun hp => have hp : 1 ≤ (V243 0 8).toInt := hp; (show (V243 0 8).toInt = (V243 0 8).toInt from by first | exact om_4c2c879c4424 | first | omega | ((try (have i_hz242 := Imp.go hz242 (by omega))); (try (have i_xlp5_3 := Imp.go xlp5_3 (by omega))); (try (have i_xlp5_3 := Imp.go xlp5_3 (by omega))); (try (have i_hz242 := Imp.go hz242 (by omega))); omega)))) (by first | exact om_7441a7786481 | first | omega | ((try (have i_hz242 := Imp.go hz242 (by omega))); (try (have i_xlp5_3 := Imp.go xlp5_3 (by omega))); (try (have i_xlp5_3 := Imp.go xlp5_3 (by omega))); (try (have i_hz242 := Imp.go hz242 (by omega))); omega)) agr.rf hMV243 hP hD hS (lv_sub hl [0, 1, 2, 3, 4, 5, 6] rfl)
      · skip
        have fz294 := RelM.rg rq
        refine lv_if_eq (tgt := 195) hx hb dX12_takeTypes_7 (by decide) (fun c295 => ?_) (fun c295 => ?_)
        · skip
          have f296 : y1.toInt = 0 := b_eq rfl (by decide) c295
          exact W.vret hx hb hr (fun t ht hW => ⟨⟨(V3, L), rfl, ⟨hMV3, agV3, rfl, (Or.inl ⟨W0 rq, s1, sn, hq, rq, keepS.le (keepS.tr (keepS.rf : keepS gs 0 gs) kq) (by decide), (show keepL gs s1 from fun j9 h9 => ((show ∀ j9, 5 ≤ j9 → s1.2.1 j9 = gs.2.1 j9 from ll9) j9 h9).trans ((show keepL gs gs from fun _ _ => rfl) j9 h9)), (UNm.ag uq (rfl : V3 21 = V3 21)), cq⟩)⟩, by rw [ht]; exact hP, va_K.moved hW.alike hK, hD⟩, hS.F ht⟩) hS.2.2 dX12_takeTypes_195
        · skip
          have f297 : y1.toInt ≠ 0 := b_neq rfl (by decide) c295
          exfalso; first | omega | ((try (have i_xlp5_3 := Imp.go xlp5_3 (by omega))); omega)
      · skip
        refine lv_if_eq (tgt := 195) hx hb dX12_takeTypes_7 (by decide) (fun c298 => ?_) (fun c298 => ?_)
        · skip
          have f299 : y1.toInt = 0 := b_eq rfl (by decide) c298
          exact W.vret hx hb hr (fun t ht hW => ⟨⟨(V3, L), rfl, ⟨hMV3, agV3, rfl, (Or.inr ⟨(show 1 ≤ (V3 0 8).toInt from by omega), hq⟩)⟩, by rw [ht]; exact hP, va_K.moved hW.alike hK, hD⟩, hS.F ht⟩) hS.2.2 dX12_takeTypes_195
        · skip
          have f300 : y1.toInt ≠ 0 := b_neq rfl (by decide) c298
          refine lv_aload_n hx hb dX12_takeTypes_10 rfl (lv_at hl 2 rfl) ?_
          refine va_get (D := D) (ci := 12) (v := .int (V3 0 8)) (C := RX12) (T := TX12) (N := 100) hx hb hg inX12 hown hK hP 0 rfl rfl 8 (by decide) (hg _ w1714) (fun _ h9 => h9) rfl dX12_takeTypes_11 ?_
          refine lv_if_ne (tgt := 195) hx hb dX12_takeTypes_14 (by decide) (fun c301 => ?_) (fun c301 => ?_)
          · skip
            have f302 : ((V3 0 8)).toInt ≠ 0 := b_neq rfl (by decide) c301
            exact W.vret hx hb hr (fun t ht hW => ⟨⟨(V3, L), rfl, ⟨hMV3, agV3, rfl, (Or.inr ⟨(show 1 ≤ (V3 0 8).toInt from by (first | exact om_76052c512981 r6.1 f302 | omega)), hq⟩)⟩, by rw [ht]; exact hP, va_K.moved hW.alike hK, hD⟩, hS.F ht⟩) hS.2.2 dX12_takeTypes_195
          · skip
            have f303 : ((V3 0 8)).toInt = 0 := b_eq rfl (by decide) c301
            exfalso; first | omega | ((try (have i_xlp5_3 := Imp.go xlp5_3 (by omega))); omega)
  have r304 : Int32.toInt 1 = 1 := by decide
  have r305 : Int32.toInt 0 = 0 := by decide
  have r306 : 0 ≤ ((V 0 8)).toInt ∧ ((V 0 8)).toInt ≤ 70000 := hMV 0 8
  have r307 : 0 ≤ ((V 0 12)).toInt ∧ ((V 0 12)).toInt ≤ 1 := hMV 0 12
  have z00 : (Int32.toInt 0).toNat = 0 := by decide
  exact lp5 ((9 + 1 : Int).toNat) 9 1 0 V H locs ls (by decide) (by decide) (Or.inl ⟨W0 rel, by decide, gs, [], (by rw [z00]; exact fun k => Rc.rf), rel, ⟨keepS.rf, fun _ _ => rfl⟩, LST.z (by decide), UNm.z, cnm⟩) (show 0 ≤ 9 from by omega) (show (Int32.toInt 0) ≤ 6 from by (first | exact om_5d5a707c7800 r305 | omega)) (Imp.mk (fun hp => have hp : (V 0 8).toInt = 0 := hp; (show 7 - (Int32.toInt 0) < 9 from by (first | exact om_f530ea408148 r305 | omega)))) (show (V 0 12).toInt = (V 0 12).toInt from by (first | exact om_4c2c879c4424 | omega)) (by (first | exact om_2f55e767c825 | omega)) agr.rf hMV hP hD hS (lv_sub hl [0, 1, 2, 3, 4] rfl)
