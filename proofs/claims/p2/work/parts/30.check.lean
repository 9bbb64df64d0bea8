theorem DD.nx {fs : List (Nat × Nat)} {cs : List Nat} {V W : Vf} {l k : Int} {c j lo hi : Nat} (h : DD V l k) (c0 : c0k V W) (a : agr fs cs V W) (q : thC fs cs) (hn : 1 ≤ (V 30 (8 * (24 * nwh V + c) + j)).toInt ∨ th V (cd0 W)) (cok : cOK V lo hi (24 * nwh V + c)) (hc : (c : Int) = l) (hj : (j : Int) = k) : DD W l (k + 1) := by
  rcases hn with hn | hn
  · have h2 : DD V l (k + 1) := by
      rcases h with h | h
      · exact Or.inl h
      · refine Or.inr (fun c' j' hq ht hL => ?_)
        by_cases e : (c' : Int) = l ∧ (j' : Int) = k
        · have e1 : c' = c := by omega
          have e2 : j' = j := by omega
          subst e1
          subst e2
          have h9 := (cok.2.2.2 j' hL.1).2 hL.2
          omega
        · exact h c' j' (by omega) ht hL
    exact h2.st a q c0
  · exact Or.inl (hn.ag a q)
theorem DD.up1 {V : Vf} {l k : Int} {c : Nat} (h : DD V l k) (hc : (c : Int) = l) (hx : (V 27 (24 * nwh V + c)).toInt ≤ k ∨ ¬ th V c) : DD V (l + 1) 0 := by
  rcases h with h | h
  · exact Or.inl h
  · refine Or.inr (fun c' j' hq ht hL => ?_)
    by_cases e : (c' : Int) < l
    · exact h c' j' (Or.inl e) ht hL
    · have e1 : c' = c := by omega
      subst e1
      rcases hx with hx | hx
      · exact h c' j' (Or.inr ⟨hc, by have := hL.1; omega⟩) ht hL
      · exact hx ht
theorem DD.le {V : Vf} {l l' k : Int} (h : DD V l k) (hl : l' ≤ l) : DD V l' 0 := by
  rcases h with h | h
  · exact Or.inl h
  · exact Or.inr (fun c j hq => h c j (by omega))
theorem DD.z {V : Vf} {l : Int} (hl : l ≤ 0) : DD V l 0 := Or.inr (fun c j hq => absurd hq (by omega))
theorem DD.RD {V : Vf} {l k : Int} (h : DD V l k) (hl : (V 19 (nwh V)).toInt ≤ l) : th V (cd0 V) ∨ ∀ c j : Nat, th V c → ¬ ndL V c j := by
  rcases h with h | h
  · exact Or.inl h
  · exact Or.inr (fun c j ht => h c j (Or.inl (by have := ht.1; omega)) ht)
theorem RD_st {fs : List (Nat × Nat)} {cs : List Nat} {V W : Vf} (h : th V (cd0 V) ∨ ∀ c j : Nat, th V c → ¬ ndL V c j) (a : agr fs cs V W) (q : thC fs cs) (c0 : c0k V W) : th W (cd0 W) ∨ ∀ c j : Nat, th W c → ¬ ndL W c j := by
  rcases h with h | h
  · rcases c0 with c0 | c0
    · left
      have e : cd0 W = cd0 V := by unfold cd0; rw [c0]
      rw [e]
      exact h.ag a q
    · exact Or.inl (c0.ag a q)
  · exact Or.inr (fun c j ht hn => h c j (ht.ag a.sy q) (hn.ag a.sy q))

theorem w2171 : Cond.code yX12_checkNeed cX12_checkNeed 10 none ∈ GW := gw_mem 2171 (by decide +kernel) rfl
theorem w2168 : Cond.methodLink RX12 445 yX12_checkNeed ∈ GW := gw_mem 2168 (by decide +kernel) rfl
theorem w2170 : Cond.instanceMethod yX12_checkNeed ∈ GW := gw_mem 2170 (by decide +kernel) rfl
theorem w118 : Cond.selects RX12 yX12_checkNeed yX12_checkNeed ∈ GW := gw_mem 118 (by decide +kernel) rfl
theorem hdV_yX12_checkNeed : yX12_checkNeed.cls = RX12 ∧ yX12_checkNeed.cls ≠ "java/lang/invoke/MethodHandle" ∧ yX12_checkNeed.cls ≠ "java/lang/invoke/VarHandle" ∧ (parseMethodDescriptor yX12_checkNeed.desc).map (fun d => d.parameters.length) = some 2 := by decide +kernel
theorem dX12_check_0 : decode cX12_check 0 = .ok (.aload_n 0, 1) := by decide +kernel
theorem dX12_check_1 : decode cX12_check 1 = .ok (.iconst 0, 1) := by decide +kernel
theorem dX12_check_2 : decode cX12_check 2 = .ok (.putfield 1, 3) := by decide +kernel
theorem dX12_check_5 : decode cX12_check 5 = .ok (.aload_n 0, 1) := by decide +kernel
theorem dX12_check_6 : decode cX12_check 6 = .ok (.iconst 0, 1) := by decide +kernel
theorem dX12_check_7 : decode cX12_check 7 = .ok (.putfield 435, 3) := by decide +kernel
theorem dX12_check_10 : decode cX12_check 10 = .ok (.iconst 0, 1) := by decide +kernel
theorem dX12_check_11 : decode cX12_check 11 = .ok (.istore_n 1, 1) := by decide +kernel
theorem dX12_check_12 : decode cX12_check 12 = .ok (.iload_n 1, 1) := by decide +kernel
theorem dX12_check_13 : decode cX12_check 13 = .ok (.aload_n 0, 1) := by decide +kernel
theorem dX12_check_14 : decode cX12_check 14 = .ok (.getfield 62, 3) := by decide +kernel
theorem dX12_check_17 : decode cX12_check 17 = .ok (.aload_n 0, 1) := by decide +kernel
theorem dX12_check_18 : decode cX12_check 18 = .ok (.getfield 286, 3) := by decide +kernel
theorem dX12_check_21 : decode cX12_check 21 = .ok (.iaload, 1) := by decide +kernel
theorem dX12_check_22 : decode cX12_check 22 = .ok (.if_icmp .ge 56, 3) := by decide +kernel
theorem dX12_check_78 : decode cX12_check 78 = .ok (.aload_n 0, 1) := by decide +kernel
theorem dX12_check_79 : decode cX12_check 79 = .ok (.iconst 0, 1) := by decide +kernel
theorem dX12_check_80 : decode cX12_check 80 = .ok (.putfield 449, 3) := by decide +kernel
theorem dX12_check_83 : decode cX12_check 83 = .ok (.iconst 0, 1) := by decide +kernel
theorem dX12_check_84 : decode cX12_check 84 = .ok (.istore_n 1, 1) := by decide +kernel
theorem dX12_check_85 : decode cX12_check 85 = .ok (.iload_n 1, 1) := by decide +kernel
theorem dX12_check_86 : decode cX12_check 86 = .ok (.aload_n 0, 1) := by decide +kernel
theorem dX12_check_87 : decode cX12_check 87 = .ok (.getfield 62, 3) := by decide +kernel
theorem dX12_check_90 : decode cX12_check 90 = .ok (.aload_n 0, 1) := by decide +kernel
theorem dX12_check_91 : decode cX12_check 91 = .ok (.getfield 286, 3) := by decide +kernel
theorem dX12_check_94 : decode cX12_check 94 = .ok (.iaload, 1) := by decide +kernel
theorem dX12_check_95 : decode cX12_check 95 = .ok (.if_icmp .ge 31, 3) := by decide +kernel
theorem dX12_check_126 : decode cX12_check 126 = .ok (.aload_n 0, 1) := by decide +kernel
theorem dX12_check_127 : decode cX12_check 127 = .ok (.aload_n 0, 1) := by decide +kernel
theorem dX12_check_128 : decode cX12_check 128 = .ok (.getfield 408, 3) := by decide +kernel
theorem dX12_check_131 : decode cX12_check 131 = .ok (.ifCond .ne 10, 3) := by decide +kernel
theorem dX12_check_141 : decode cX12_check 141 = .ok (.iconst 1, 1) := by decide +kernel
theorem dX12_check_142 : decode cX12_check 142 = .ok (.goto 4, 3) := by decide +kernel
theorem dX12_check_146 : decode cX12_check 146 = .ok (.putfield 408, 3) := by decide +kernel
theorem dX12_check_149 : decode cX12_check 149 = .ok (.aload_n 0, 1) := by decide +kernel
theorem dX12_check_150 : decode cX12_check 150 = .ok (.getfield 435, 3) := by decide +kernel
theorem dX12_check_153 : decode cX12_check 153 = .ok (.ireturn, 1) := by decide +kernel
theorem dX12_check_134 : decode cX12_check 134 = .ok (.aload_n 0, 1) := by decide +kernel
theorem dX12_check_135 : decode cX12_check 135 = .ok (.getfield 435, 3) := by decide +kernel
theorem dX12_check_138 : decode cX12_check 138 = .ok (.ifCond .ne 7, 3) := by decide +kernel
theorem dX12_check_145 : decode cX12_check 145 = .ok (.iconst 0, 1) := by decide +kernel
theorem dX12_check_98 : decode cX12_check 98 = .ok (.aload_n 0, 1) := by decide +kernel
theorem dX12_check_99 : decode cX12_check 99 = .ok (.iload_n 1, 1) := by decide +kernel
theorem dX12_check_100 : decode cX12_check 100 = .ok (.invokevirtual 438, 3) := by decide +kernel
theorem dX12_check_103 : decode cX12_check 103 = .ok (.ifCond .eq 17, 3) := by decide +kernel
theorem dX12_check_120 : decode cX12_check 120 = .ok (.iinc 1 1, 3) := by decide +kernel
theorem dX12_check_123 : decode cX12_check 123 = .ok (.goto (-38), 3) := by decide +kernel
theorem dX12_check_106 : decode cX12_check 106 = .ok (.aload_n 0, 1) := by decide +kernel
theorem dX12_check_107 : decode cX12_check 107 = .ok (.getfield 216, 3) := by decide +kernel
theorem dX12_check_110 : decode cX12_check 110 = .ok (.iload_n 1, 1) := by decide +kernel
theorem dX12_check_111 : decode cX12_check 111 = .ok (.iaload, 1) := by decide +kernel
theorem dX12_check_112 : decode cX12_check 112 = .ok (.ifCond .ne 8, 3) := by decide +kernel
theorem dX12_check_115 : decode cX12_check 115 = .ok (.aload_n 0, 1) := by decide +kernel
theorem dX12_check_116 : decode cX12_check 116 = .ok (.iload_n 1, 1) := by decide +kernel
theorem dX12_check_117 : decode cX12_check 117 = .ok (.invokevirtual 452, 3) := by decide +kernel
theorem dX12_check_25 : decode cX12_check 25 = .ok (.aload_n 0, 1) := by decide +kernel
theorem dX12_check_26 : decode cX12_check 26 = .ok (.getfield 216, 3) := by decide +kernel
theorem dX12_check_29 : decode cX12_check 29 = .ok (.iload_n 1, 1) := by decide +kernel
theorem dX12_check_30 : decode cX12_check 30 = .ok (.iconst 0, 1) := by decide +kernel
theorem dX12_check_31 : decode cX12_check 31 = .ok (.iastore, 1) := by decide +kernel
theorem dX12_check_32 : decode cX12_check 32 = .ok (.iconst 0, 1) := by decide +kernel
theorem dX12_check_33 : decode cX12_check 33 = .ok (.istore_n 2, 1) := by decide +kernel
theorem dX12_check_34 : decode cX12_check 34 = .ok (.iload_n 2, 1) := by decide +kernel
theorem dX12_check_35 : decode cX12_check 35 = .ok (.aload_n 0, 1) := by decide +kernel
theorem dX12_check_36 : decode cX12_check 36 = .ok (.getfield 86, 3) := by decide +kernel
theorem dX12_check_39 : decode cX12_check 39 = .ok (.bipush 24, 2) := by decide +kernel
theorem dX12_check_41 : decode cX12_check 41 = .ok (.aload_n 0, 1) := by decide +kernel
theorem dX12_check_42 : decode cX12_check 42 = .ok (.getfield 286, 3) := by decide +kernel
theorem dX12_check_45 : decode cX12_check 45 = .ok (.imul, 1) := by decide +kernel
theorem dX12_check_46 : decode cX12_check 46 = .ok (.iload_n 1, 1) := by decide +kernel
theorem dX12_check_47 : decode cX12_check 47 = .ok (.iadd, 1) := by decide +kernel
theorem dX12_check_48 : decode cX12_check 48 = .ok (.iaload, 1) := by decide +kernel
theorem dX12_check_49 : decode cX12_check 49 = .ok (.if_icmp .ge 23, 3) := by decide +kernel
theorem dX12_check_72 : decode cX12_check 72 = .ok (.iinc 1 1, 3) := by decide +kernel
theorem dX12_check_75 : decode cX12_check 75 = .ok (.goto (-63), 3) := by decide +kernel
theorem dX12_check_52 : decode cX12_check 52 = .ok (.aload_n 0, 1) := by decide +kernel
theorem dX12_check_53 : decode cX12_check 53 = .ok (.iload_n 1, 1) := by decide +kernel
theorem dX12_check_54 : decode cX12_check 54 = .ok (.invokevirtual 438, 3) := by decide +kernel
theorem dX12_check_57 : decode cX12_check 57 = .ok (.ifCond .eq 15, 3) := by decide +kernel
theorem dX12_check_60 : decode cX12_check 60 = .ok (.aload_n 0, 1) := by decide +kernel
theorem dX12_check_61 : decode cX12_check 61 = .ok (.iload_n 1, 1) := by decide +kernel
theorem dX12_check_62 : decode cX12_check 62 = .ok (.iload_n 2, 1) := by decide +kernel
theorem dX12_check_63 : decode cX12_check 63 = .ok (.invokevirtual 445, 3) := by decide +kernel
theorem dX12_check_66 : decode cX12_check 66 = .ok (.iinc 2 1, 3) := by decide +kernel
theorem dX12_check_69 : decode cX12_check 69 = .ok (.goto (-35), 3) := by decide +kernel
abbrev r_s_visits24 : Room := { frames := 248, cells := 0, slots := 0, locals := 7460 }
abbrev q_s_visits24 (D : va_G) (ks : Nat × Nat × Option Nat) (ad : Nat → Nat) (kk : Nat → ClassId) (V : Vf) (L : Lf) (p0 : Int32) (FM : Int) (A : Nat → Prop) : Array Value → State → Outcome → State → Prop := q_s_visits D ks ad kk V L p0 FM A
theorem s_visits24 (l : Launch) (D : va_G) (ks : Nat × Nat × Option Nat) (sz : Nat) (ad : Nat → Nat) (kk : Nat → ClassId) (V : Vf) (L : Lf) (p0 : Int32) (FM : Int) (hMV : rgd bM V) (rg_p0 : 0 ≤ p0.toInt ∧ p0.toInt ≤ 23) (v2 : (V 0 89).toInt + (cz V 24 : Int) ≤ 24) (v3 : (V 87 (Int32.toNatClampNeg p0)).toInt = 0) (v4 : WY V) (v5 : (V 0 81).toInt + 192 * (cz V 24 : Int) ≤ FM) (v7 : FM ≤ 999000) (v6 : p0.toInt < (V 19 (nwh V)).toInt) (tb : TB V) : Met l yX12_visits (Cond.code yX12_visits cX12_visits 5 none :: GW) r_s_visits24 (va_Pc [.ref (ad 0), .int p0] (gp D ks (mw ad kk ks.1 V L) (mty kk) sz)) (q_s_visits24 D ks ad kk V L p0 FM (va_A (mw ad kk ks.1 V L) sz)) 0 0 (va_A (mw ad kk ks.1 V L) sz) :=
  K_visits 24 sz ad kk V L p0 FM hMV rg_p0 (by have h9 := cz_le V 24; omega) v2 v3 v4 v5 v7 v6 tb

abbrev r_s_check2 : Room := { frames := 249, cells := 0, slots := 0, locals := 7484 }
abbrev q_s_check2 (D : va_G) (ks : Nat × Nat × Option Nat) (ad : Nat → Nat) (kk : Nat → ClassId) (V : Vf) (L : Lf) (A : Nat → Prop) : Array Value → State → Outcome → State → Prop := va_Qi (fun (r : Int32) (u : Vf × Lf) => rgd bM u.1 ∧ agr [(0, 0), (0, 54), (0, 81), (0, 89)] [80, 82, 83, 84, 85, 86, 87, 88] V u.1 ∧ u.2 = L ∧ (RD u.1)) (fun u t => gq D A (mw ad kk ks.1 u.1 u.2) (mty kk) t) A
set_option maxHeartbeats 4000000 in
set_option maxRecDepth 100000 in
theorem s_check2 (l : Launch) (D : va_G) (ks : Nat × Nat × Option Nat) (sz : Nat) (ad : Nat → Nat) (kk : Nat → ClassId) (V : Vf) (L : Lf)  (hMV : rgd bM V) (tb : TB V) (rd : RD V)  : Met l yX12_check (Cond.code yX12_check cX12_check 3 (some .int) :: GW) r_s_check2 (va_Pc [.ref (ad 0)] (gp D ks (mw ad kk ks.1 V L) (mty kk) sz)) (q_s_check2 D ks ad kk V L  (va_A (mw ad kk ks.1 V L) sz)) 0 0 (va_A (mw ad kk ks.1 V L) sz) := by
  refine g_met (q_s_check2 D ks ad kk V L) (by decide) (Nat.le_of_ble_eq_true rfl) ?_
  intro p e s m below meth c A ls H locs hx hb hr hml hown hg hlocks hin hnw hgk hP hK hD hS hA hl
  have hown : s.vm.findClass RX12 = some m.cls := hown
  have hl : lv_has ls 3 [(0, .ref (ad 0))] := hl
  have hP : va_P D vwCl (mw ad kk ks.1 V L) H := hP
  have hD : va_D A (mw ad kk ks.1 V L) := hD
  have hK : va_K D vwCl (mty kk) s := hK
  have agV : agr [(0, 0), (0, 54), (0, 81), (0, 89)] [80, 82, 83, 84, 85, 86, 87, 88] V V := agr.rf
  refine lv_aload_n hx hb dX12_check_0 rfl (lv_at hl 0 rfl) ?_
  refine lv_iconst (v := 0) hx hb dX12_check_1 (by decide) ?_
  refine va_put (D := D) (ci := 12) (v := .int 0) (ty := tyX12 0) (C := RX12) (T := TX12) (N := 100) hx hb hg inX12 tyX12 tyX12_ok nmX12 hown hK hP hD hS 0 rfl rfl 0 (by decide) (hg _ w1706) (fun _ h9 => h9) rfl (tyX12_ok 0 (by decide)) rfl rfl (Nat.le_of_ble_eq_true rfl) dX12_check_2 (fun H locs hP hD hS => ?_)
  obtain ⟨V1, hV1⟩ : ∃ z, z = up2 V 0 0 0 := ⟨_, rfl⟩
  have hP : va_P D vwCl (mw ad kk ks.1 V1 L) H := by rw [hV1]; exact hP
  have hD : va_D A (mw ad kk ks.1 V1 L) := by rw [hV1]; exact hD
  have hMV1 : rgd bM V1 := hMV.put hV1 (i_full _)
  have agV1 : agr [(0, 0), (0, 54), (0, 81), (0, 89)] [80, 82, 83, 84, 85, 86, 87, 88] V V1 := agV.up hV1 rfl
  refine lv_aload_n hx hb dX12_check_5 rfl (lv_at hl 0 rfl) ?_
  refine lv_iconst (v := 0) hx hb dX12_check_6 (by decide) ?_
  refine va_put (D := D) (ci := 12) (v := .int 0) (ty := tyX12 81) (C := RX12) (T := TX12) (N := 100) hx hb hg inX12 tyX12 tyX12_ok nmX12 hown hK hP hD hS 0 rfl rfl 81 (by decide) (hg _ w1787) (fun _ h9 => h9) rfl (tyX12_ok 81 (by decide)) rfl rfl (Nat.le_of_ble_eq_true rfl) dX12_check_7 (fun H locs hP hD hS => ?_)
  obtain ⟨V2, hV2⟩ : ∃ z, z = up2 V1 0 81 0 := ⟨_, rfl⟩
  have hP : va_P D vwCl (mw ad kk ks.1 V2 L) H := by rw [hV2]; exact hP
  have hD : va_D A (mw ad kk ks.1 V2 L) := by rw [hV2]; exact hD
  have hMV2 : rgd bM V2 := hMV1.put hV2 (by decide)
  have agV2 : agr [(0, 0), (0, 54), (0, 81), (0, 89)] [80, 82, 83, 84, 85, 86, 87, 88] V V2 := agV1.up hV2 rfl
  refine lv_iconst (v := 0) hx hb dX12_check_10 (by decide) ?_
  refine lv_istore_n (lv' := [(1, .int 0), (0, .ref (ad 0))]) hx hb dX12_check_11 rfl hl (by decide) rfl (fun ls hl => ?_)
  have lp5 : ∀ (fulp5 : Nat) (y3 : Int32) (V4 : Vf) (H : Heap) (locs : List Loc) (ls : Array Slot), 0 ≤ y3.toInt ∧ y3.toInt ≤ 24 → (V4 0 81).toInt ≤ 8 * y3.toInt → (∀ d : Nat, (d : Int) < y3.toInt → (V4 87 d).toInt = 0) → Imp ((V4 0 81).toInt = 0) (DD V4 y3.toInt 0) → c0k V V4 → 24 - y3.toInt < (fulp5 : Int) → agr [(0, 81)] [80, 82, 83, 84, 86, 87] V2 V4 → rgd bM V4 → va_P D vwCl (mw ad kk ks.1 V4 L) H → va_D A (mw ad kk ks.1 V4 L) → va_S A s.heap H locs → lv_has ls 3 [(1, .int y3), (0, .ref (ad 0))] → W p l e r_s_check2 s m ([.ref (ad 0)] : List Value).toArray below meth c H locs 0 0 (MQ below (q_s_check2 D ks ad kk V L  A) ([.ref (ad 0)] : List Value).toArray s 0 0 A) (F0 m 12 ls []) := by
    intro fulp5
    induction fulp5 with
    | zero =>
      intro y3 V4 H locs ls klp5_0 xlp5_0 xlp5_1 xlp5_2 xlp5_3 hn ajV4 hMV4 hP hD hS hl
      exfalso; omega
    | succ fulp5 ihlp5 =>
      intro y3 V4 H locs ls klp5_0 xlp5_0 xlp5_1 xlp5_2 xlp5_3 hn ajV4 hMV4 hP hD hS hl
      have agV4 : agr [(0, 0), (0, 54), (0, 81), (0, 89)] [80, 82, 83, 84, 85, 86, 87, 88] V V4 := agV2.tr ajV4 (by decide) (by decide)
      have r6 : 0 ≤ ((V4 0 81)).toInt ∧ ((V4 0 81)).toInt ≤ 1000000 := hMV4 0 81
      refine lv_iload_n hx hb dX12_check_12 rfl (lv_at hl 0 rfl) ?_
      refine lv_aload_n hx hb dX12_check_13 rfl (lv_at hl 1 rfl) ?_
      refine va_get (D := D) (ci := 12) (v := .ref (ad 19)) (C := RX12) (T := TX12) (N := 100) hx hb hg inX12 hown hK hP 0 rfl rfl 19 (by decide) (hg _ w1725) (fun _ h9 => h9) rfl dX12_check_14 ?_
      refine lv_aload_n hx hb dX12_check_17 rfl (lv_at hl 1 rfl) ?_
      refine va_get (D := D) (ci := 12) (v := .int (V4 0 11)) (C := RX12) (T := TX12) (N := 100) hx hb hg inX12 hown hK hP 0 rfl rfl 11 (by decide) (hg _ w1717) (fun _ h9 => h9) rfl dX12_check_18 ?_
      refine g_top (v := (V 0 11)) ((ajV4 0 11 rfl).trans ((up2_k hV2 (by decide)).trans (up2_k hV1 (by decide)))) ?_
      have r7 : 0 ≤ ((V 0 11)).toInt ∧ ((V 0 11)).toInt ≤ 1 := hMV 0 11
      refine va_iald (D := D) (i := (V 0 11)) hx hb hK hP 12 11 rfl rfl (i_in (a := ((V 0 11)).toInt) rfl (by first | omega | ((try (have i_rd := Imp.go rd (by omega))); (try (have i_tb := Imp.go tb (by omega))); (try (have i_tb := Imp.go tb (by omega))); (try (have i_rd := Imp.go rd (by omega))); omega))) dX12_check_21 ?_
      refine g_top (v := (V 19 (Int32.toNatClampNeg (V 0 11)))) ((ajV4 19 (Int32.toNatClampNeg (V 0 11)) rfl).trans ((up2_o hV2 (by decide)).trans (up2_o hV1 (by decide)))) ?_
      have r8 : 0 ≤ ((V 19 (Int32.toNatClampNeg (V 0 11)))).toInt ∧ ((V 19 (Int32.toNatClampNeg (V 0 11)))).toInt ≤ 24 := hMV 19 (Int32.toNatClampNeg (V 0 11))
      refine lv_icmp_ge (tgt := 78) hx hb dX12_check_22 (by decide) (fun c9 => ?_) (fun c9 => ?_)
      · skip
        have f10 : ((V 19 (Int32.toNatClampNeg (V 0 11)))).toInt ≤ y3.toInt := b_le rfl rfl c9
        have czl0 := cz_le V4 24
        refine lv_aload_n hx hb dX12_check_78 rfl (lv_at hl 1 rfl) ?_
        refine lv_iconst (v := 0) hx hb dX12_check_79 (by decide) ?_
        refine va_put (D := D) (ci := 12) (v := .int 0) (ty := tyX12 89) (C := RX12) (T := TX12) (N := 100) hx hb hg inX12 tyX12 tyX12_ok nmX12 hown hK hP hD hS 0 rfl rfl 89 (by decide) (hg _ w1795) (fun _ h9 => h9) rfl (tyX12_ok 89 (by decide)) rfl rfl (Nat.le_of_ble_eq_true rfl) dX12_check_80 (fun H locs hP hD hS => ?_)
        obtain ⟨V11, hV11⟩ : ∃ z, z = up2 V4 0 89 0 := ⟨_, rfl⟩
        have hP : va_P D vwCl (mw ad kk ks.1 V11 L) H := by rw [hV11]; exact hP
        have hD : va_D A (mw ad kk ks.1 V11 L) := by rw [hV11]; exact hD
        have hMV11 : rgd bM V11 := hMV4.put hV11 (by decide)
        have agV11 : agr [(0, 0), (0, 54), (0, 81), (0, 89)] [80, 82, 83, 84, 85, 86, 87, 88] V V11 := agV4.up hV11 rfl
        refine lv_iconst (v := 0) hx hb dX12_check_83 (by decide) ?_
        refine lv_istore_n (lv' := [(1, .int 0), (0, .ref (ad 0))]) hx hb dX12_check_84 rfl hl (by decide) rfl (fun ls hl => ?_)
        have lp14 : ∀ (fulp14 : Nat) (y12 : Int32) (V13 : Vf) (H : Heap) (locs : List Loc) (ls : Array Slot), 0 ≤ y12.toInt ∧ y12.toInt ≤ 24 → (V13 0 89).toInt = 0 → (V13 0 81).toInt + 192 * (cz V13 24 : Int) ≤ 4800 → (∀ d : Nat, (d : Int) < (V 19 (nwh V)).toInt → (V13 87 d).toInt ≠ 1) → c0k V V13 → Imp ((V13 0 81).toInt = 0) (DD V13 (V 19 (nwh V)).toInt 0) → 24 - y12.toInt < (fulp14 : Int) → agr [(0, 81), (0, 89)] [80, 82, 83, 84, 85, 87, 88] V11 V13 → rgd bM V13 → va_P D vwCl (mw ad kk ks.1 V13 L) H → va_D A (mw ad kk ks.1 V13 L) → va_S A s.heap H locs → lv_has ls 3 [(1, .int y12), (0, .ref (ad 0))] → W p l e r_s_check2 s m ([.ref (ad 0)] : List Value).toArray below meth c H locs 0 0 (MQ below (q_s_check2 D ks ad kk V L  A) ([.ref (ad 0)] : List Value).toArray s 0 0 A) (F0 m 85 ls []) := by
          intro fulp14
          induction fulp14 with
          | zero =>
            intro y12 V13 H locs ls klp14_0 xlp14_0 xlp14_1 xlp14_2 xlp14_3 xlp14_4 hn ajV13 hMV13 hP hD hS hl
            exfalso; omega
          | succ fulp14 ihlp14 =>
            intro y12 V13 H locs ls klp14_0 xlp14_0 xlp14_1 xlp14_2 xlp14_3 xlp14_4 hn ajV13 hMV13 hP hD hS hl
            have agV13 : agr [(0, 0), (0, 54), (0, 81), (0, 89)] [80, 82, 83, 84, 85, 86, 87, 88] V V13 := agV11.tr ajV13 (by decide) (by decide)
            have r15 : 0 ≤ ((V13 0 89)).toInt ∧ ((V13 0 89)).toInt ≤ 24 := hMV13 0 89
            have r16 : 0 ≤ ((V13 0 81)).toInt ∧ ((V13 0 81)).toInt ≤ 1000000 := hMV13 0 81
            refine lv_iload_n hx hb dX12_check_85 rfl (lv_at hl 0 rfl) ?_
            refine lv_aload_n hx hb dX12_check_86 rfl (lv_at hl 1 rfl) ?_
            refine va_get (D := D) (ci := 12) (v := .ref (ad 19)) (C := RX12) (T := TX12) (N := 100) hx hb hg inX12 hown hK hP 0 rfl rfl 19 (by decide) (hg _ w1725) (fun _ h9 => h9) rfl dX12_check_87 ?_
            refine lv_aload_n hx hb dX12_check_90 rfl (lv_at hl 1 rfl) ?_
            refine va_get (D := D) (ci := 12) (v := .int (V13 0 11)) (C := RX12) (T := TX12) (N := 100) hx hb hg inX12 hown hK hP 0 rfl rfl 11 (by decide) (hg _ w1717) (fun _ h9 => h9) rfl dX12_check_91 ?_
            refine g_top (v := (V 0 11)) ((ajV13 0 11 rfl).trans ((up2_k hV11 (by decide)).trans ((ajV4 0 11 rfl).trans ((up2_k hV2 (by decide)).trans (up2_k hV1 (by decide)))))) ?_
            refine va_iald (D := D) (i := (V 0 11)) hx hb hK hP 12 11 rfl rfl (i_in (a := ((V 0 11)).toInt) rfl (by first | omega | ((try (have i_rd := Imp.go rd (by omega))); (try (have i_tb := Imp.go tb (by omega))); (try (have i_tb := Imp.go tb (by omega))); (try (have i_rd := Imp.go rd (by omega))); omega))) dX12_check_94 ?_
            refine g_top (v := (V 19 (Int32.toNatClampNeg (V 0 11)))) ((ajV13 19 (Int32.toNatClampNeg (V 0 11)) rfl).trans ((up2_o hV11 (by decide)).trans ((ajV4 19 (Int32.toNatClampNeg (V 0 11)) rfl).trans ((up2_o hV2 (by decide)).trans (up2_o hV1 (by decide)))))) ?_
            refine lv_icmp_ge (tgt := 126) hx hb dX12_check_95 (by decide) (fun c17 => ?_) (fun c17 => ?_)
            · skip
              have f18 : ((V 19 (Int32.toNatClampNeg (V 0 11)))).toInt ≤ y12.toInt := b_le rfl rfl c17
              refine lv_aload_n hx hb dX12_check_126 rfl (lv_at hl 1 rfl) ?_
              refine lv_aload_n hx hb dX12_check_127 rfl (lv_at hl 1 rfl) ?_
              refine va_get (D := D) (ci := 12) (v := .int (V13 0 54)) (C := RX12) (T := TX12) (N := 100) hx hb hg inX12 hown hK hP 0 rfl rfl 54 (by decide) (hg _ w1760) (fun _ h9 => h9) rfl dX12_check_128 ?_
              refine g_top (v := (V 0 54)) ((ajV13 0 54 rfl).trans ((up2_k hV11 (by decide)).trans ((ajV4 0 54 rfl).trans ((up2_k hV2 (by decide)).trans (up2_k hV1 (by decide)))))) ?_
              have r19 : 0 ≤ ((V 0 54)).toInt ∧ ((V 0 54)).toInt ≤ 1 := hMV 0 54
              refine lv_if_ne (tgt := 141) hx hb dX12_check_131 (by decide) (fun c20 => ?_) (fun c20 => ?_)
              · skip
                have f21 : ((V 0 54)).toInt ≠ 0 := b_neq rfl (by decide) c20
                refine lv_iconst (v := 1) hx hb dX12_check_141 (by decide) ?_
                refine lv_goto (tgt := 146) hx hb dX12_check_142 (by decide) ?_
                refine va_put (D := D) (ci := 12) (v := .int 1) (ty := tyX12 54) (C := RX12) (T := TX12) (N := 100) hx hb hg inX12 tyX12 tyX12_ok nmX12 hown hK hP hD hS 0 rfl rfl 54 (by decide) (hg _ w1760) (fun _ h9 => h9) rfl (tyX12_ok 54 (by decide)) rfl rfl (Nat.le_of_ble_eq_true rfl) dX12_check_146 (fun H locs hP hD hS => ?_)
                obtain ⟨V22, hV22⟩ : ∃ z, z = up2 V13 0 54 1 := ⟨_, rfl⟩
                have hP : va_P D vwCl (mw ad kk ks.1 V22 L) H := by rw [hV22]; exact hP
                have hD : va_D A (mw ad kk ks.1 V22 L) := by rw [hV22]; exact hD
                have hMV22 : rgd bM V22 := hMV13.put hV22 (by decide)
                have agV22 : agr [(0, 0), (0, 54), (0, 81), (0, 89)] [80, 82, 83, 84, 85, 86, 87, 88] V V22 := agV13.up hV22 rfl
                refine lv_aload_n hx hb dX12_check_149 rfl (lv_at hl 1 rfl) ?_
                refine va_get (D := D) (ci := 12) (v := .int (V22 0 81)) (C := RX12) (T := TX12) (N := 100) hx hb hg inX12 hown hK hP 0 rfl rfl 81 (by decide) (hg _ w1787) (fun _ h9 => h9) rfl dX12_check_150 ?_
                refine g_top (v := (V13 0 81)) (up2_k hV22 (by decide)) ?_
                have a54 : agr [(0, 54)] [] V13 V22 := agr.up agr.rf hV22 rfl
                have c024 : c0k V V13 := xlp14_3
                have rd23 : RD V22 := fun _ => RD_st (RD_st (rd (by omega)) agV13 ⟨rfl, fun _ => rfl, fun _ => rfl, fun _ => rfl, fun _ => rfl, fun _ => rfl, fun _ => rfl⟩ c024) a54 ⟨rfl, fun _ => rfl, fun _ => rfl, fun _ => rfl, fun _ => rfl, fun _ => rfl, fun _ => rfl⟩ (c0k.ag a54 rfl)
                exact W.iret (v := (V13 0 81)) hx hb hr (fun t ht hW => ⟨⟨(V13 0 81), (V22, L), rfl, ⟨hMV22, agV22, rfl, rd23⟩, by rw [ht]; exact hP, va_K.moved hW.alike hK, hD⟩, hS.F ht⟩) hS.2.2 dX12_check_153
              · skip
                have f25 : ((V 0 54)).toInt = 0 := b_eq rfl (by decide) c20
                refine lv_aload_n hx hb dX12_check_134 rfl (lv_at hl 1 rfl) ?_
                refine va_get (D := D) (ci := 12) (v := .int (V13 0 81)) (C := RX12) (T := TX12) (N := 100) hx hb hg inX12 hown hK hP 0 rfl rfl 81 (by decide) (hg _ w1787) (fun _ h9 => h9) rfl dX12_check_135 ?_
                refine lv_if_ne (tgt := 145) hx hb dX12_check_138 (by decide) (fun c26 => ?_) (fun c26 => ?_)
                · skip
                  have f27 : ((V13 0 81)).toInt ≠ 0 := b_neq rfl (by decide) c26
                  refine lv_iconst (v := 0) hx hb dX12_check_145 (by decide) ?_
                  refine va_put (D := D) (ci := 12) (v := .int 0) (ty := tyX12 54) (C := RX12) (T := TX12) (N := 100) hx hb hg inX12 tyX12 tyX12_ok nmX12 hown hK hP hD hS 0 rfl rfl 54 (by decide) (hg _ w1760) (fun _ h9 => h9) rfl (tyX12_ok 54 (by decide)) rfl rfl (Nat.le_of_ble_eq_true rfl) dX12_check_146 (fun H locs hP hD hS => ?_)
                  obtain ⟨V28, hV28⟩ : ∃ z, z = up2 V13 0 54 0 := ⟨_, rfl⟩
                  have hP : va_P D vwCl (mw ad kk ks.1 V28 L) H := by rw [hV28]; exact hP
                  have hD : va_D A (mw ad kk ks.1 V28 L) := by rw [hV28]; exact hD
                  have hMV28 : rgd bM V28 := hMV13.put hV28 (by decide)
                  have agV28 : agr [(0, 0), (0, 54), (0, 81), (0, 89)] [80, 82, 83, 84, 85, 86, 87, 88] V V28 := agV13.up hV28 rfl
                  refine lv_aload_n hx hb dX12_check_149 rfl (lv_at hl 1 rfl) ?_
                  refine va_get (D := D) (ci := 12) (v := .int (V28 0 81)) (C := RX12) (T := TX12) (N := 100) hx hb hg inX12 hown hK hP 0 rfl rfl 81 (by decide) (hg _ w1787) (fun _ h9 => h9) rfl dX12_check_150 ?_
                  refine g_top (v := (V13 0 81)) (up2_k hV28 (by decide)) ?_
                  have a54 : agr [(0, 54)] [] V13 V28 := agr.up agr.rf hV28 rfl
                  have rd29 : RD V28 := fun h1 => absurd h1 (by rw [up2_s hV28]; decide)
                  exact W.iret (v := (V13 0 81)) hx hb hr (fun t ht hW => ⟨⟨(V13 0 81), (V28, L), rfl, ⟨hMV28, agV28, rfl, rd29⟩, by rw [ht]; exact hP, va_K.moved hW.alike hK, hD⟩, hS.F ht⟩) hS.2.2 dX12_check_153
                · skip
                  have f30 : ((V13 0 81)).toInt = 0 := b_eq rfl (by decide) c26
                  refine lv_iconst (v := 1) hx hb dX12_check_141 (by decide) ?_
                  refine lv_goto (tgt := 146) hx hb dX12_check_142 (by decide) ?_
                  refine va_put (D := D) (ci := 12) (v := .int 1) (ty := tyX12 54) (C := RX12) (T := TX12) (N := 100) hx hb hg inX12 tyX12 tyX12_ok nmX12 hown hK hP hD hS 0 rfl rfl 54 (by decide) (hg _ w1760) (fun _ h9 => h9) rfl (tyX12_ok 54 (by decide)) rfl rfl (Nat.le_of_ble_eq_true rfl) dX12_check_146 (fun H locs hP hD hS => ?_)
                  obtain ⟨V31, hV31⟩ : ∃ z, z = up2 V13 0 54 1 := ⟨_, rfl⟩
                  have hP : va_P D vwCl (mw ad kk ks.1 V31 L) H := by rw [hV31]; exact hP
                  have hD : va_D A (mw ad kk ks.1 V31 L) := by rw [hV31]; exact hD
                  have hMV31 : rgd bM V31 := hMV13.put hV31 (by decide)
                  have agV31 : agr [(0, 0), (0, 54), (0, 81), (0, 89)] [80, 82, 83, 84, 85, 86, 87, 88] V V31 := agV13.up hV31 rfl
                  refine lv_aload_n hx hb dX12_check_149 rfl (lv_at hl 1 rfl) ?_
                  refine va_get (D := D) (ci := 12) (v := .int (V31 0 81)) (C := RX12) (T := TX12) (N := 100) hx hb hg inX12 hown hK hP 0 rfl rfl 81 (by decide) (hg _ w1787) (fun _ h9 => h9) rfl dX12_check_150 ?_
                  refine g_top (v := (V13 0 81)) (up2_k hV31 (by decide)) ?_
                  have a54 : agr [(0, 54)] [] V13 V31 := agr.up agr.rf hV31 rfl
                  have rd32 : RD V31 := fun _ => RD_st (DD.RD (Imp.go xlp14_4 (by omega)) (by rw [(nwh_ag agV13 ⟨rfl, fun _ => rfl, fun _ => rfl, fun _ => rfl, fun _ => rfl, fun _ => rfl, fun _ => rfl⟩).2]; exact Int.le_refl _)) a54 ⟨rfl, fun _ => rfl, fun _ => rfl, fun _ => rfl, fun _ => rfl, fun _ => rfl, fun _ => rfl⟩ (c0k.ag a54 rfl)
                  exact W.iret (v := (V13 0 81)) hx hb hr (fun t ht hW => ⟨⟨(V13 0 81), (V31, L), rfl, ⟨hMV31, agV31, rfl, rd32⟩, by rw [ht]; exact hP, va_K.moved hW.alike hK, hD⟩, hS.F ht⟩) hS.2.2 dX12_check_153
            · skip
              have f33 : y12.toInt < ((V 19 (Int32.toNatClampNeg (V 0 11)))).toInt := b_nle rfl rfl c17
              refine lv_aload_n hx hb dX12_check_98 rfl (lv_at hl 1 rfl) ?_
              refine lv_iload_n hx hb dX12_check_99 rfl (lv_at hl 0 rfl) ?_
              refine gA_int (gA_runV (As := [.int y12]) (rest := []) (ci := 12) (q0 := 0) hx hb hml hown hg hP hD hK hS hA hnw hgk (s_isThere2 l D ks H.size ad kk V13 L y12 hMV13 ) w2164 w2166 w117 w172 w2167 rfl rfl hdV_yX12_isThere ⟨Nat.le_of_ble_eq_true rfl, Nat.le_of_ble_eq_true rfl⟩ rfl hl.1 rfl (Nat.le_of_ble_eq_true rfl) dX12_check_100 ⟨Nat.le_of_ble_eq_true rfl, Nat.le_of_ble_eq_true rfl⟩) hP hD hK hS hA (fun z34 u35 H locs w36 hP hD hK hS => ?_)
              obtain ⟨rgz34, t37, t38, t39⟩ := w36
              have rgz34 : 0 ≤ z34.toInt ∧ z34.toInt ≤ 1 := rgz34
              have t37 : Imp (z34.toInt = 1) (0 ≤ y12.toInt ∧ y12.toInt ≤ 23) := t37
              have t38 : Imp (z34.toInt = 1) (th V13 (Int32.toNatClampNeg y12)) := t38
              have t39 : Imp (z34.toInt = 0) (0 ≤ y12.toInt → ¬ th V13 (Int32.toNatClampNeg y12)) := t39
              refine lv_if_eq (tgt := 120) hx hb dX12_check_103 (by decide) (fun c40 => ?_) (fun c40 => ?_)
              · skip
                have f41 : z34.toInt = 0 := b_eq rfl (by decide) c40
                obtain ⟨z42, ez42⟩ : ∃ y : Int32, y = y12 + 1 := ⟨_, rfl⟩
                have hz42 : z42.toInt = y12.toInt + 1 := i_add ez42 rfl (by decide) (by omega)
                refine lv_iinc (v := z42) (lv' := [(1, .int z42), (0, .ref (ad 0))]) hx hb dX12_check_120 hl (k := 0) rfl (by rw [ez42]; rfl) (by decide) rfl (fun ls hl => ?_)
                refine lv_goto (tgt := 85) hx hb dX12_check_123 (by decide) ?_
                have c043 : c0k V V13 := xlp14_3
                exact ihlp14 z42 V13 H locs ls (by first | omega | ((try (have i_t37 := Imp.go t37 (by omega))); (try (have i_rd := Imp.go rd (by omega))); (try (have i_tb := Imp.go tb (by omega))); (try (have i_tb := Imp.go tb (by omega))); (try (have i_rd := Imp.go rd (by omega))); (try (have i_t37 := Imp.go t37 (by omega))); omega)) (show (V13 0 89).toInt = 0 from by first | omega | ((try (have i_t37 := Imp.go t37 (by omega))); (try (have i_rd := Imp.go rd (by omega))); (try (have i_tb := Imp.go tb (by omega))); (try (have i_tb := Imp.go tb (by omega))); (try (have i_rd := Imp.go rd (by omega))); (try (have i_t37 := Imp.go t37 (by omega))); omega)) (show (V13 0 81).toInt + 192 * (cz V13 24 : Int) ≤ 4800 from by first | omega | ((try (have i_t37 := Imp.go t37 (by omega))); (try (have i_rd := Imp.go rd (by omega))); (try (have i_tb := Imp.go tb (by omega))); (try (have i_tb := Imp.go tb (by omega))); (try (have i_rd := Imp.go rd (by omega))); (try (have i_t37 := Imp.go t37 (by omega))); omega)) xlp14_2 c043 xlp14_4 (by first | omega | ((try (have i_t37 := Imp.go t37 (by omega))); (try (have i_rd := Imp.go rd (by omega))); (try (have i_tb := Imp.go tb (by omega))); (try (have i_tb := Imp.go tb (by omega))); (try (have i_rd := Imp.go rd (by omega))); (try (have i_t37 := Imp.go t37 (by omega))); omega)) (agr.tr agr.rf ajV13 (by decide) (by decide)) hMV13 hP hD hS (lv_sub hl [0, 1] rfl)
              · skip
                have f44 : z34.toInt ≠ 0 := b_neq rfl (by decide) c40
                refine lv_aload_n hx hb dX12_check_106 rfl (lv_at hl 1 rfl) ?_
                refine va_get (D := D) (ci := 12) (v := .ref (ad 87)) (C := RX12) (T := TX12) (N := 100) hx hb hg inX12 hown hK hP 0 rfl rfl 87 (by decide) (hg _ w1793) (fun _ h9 => h9) rfl dX12_check_107 ?_
                refine lv_iload_n hx hb dX12_check_110 rfl (lv_at hl 0 rfl) ?_
                refine va_iald (D := D) (i := y12) hx hb hK hP 63 62 rfl rfl (i_in (a := y12.toInt) rfl (by first | omega | ((try (have i_t37 := Imp.go t37 (by omega))); (try (have i_rd := Imp.go rd (by omega))); (try (have i_tb := Imp.go tb (by omega))); (try (have i_tb := Imp.go tb (by omega))); (try (have i_rd := Imp.go rd (by omega))); (try (have i_t37 := Imp.go t37 (by omega))); omega))) dX12_check_111 ?_
                have r45 : 0 ≤ ((V13 87 (Int32.toNatClampNeg y12))).toInt ∧ ((V13 87 (Int32.toNatClampNeg y12))).toInt ≤ 2 := hMV13 87 (Int32.toNatClampNeg y12)
                refine lv_if_ne (tgt := 120) hx hb dX12_check_112 (by decide) (fun c46 => ?_) (fun c46 => ?_)
                · skip
                  have f47 : ((V13 87 (Int32.toNatClampNeg y12))).toInt ≠ 0 := b_neq rfl (by decide) c46
                  obtain ⟨z48, ez48⟩ : ∃ y : Int32, y = y12 + 1 := ⟨_, rfl⟩
                  have hz48 : z48.toInt = y12.toInt + 1 := i_add ez48 rfl (by decide) (by omega)
                  refine lv_iinc (v := z48) (lv' := [(1, .int z48), (0, .ref (ad 0))]) hx hb dX12_check_120 hl (k := 0) rfl (by rw [ez48]; rfl) (by decide) rfl (fun ls hl => ?_)
                  refine lv_goto (tgt := 85) hx hb dX12_check_123 (by decide) ?_
                  have c049 : c0k V V13 := xlp14_3
                  exact ihlp14 z48 V13 H locs ls (by first | omega | ((try (have i_t37 := Imp.go t37 (by omega))); (try (have i_rd := Imp.go rd (by omega))); (try (have i_tb := Imp.go tb (by omega))); (try (have i_tb := Imp.go tb (by omega))); (try (have i_rd := Imp.go rd (by omega))); (try (have i_t37 := Imp.go t37 (by omega))); omega)) (show (V13 0 89).toInt = 0 from by first | omega | ((try (have i_t37 := Imp.go t37 (by omega))); (try (have i_rd := Imp.go rd (by omega))); (try (have i_tb := Imp.go tb (by omega))); (try (have i_tb := Imp.go tb (by omega))); (try (have i_rd := Imp.go rd (by omega))); (try (have i_t37 := Imp.go t37 (by omega))); omega)) (show (V13 0 81).toInt + 192 * (cz V13 24 : Int) ≤ 4800 from by first | omega | ((try (have i_t37 := Imp.go t37 (by omega))); (try (have i_rd := Imp.go rd (by omega))); (try (have i_tb := Imp.go tb (by omega))); (try (have i_tb := Imp.go tb (by omega))); (try (have i_rd := Imp.go rd (by omega))); (try (have i_t37 := Imp.go t37 (by omega))); omega)) xlp14_2 c049 xlp14_4 (by first | omega | ((try (have i_t37 := Imp.go t37 (by omega))); (try (have i_rd := Imp.go rd (by omega))); (try (have i_tb := Imp.go tb (by omega))); (try (have i_tb := Imp.go tb (by omega))); (try (have i_rd := Imp.go rd (by omega))); (try (have i_t37 := Imp.go t37 (by omega))); omega)) (agr.tr agr.rf ajV13 (by decide) (by decide)) hMV13 hP hD hS (lv_sub hl [0, 1] rfl)
                · skip
                  have f50 : ((V13 87 (Int32.toNatClampNeg y12))).toInt = 0 := b_eq rfl (by decide) c46
                  have czl := cz_le V13 24
                  refine lv_aload_n hx hb dX12_check_115 rfl (lv_at hl 1 rfl) ?_
                  refine lv_iload_n hx hb dX12_check_116 rfl (lv_at hl 0 rfl) ?_
                  refine gA_void (gA_runV (As := [.int y12]) (rest := []) (ci := 12) (q0 := 0) hx hb hml hown hg hP hD hK hS hA hnw hgk (s_visits24 l D ks H.size ad kk V13 L y12 (4800) hMV13 (by first | omega | ((try (have i_t37 := Imp.go t37 (by omega))); (try (have i_rd := Imp.go rd (by omega))); (try (have i_tb := Imp.go tb (by omega))); (try (have i_tb := Imp.go tb (by omega))); (try (have i_rd := Imp.go rd (by omega))); (try (have i_t37 := Imp.go t37 (by omega))); omega)) (show (V13 0 89).toInt + (cz V13 24 : Int) ≤ 24 from by first | omega | ((try (have i_t37 := Imp.go t37 (by omega))); (try (have i_rd := Imp.go rd (by omega))); (try (have i_tb := Imp.go tb (by omega))); (try (have i_tb := Imp.go tb (by omega))); (try (have i_rd := Imp.go rd (by omega))); (try (have i_t37 := Imp.go t37 (by omega))); omega)) (show (V13 87 (Int32.toNatClampNeg y12)).toInt = 0 from by first | omega | ((try (have i_t37 := Imp.go t37 (by omega))); (try (have i_rd := Imp.go rd (by omega))); (try (have i_tb := Imp.go tb (by omega))); (try (have i_tb := Imp.go tb (by omega))); (try (have i_rd := Imp.go rd (by omega))); (try (have i_t37 := Imp.go t37 (by omega))); omega)) (fun d hd h1 => absurd h1 (xlp14_2 d (by rw [(nwh_ag agV13 ⟨rfl, fun _ => rfl, fun _ => rfl, fun _ => rfl, fun _ => rfl, fun _ => rfl, fun _ => rfl⟩).2] at hd; exact hd))) (show (V13 0 81).toInt + 192 * (cz V13 24 : Int) ≤ (4800) from by first | omega | ((try (have i_t37 := Imp.go t37 (by omega))); (try (have i_rd := Imp.go rd (by omega))); (try (have i_tb := Imp.go tb (by omega))); (try (have i_tb := Imp.go tb (by omega))); (try (have i_rd := Imp.go rd (by omega))); (try (have i_t37 := Imp.go t37 (by omega))); omega)) (show (4800) ≤ 999000 from by first | omega | ((try (have i_t37 := Imp.go t37 (by omega))); (try (have i_rd := Imp.go rd (by omega))); (try (have i_tb := Imp.go tb (by omega))); (try (have i_tb := Imp.go tb (by omega))); (try (have i_rd := Imp.go rd (by omega))); (try (have i_t37 := Imp.go t37 (by omega))); omega)) (by rw [(nwh_ag agV13 ⟨rfl, fun _ => rfl, fun _ => rfl, fun _ => rfl, fun _ => rfl, fun _ => rfl, fun _ => rfl⟩).2]; show y12.toInt < (V 19 (Int32.toNatClampNeg (V 0 11))).toInt; first | omega | ((try (have i_t37 := Imp.go t37 (by omega))); (try (have i_rd := Imp.go rd (by omega))); (try (have i_tb := Imp.go tb (by omega))); (try (have i_tb := Imp.go tb (by omega))); (try (have i_rd := Imp.go rd (by omega))); (try (have i_t37 := Imp.go t37 (by omega))); omega)) (TB.ag tb hMV agV13 rfl (by decide) (by decide))) w2187 w2189 w122 w172 w2190 rfl rfl hdV_yX12_visits ⟨Nat.le_of_ble_eq_true rfl, Nat.le_of_ble_eq_true rfl⟩ rfl hl.1 rfl (Nat.le_of_ble_eq_true rfl) dX12_check_117 ⟨Nat.le_of_ble_eq_true rfl, Nat.le_of_ble_eq_true rfl⟩) hP hD hK hS hA (fun u52 H locs w53 hP hD hK hS => ?_)
                  obtain ⟨V60, L61⟩ := u52
                  obtain ⟨hMV60, ajV60, axL61, t54, t55, t56, t57, t58, t59⟩ := w53
                  have axL61 : L = L61 := Eq.symm axL61
                  subst axL61
                  have hP : va_P D vwCl (mw ad kk ks.1 V60 L) H := hP
                  have hD : va_D A (mw ad kk ks.1 V60 L) := hD
                  have hMV60 : rgd bM V60 := hMV60
                  have ajV60 : agr [(0, 81), (0, 89)] [80, 82, 83, 84, 85, 87, 88] V13 V60 := ajV60
                  have agV60 : agr [(0, 0), (0, 54), (0, 81), (0, 89)] [80, 82, 83, 84, 85, 86, 87, 88] V V60 := agV13.tr ajV60 (by decide) (by decide)
                  have t54 : (V60 0 89).toInt = (V13 0 89).toInt := t54
                  have t55 : (cz V60 24 : Int) + 1 ≤ (cz V13 24 : Int) := t55
                  have t56 : (V60 0 81).toInt + 192 * (cz V60 24 : Int) ≤ (4800) := t56
                  have t57 : (V13 0 81).toInt ≤ (V60 0 81).toInt := t57
                  have t58 : visP V13 V60 := t58
                  have t59 : c0k V13 V60 := t59
                  have r62 : 0 ≤ ((V60 0 89)).toInt ∧ ((V60 0 89)).toInt ≤ 24 := hMV60 0 89
                  have r63 : 0 ≤ ((V60 0 81)).toInt ∧ ((V60 0 81)).toInt ≤ 1000000 := hMV60 0 81
                  obtain ⟨z64, ez64⟩ : ∃ y : Int32, y = y12 + 1 := ⟨_, rfl⟩
                  have hz64 : z64.toInt = y12.toInt + 1 := i_add ez64 rfl (by decide) (by omega)
                  refine lv_iinc (v := z64) (lv' := [(1, .int z64), (0, .ref (ad 0))]) hx hb dX12_check_120 hl (k := 0) rfl (by rw [ez64]; rfl) (by decide) rfl (fun ls hl => ?_)
                  refine lv_goto (tgt := 85) hx hb dX12_check_123 (by decide) ?_
                  have c065 : c0k V V60 := (c0k.tr (V := V) (W := V13) (X := V60) xlp14_3 t59 agV13 ⟨rfl, fun _ => rfl, fun _ => rfl, fun _ => rfl, fun _ => rfl, fun _ => rfl, fun _ => rfl⟩)
                  exact ihlp14 z64 V60 H locs ls (by first | omega | ((try (have i_t37 := Imp.go t37 (by omega))); (try (have i_rd := Imp.go rd (by omega))); (try (have i_tb := Imp.go tb (by omega))); (try (have i_tb := Imp.go tb (by omega))); (try (have i_rd := Imp.go rd (by omega))); (try (have i_t37 := Imp.go t37 (by omega))); omega)) (show (V60 0 89).toInt = 0 from by first | omega | ((try (have i_t37 := Imp.go t37 (by omega))); (try (have i_rd := Imp.go rd (by omega))); (try (have i_tb := Imp.go tb (by omega))); (try (have i_tb := Imp.go tb (by omega))); (try (have i_rd := Imp.go rd (by omega))); (try (have i_t37 := Imp.go t37 (by omega))); omega)) (show (V60 0 81).toInt + 192 * (cz V60 24 : Int) ≤ 4800 from by first | omega | ((try (have i_t37 := Imp.go t37 (by omega))); (try (have i_rd := Imp.go rd (by omega))); (try (have i_tb := Imp.go tb (by omega))); (try (have i_tb := Imp.go tb (by omega))); (try (have i_rd := Imp.go rd (by omega))); (try (have i_t37 := Imp.go t37 (by omega))); omega)) (fun d hd h1 => xlp14_2 d hd (t58.1 d h1)) c065 (Imp.mk (fun hp => DD.st (Imp.go xlp14_4 (by omega)) ajV60 ⟨rfl, fun _ => rfl, fun _ => rfl, fun _ => rfl, fun _ => rfl, fun _ => rfl, fun _ => rfl⟩ t59)) (by first | omega | ((try (have i_t37 := Imp.go t37 (by omega))); (try (have i_rd := Imp.go rd (by omega))); (try (have i_tb := Imp.go tb (by omega))); (try (have i_tb := Imp.go tb (by omega))); (try (have i_rd := Imp.go rd (by omega))); (try (have i_t37 := Imp.go t37 (by omega))); omega)) (agr.tr (agr.tr agr.rf ajV13 (by decide) (by decide)) ajV60 (by decide) (by decide)) hMV60 hP hD hS (lv_sub hl [0, 1] rfl)
        have r66 : Int32.toInt 0 = 0 := by decide
        have pq67 : (V11 0 89).toInt = 0 := (congrArg Int32.toInt (up2_s hV11)).trans (by decide)
        have cz68 : cz V11 24 = cz V4 24 := cz_o hV11 (by decide)
        have pq69 : (V11 0 81).toInt = ((V4 0 81)).toInt := congrArg Int32.toInt (up2_k hV11 (by decide))
        have e19c : (V 19 (nwh V)).toInt = (V 19 (Int32.toNatClampNeg (V 0 11))).toInt := rfl
        have c070 : c0k V V11 := (c0k.tr (V := V) (W := V4) (X := V11) xlp5_3 (Or.inl (up2_o hV11 (by decide))) agV4 ⟨rfl, fun _ => rfl, fun _ => rfl, fun _ => rfl, fun _ => rfl, fun _ => rfl, fun _ => rfl⟩)
        exact lp14 ((24 - (Int32.toInt 0) + 1 : Int).toNat) 0 V11 H locs ls (by decide) (show (V11 0 89).toInt = 0 from by first | omega | ((try (have i_rd := Imp.go rd (by omega))); (try (have i_tb := Imp.go tb (by omega))); (try (have i_tb := Imp.go tb (by omega))); (try (have i_rd := Imp.go rd (by omega))); omega)) (show (V11 0 81).toInt + 192 * (cz V11 24 : Int) ≤ 4800 from by first | omega | ((try (have i_rd := Imp.go rd (by omega))); (try (have i_tb := Imp.go tb (by omega))); (try (have i_tb := Imp.go tb (by omega))); (try (have i_rd := Imp.go rd (by omega))); omega)) (fun d hd h1 => by rw [(show agr [(0, 89)] [] V4 V11 from (agr.up agr.rf hV11 rfl)) 87 _ rfl] at h1; have h9 := xlp5_1 d (by omega); omega) c070 (Imp.mk (fun hp => DD.le (DD.st (Imp.go xlp5_2 (by omega)) (show agr [(0, 89)] [] V4 V11 from (agr.up agr.rf hV11 rfl)) ⟨rfl, fun _ => rfl, fun _ => rfl, fun _ => rfl, fun _ => rfl, fun _ => rfl, fun _ => rfl⟩ (c0k.ag (show agr [(0, 89)] [] V4 V11 from (agr.up agr.rf hV11 rfl)) rfl)) (by omega))) (by first | omega | ((try (have i_rd := Imp.go rd (by omega))); (try (have i_tb := Imp.go tb (by omega))); (try (have i_tb := Imp.go tb (by omega))); (try (have i_rd := Imp.go rd (by omega))); omega)) agr.rf hMV11 hP hD hS (lv_sub hl [0, 1] rfl)
      · skip
        have f71 : y3.toInt < ((V 19 (Int32.toNatClampNeg (V 0 11)))).toInt := b_nle rfl rfl c9
        refine lv_aload_n hx hb dX12_check_25 rfl (lv_at hl 1 rfl) ?_
        refine va_get (D := D) (ci := 12) (v := .ref (ad 87)) (C := RX12) (T := TX12) (N := 100) hx hb hg inX12 hown hK hP 0 rfl rfl 87 (by decide) (hg _ w1793) (fun _ h9 => h9) rfl dX12_check_26 ?_
        refine lv_iload_n hx hb dX12_check_29 rfl (lv_at hl 0 rfl) ?_
        refine lv_iconst (v := 0) hx hb dX12_check_30 (by decide) ?_
        refine va_iast (D := D) (i := y3) (x := 0) hx hb hK hP hD hS 63 62 rfl rfl (i_in (a := y3.toInt) rfl (by first | omega | ((try (have i_rd := Imp.go rd (by omega))); (try (have i_tb := Imp.go tb (by omega))); (try (have i_tb := Imp.go tb (by omega))); (try (have i_rd := Imp.go rd (by omega))); omega))) dX12_check_31 (fun H locs hP hD hS => ?_)
        obtain ⟨V72, hV72⟩ : ∃ z, z = up2 V4 87 (Int32.toNatClampNeg y3) 0 := ⟨_, rfl⟩
        have hP : va_P D vwCl (mw ad kk ks.1 V72 L) H := by rw [hV72]; exact hP
        have hD : va_D A (mw ad kk ks.1 V72 L) := by rw [hV72]; exact hD
        have hMV72 : rgd bM V72 := hMV4.put hV72 (show 0 ≤ Int32.toInt 0 ∧ Int32.toInt 0 ≤ 2 from by decide)
        have agV72 : agr [(0, 0), (0, 54), (0, 81), (0, 89)] [80, 82, 83, 84, 85, 86, 87, 88] V V72 := agV4.up hV72 rfl
        refine lv_iconst (v := 0) hx hb dX12_check_32 (by decide) ?_
        refine lv_istore_n (lv' := [(2, .int 0), (1, .int y3), (0, .ref (ad 0))]) hx hb dX12_check_33 rfl hl (by decide) rfl (fun ls hl => ?_)
        have lp75 : ∀ (fulp75 : Nat) (y73 : Int32) (V74 : Vf) (H : Heap) (locs : List Loc) (ls : Array Slot), 0 ≤ y73.toInt ∧ y73.toInt ≤ 8 → (V74 0 81).toInt ≤ 8 * y3.toInt + y73.toInt → (∀ d : Nat, (d : Int) < y3.toInt + 1 → (V74 87 d).toInt = 0) → Imp ((V74 0 81).toInt = 0) (DD V74 y3.toInt y73.toInt) → c0k V V74 → 8 - y73.toInt < (fulp75 : Int) → agr [(0, 81)] [80, 82, 83, 84, 86] V72 V74 → rgd bM V74 → va_P D vwCl (mw ad kk ks.1 V74 L) H → va_D A (mw ad kk ks.1 V74 L) → va_S A s.heap H locs → lv_has ls 3 [(2, .int y73), (1, .int y3), (0, .ref (ad 0))] → W p l e r_s_check2 s m ([.ref (ad 0)] : List Value).toArray below meth c H locs 0 0 (MQ below (q_s_check2 D ks ad kk V L  A) ([.ref (ad 0)] : List Value).toArray s 0 0 A) (F0 m 34 ls []) := by
          intro fulp75
          induction fulp75 with
          | zero =>
            intro y73 V74 H locs ls klp75_0 xlp75_0 xlp75_1 xlp75_2 xlp75_3 hn ajV74 hMV74 hP hD hS hl
            exfalso; omega
          | succ fulp75 ihlp75 =>
            intro y73 V74 H locs ls klp75_0 xlp75_0 xlp75_1 xlp75_2 xlp75_3 hn ajV74 hMV74 hP hD hS hl
            have agV74 : agr [(0, 0), (0, 54), (0, 81), (0, 89)] [80, 82, 83, 84, 85, 86, 87, 88] V V74 := agV72.tr ajV74 (by decide) (by decide)
            have r76 : 0 ≤ ((V74 0 81)).toInt ∧ ((V74 0 81)).toInt ≤ 1000000 := hMV74 0 81
            refine lv_iload_n hx hb dX12_check_34 rfl (lv_at hl 0 rfl) ?_
            refine lv_aload_n hx hb dX12_check_35 rfl (lv_at hl 2 rfl) ?_
            refine va_get (D := D) (ci := 12) (v := .ref (ad 27)) (C := RX12) (T := TX12) (N := 100) hx hb hg inX12 hown hK hP 0 rfl rfl 27 (by decide) (hg _ w1733) (fun _ h9 => h9) rfl dX12_check_36 ?_
            refine lv_bipush (v := 24) hx hb dX12_check_39 (by decide) ?_
            refine lv_aload_n hx hb dX12_check_41 rfl (lv_at hl 2 rfl) ?_
            refine va_get (D := D) (ci := 12) (v := .int (V74 0 11)) (C := RX12) (T := TX12) (N := 100) hx hb hg inX12 hown hK hP 0 rfl rfl 11 (by decide) (hg _ w1717) (fun _ h9 => h9) rfl dX12_check_42 ?_
            refine g_top (v := (V 0 11)) ((ajV74 0 11 rfl).trans ((up2_o hV72 (by decide)).trans ((ajV4 0 11 rfl).trans ((up2_k hV2 (by decide)).trans (up2_k hV1 (by decide)))))) ?_
            refine lv_imul hx hb dX12_check_45 ?_
            refine lv_topi (fun z77 ez77 => ?_)
            have hz77 : z77.toInt = 24 * ((V 0 11)).toInt := i_mul ez77 (by decide) rfl (by omega)
            refine lv_iload_n hx hb dX12_check_46 rfl (lv_at hl 1 rfl) ?_
            refine lv_iadd hx hb dX12_check_47 ?_
            refine lv_topi (fun z78 ez78 => ?_)
            have hz78 : z78.toInt = z77.toInt + y3.toInt := i_add ez78 rfl rfl (by omega)
            refine va_iald (D := D) (i := z78) hx hb hK hP 20 19 rfl rfl (i_in (a := z78.toInt) rfl (by first | omega | ((try (have i_rd := Imp.go rd (by omega))); (try (have i_tb := Imp.go tb (by omega))); (try (have i_tb := Imp.go tb (by omega))); (try (have i_rd := Imp.go rd (by omega))); omega))) dX12_check_48 ?_
            refine g_top (v := (V 27 (Int32.toNatClampNeg z78))) ((ajV74 27 (Int32.toNatClampNeg z78) rfl).trans ((up2_o hV72 (by decide)).trans ((ajV4 27 (Int32.toNatClampNeg z78) rfl).trans ((up2_o hV2 (by decide)).trans (up2_o hV1 (by decide)))))) ?_
            have r79 : 0 ≤ ((V 27 (Int32.toNatClampNeg z78))).toInt ∧ ((V 27 (Int32.toNatClampNeg z78))).toInt ≤ 8 := hMV 27 (Int32.toNatClampNeg z78)
            refine lv_icmp_ge (tgt := 72) hx hb dX12_check_49 (by decide) (fun c80 => ?_) (fun c80 => ?_)
            · skip
              have f81 : ((V 27 (Int32.toNatClampNeg z78))).toInt ≤ y73.toInt := b_le rfl rfl c80
              have kn : (nwh V : Int) = (V 0 11).toInt := i_clamp (x := V 0 11) rfl (by omega)
              have kl1 := i_clamp (x := y3) rfl (by omega)
              have e19b : (V 19 (nwh V)).toInt = (V 19 (Int32.toNatClampNeg (V 0 11))).toInt := rfl
              have ki : Int32.toNatClampNeg z78 = 24 * nwh V + Int32.toNatClampNeg y3 := by have h9 := i_clamp (x := z78) rfl (by omega); omega
              have q27 : (V 27 (24 * nwh V + Int32.toNatClampNeg y3)).toInt = (V 27 (Int32.toNatClampNeg z78)).toInt := by rw [ki]
              obtain ⟨z82, ez82⟩ : ∃ y : Int32, y = y3 + 1 := ⟨_, rfl⟩
              have hz82 : z82.toInt = y3.toInt + 1 := i_add ez82 rfl (by decide) (by omega)
              refine lv_iinc (v := z82) (lv' := [(1, .int z82), (2, .int y73), (0, .ref (ad 0))]) hx hb dX12_check_72 hl (k := 1) rfl (by rw [ez82]; rfl) (by decide) rfl (fun ls hl => ?_)
              refine lv_goto (tgt := 12) hx hb dX12_check_75 (by decide) ?_
              have c083 : c0k V V74 := xlp75_3
              exact ihlp5 z82 V74 H locs ls (by first | omega | ((try (have i_rd := Imp.go rd (by omega))); (try (have i_tb := Imp.go tb (by omega))); (try (have i_tb := Imp.go tb (by omega))); (try (have i_rd := Imp.go rd (by omega))); omega)) (show (V74 0 81).toInt ≤ 8 * z82.toInt from by first | omega | ((try (have i_rd := Imp.go rd (by omega))); (try (have i_tb := Imp.go tb (by omega))); (try (have i_tb := Imp.go tb (by omega))); (try (have i_rd := Imp.go rd (by omega))); omega)) (fun d hd => xlp75_1 d (by omega)) (Imp.mk (fun hp => by have h9 := DD.up1 (c := Int32.toNatClampNeg y3) (Imp.go xlp75_2 hp) (by omega) (Or.inl (by rw [(nwh_ag agV74 ⟨rfl, fun _ => rfl, fun _ => rfl, fun _ => rfl, fun _ => rfl, fun _ => rfl, fun _ => rfl⟩).1, agV74 27 _ rfl]; omega)); have e9 : z82.toInt = y3.toInt + 1 := (by omega); rw [e9]; exact h9)) c083 (by first | omega | ((try (have i_rd := Imp.go rd (by omega))); (try (have i_tb := Imp.go tb (by omega))); (try (have i_tb := Imp.go tb (by omega))); (try (have i_rd := Imp.go rd (by omega))); omega)) (agr.tr (agr.up (agr.tr agr.rf ajV4 (by decide) (by decide)) hV72 rfl) ajV74 (by decide) (by decide)) hMV74 hP hD hS (lv_sub hl [0, 2] rfl)
            · skip
              have f84 : y73.toInt < ((V 27 (Int32.toNatClampNeg z78))).toInt := b_nle rfl rfl c80
              have kn : (nwh V : Int) = (V 0 11).toInt := i_clamp (x := V 0 11) rfl (by omega)
              have kl1 := i_clamp (x := y3) rfl (by omega)
              have e19b : (V 19 (nwh V)).toInt = (V 19 (Int32.toNatClampNeg (V 0 11))).toInt := rfl
              have ki : Int32.toNatClampNeg z78 = 24 * nwh V + Int32.toNatClampNeg y3 := by have h9 := i_clamp (x := z78) rfl (by omega); omega
              have q27 : (V 27 (24 * nwh V + Int32.toNatClampNeg y3)).toInt = (V 27 (Int32.toNatClampNeg z78)).toInt := by rw [ki]
              refine lv_aload_n hx hb dX12_check_52 rfl (lv_at hl 2 rfl) ?_
              refine lv_iload_n hx hb dX12_check_53 rfl (lv_at hl 1 rfl) ?_
              refine gA_int (gA_runV (As := [.int y3]) (rest := []) (ci := 12) (q0 := 0) hx hb hml hown hg hP hD hK hS hA hnw hgk (s_isThere2 l D ks H.size ad kk V74 L y3 hMV74 ) w2164 w2166 w117 w172 w2167 rfl rfl hdV_yX12_isThere ⟨Nat.le_of_ble_eq_true rfl, Nat.le_of_ble_eq_true rfl⟩ rfl hl.1 rfl (Nat.le_of_ble_eq_true rfl) dX12_check_54 ⟨Nat.le_of_ble_eq_true rfl, Nat.le_of_ble_eq_true rfl⟩) hP hD hK hS hA (fun z85 u86 H locs w87 hP hD hK hS => ?_)
              obtain ⟨rgz85, t88, t89, t90⟩ := w87
              have rgz85 : 0 ≤ z85.toInt ∧ z85.toInt ≤ 1 := rgz85
              have t88 : Imp (z85.toInt = 1) (0 ≤ y3.toInt ∧ y3.toInt ≤ 23) := t88
              have t89 : Imp (z85.toInt = 1) (th V74 (Int32.toNatClampNeg y3)) := t89
              have t90 : Imp (z85.toInt = 0) (0 ≤ y3.toInt → ¬ th V74 (Int32.toNatClampNeg y3)) := t90
              refine lv_if_eq (tgt := 72) hx hb dX12_check_57 (by decide) (fun c91 => ?_) (fun c91 => ?_)
              · skip
                have f92 : z85.toInt = 0 := b_eq rfl (by decide) c91
                obtain ⟨z93, ez93⟩ : ∃ y : Int32, y = y3 + 1 := ⟨_, rfl⟩
                have hz93 : z93.toInt = y3.toInt + 1 := i_add ez93 rfl (by decide) (by omega)
                refine lv_iinc (v := z93) (lv' := [(1, .int z93), (2, .int y73), (0, .ref (ad 0))]) hx hb dX12_check_72 hl (k := 1) rfl (by rw [ez93]; rfl) (by decide) rfl (fun ls hl => ?_)
                refine lv_goto (tgt := 12) hx hb dX12_check_75 (by decide) ?_
                have c094 : c0k V V74 := xlp75_3
                exact ihlp5 z93 V74 H locs ls (by first | omega | ((try (have i_t88 := Imp.go t88 (by omega))); (try (have i_rd := Imp.go rd (by omega))); (try (have i_tb := Imp.go tb (by omega))); (try (have i_tb := Imp.go tb (by omega))); (try (have i_rd := Imp.go rd (by omega))); (try (have i_t88 := Imp.go t88 (by omega))); omega)) (show (V74 0 81).toInt ≤ 8 * z93.toInt from by first | omega | ((try (have i_t88 := Imp.go t88 (by omega))); (try (have i_rd := Imp.go rd (by omega))); (try (have i_tb := Imp.go tb (by omega))); (try (have i_tb := Imp.go tb (by omega))); (try (have i_rd := Imp.go rd (by omega))); (try (have i_t88 := Imp.go t88 (by omega))); omega)) (fun d hd => xlp75_1 d (by omega)) (Imp.mk (fun hp => by have h9 := DD.up1 (c := Int32.toNatClampNeg y3) (Imp.go xlp75_2 hp) (by omega) (Or.inr ((Imp.go t90 (by omega)) (by omega))); have e9 : z93.toInt = y3.toInt + 1 := (by omega); rw [e9]; exact h9)) c094 (by first | omega | ((try (have i_t88 := Imp.go t88 (by omega))); (try (have i_rd := Imp.go rd (by omega))); (try (have i_tb := Imp.go tb (by omega))); (try (have i_tb := Imp.go tb (by omega))); (try (have i_rd := Imp.go rd (by omega))); (try (have i_t88 := Imp.go t88 (by omega))); omega)) (agr.tr (agr.up (agr.tr agr.rf ajV4 (by decide) (by decide)) hV72 rfl) ajV74 (by decide) (by decide)) hMV74 hP hD hS (lv_sub hl [0, 2] rfl)
              · skip
                have f95 : z85.toInt ≠ 0 := b_neq rfl (by decide) c91
                refine lv_aload_n hx hb dX12_check_60 rfl (lv_at hl 2 rfl) ?_
                refine lv_iload_n hx hb dX12_check_61 rfl (lv_at hl 1 rfl) ?_
                refine lv_iload_n hx hb dX12_check_62 rfl (lv_at hl 0 rfl) ?_
                have kl2 := i_clamp (x := y73) rfl (by omega)
                have cok := (show TBL V (nwh V) _ from tb).1 (Int32.toNatClampNeg y3) (by omega)
                refine gA_void (gA_runV (As := [.int y3, .int y73]) (rest := []) (ci := 12) (q0 := 0) hx hb hml hown hg hP hD hK hS hA hnw hgk (s_checkNeed2 l D ks H.size ad kk V74 L y3 y73 hMV74 (by first | omega | ((try (have i_t88 := Imp.go t88 (by omega))); (try (have i_rd := Imp.go rd (by omega))); (try (have i_tb := Imp.go tb (by omega))); (try (have i_tb := Imp.go tb (by omega))); (try (have i_rd := Imp.go rd (by omega))); (try (have i_t88 := Imp.go t88 (by omega))); omega)) (by first | omega | ((try (have i_t88 := Imp.go t88 (by omega))); (try (have i_rd := Imp.go rd (by omega))); (try (have i_tb := Imp.go tb (by omega))); (try (have i_tb := Imp.go tb (by omega))); (try (have i_rd := Imp.go rd (by omega))); (try (have i_t88 := Imp.go t88 (by omega))); omega)) (by rw [(nwh_ag agV74 ⟨rfl, fun _ => rfl, fun _ => rfl, fun _ => rfl, fun _ => rfl, fun _ => rfl, fun _ => rfl⟩).1, agV74 28 _ rfl]; exact (cok.2.2.2 (Int32.toNatClampNeg y73) (by omega)).1) (show (V74 0 81).toInt ≤ 999999 from by first | omega | ((try (have i_t88 := Imp.go t88 (by omega))); (try (have i_rd := Imp.go rd (by omega))); (try (have i_tb := Imp.go tb (by omega))); (try (have i_tb := Imp.go tb (by omega))); (try (have i_rd := Imp.go rd (by omega))); (try (have i_t88 := Imp.go t88 (by omega))); omega))) w2168 w2170 w118 w172 w2171 rfl rfl hdV_yX12_checkNeed ⟨Nat.le_of_ble_eq_true rfl, Nat.le_of_ble_eq_true rfl⟩ rfl hl.1 rfl (Nat.le_of_ble_eq_true rfl) dX12_check_63 ⟨Nat.le_of_ble_eq_true rfl, Nat.le_of_ble_eq_true rfl⟩) hP hD hK hS hA (fun u97 H locs w98 hP hD hK hS => ?_)
                obtain ⟨V103, L104⟩ := u97
                obtain ⟨hMV103, ajV103, axL104, t99, t100, t101, t102⟩ := w98
                have axL104 : L = L104 := Eq.symm axL104
                subst axL104
                have hP : va_P D vwCl (mw ad kk ks.1 V103 L) H := hP
                have hD : va_D A (mw ad kk ks.1 V103 L) := hD
                have hMV103 : rgd bM V103 := hMV103
                have ajV103 : agr [(0, 81)] [80, 82, 83, 84, 86] V74 V103 := ajV103
                have agV103 : agr [(0, 0), (0, 54), (0, 81), (0, 89)] [80, 82, 83, 84, 85, 86, 87, 88] V V103 := agV74.tr ajV103 (by decide) (by decide)
                have t99 : (V103 0 81).toInt ≤ (V74 0 81).toInt + 1 := t99
                have t100 : (V74 0 81).toInt ≤ (V103 0 81).toInt := t100
                have t101 : c0k V74 V103 := t101
                have t102 : Imp ((V103 0 81).toInt = (V74 0 81).toInt) (1 ≤ (V74 30 (8 * (24 * nwh V74 + Int32.toNatClampNeg y3) + Int32.toNatClampNeg y73)).toInt ∨ th V74 (cd0 V103)) := t102
                have r105 : 0 ≤ ((V103 0 81)).toInt ∧ ((V103 0 81)).toInt ≤ 1000000 := hMV103 0 81
                obtain ⟨z106, ez106⟩ : ∃ y : Int32, y = y73 + 1 := ⟨_, rfl⟩
                have hz106 : z106.toInt = y73.toInt + 1 := i_add ez106 rfl (by decide) (by omega)
                refine lv_iinc (v := z106) (lv' := [(2, .int z106), (1, .int y3), (0, .ref (ad 0))]) hx hb dX12_check_66 hl (k := 0) rfl (by rw [ez106]; rfl) (by decide) rfl (fun ls hl => ?_)
                refine lv_goto (tgt := 34) hx hb dX12_check_69 (by decide) ?_
                have c0107 : c0k V V103 := (c0k.tr (V := V) (W := V74) (X := V103) xlp75_3 t101 agV74 ⟨rfl, fun _ => rfl, fun _ => rfl, fun _ => rfl, fun _ => rfl, fun _ => rfl, fun _ => rfl⟩)
                exact ihlp75 z106 V103 H locs ls (by first | omega | ((try (have i_t88 := Imp.go t88 (by omega))); (try (have i_rd := Imp.go rd (by omega))); (try (have i_tb := Imp.go tb (by omega))); (try (have i_tb := Imp.go tb (by omega))); (try (have i_rd := Imp.go rd (by omega))); (try (have i_t88 := Imp.go t88 (by omega))); omega)) (show (V103 0 81).toInt ≤ 8 * y3.toInt + z106.toInt from by first | omega | ((try (have i_t88 := Imp.go t88 (by omega))); (try (have i_rd := Imp.go rd (by omega))); (try (have i_tb := Imp.go tb (by omega))); (try (have i_tb := Imp.go tb (by omega))); (try (have i_rd := Imp.go rd (by omega))); (try (have i_t88 := Imp.go t88 (by omega))); omega)) (fun d hd => by rw [(show agr [(0, 81)] [80, 82, 83, 84, 86] V74 V103 from (agr.tr agr.rf ajV103 (by decide) (by decide))) 87 _ rfl]; exact xlp75_1 d (by omega)) (Imp.mk (fun hp => by have h9 := DD.nx (c := Int32.toNatClampNeg y3) (j := Int32.toNatClampNeg y73) (Imp.go xlp75_2 (by omega)) t101 ajV103 ⟨rfl, fun _ => rfl, fun _ => rfl, fun _ => rfl, fun _ => rfl, fun _ => rfl, fun _ => rfl⟩ (Imp.go t102 (by omega)) (by have h8 := cOK.ag cok hMV agV74 (fun _ _ _ => ⟨agV74 _ _ rfl, agV74 _ _ rfl, agV74 _ _ rfl⟩) (Nat.le_refl _) (fun _ => rfl) (fun _ => rfl) (fun _ => rfl) (fun _ => rfl) (fun _ => rfl) (fun _ => rfl) (fun _ => rfl); rw [(nwh_ag agV74 ⟨rfl, fun _ => rfl, fun _ => rfl, fun _ => rfl, fun _ => rfl, fun _ => rfl, fun _ => rfl⟩).1]; exact h8) (by omega) (by omega); have e9 : z106.toInt = y73.toInt + 1 := (by omega); rw [e9]; exact h9)) c0107 (by first | omega | ((try (have i_t88 := Imp.go t88 (by omega))); (try (have i_rd := Imp.go rd (by omega))); (try (have i_tb := Imp.go tb (by omega))); (try (have i_tb := Imp.go tb (by omega))); (try (have i_rd := Imp.go rd (by omega))); (try (have i_t88 := Imp.go t88 (by omega))); omega)) (agr.tr (agr.tr agr.rf ajV74 (by decide) (by decide)) ajV103 (by decide) (by decide)) hMV103 hP hD hS (lv_sub hl [0, 1, 2] rfl)
        have r108 : Int32.toInt 0 = 0 := by decide
        have pq109 : (V72 0 81).toInt = ((V4 0 81)).toInt := congrArg Int32.toInt (up2_o hV72 (by decide))
        have kz9 := i_clamp (x := y3) rfl (by omega)
        have c0110 : c0k V V72 := (c0k.tr (V := V) (W := V4) (X := V72) xlp5_3 (Or.inl (up2_o hV72 (by decide))) agV4 ⟨rfl, fun _ => rfl, fun _ => rfl, fun _ => rfl, fun _ => rfl, fun _ => rfl, fun _ => rfl⟩)
        exact lp75 ((8 - (Int32.toInt 0) + 1 : Int).toNat) 0 V72 H locs ls (by decide) (show (V72 0 81).toInt ≤ 8 * y3.toInt + (Int32.toInt 0) from by first | omega | ((try (have i_rd := Imp.go rd (by omega))); (try (have i_tb := Imp.go tb (by omega))); (try (have i_tb := Imp.go tb (by omega))); (try (have i_rd := Imp.go rd (by omega))); omega)) (fun d hd => by rcases Decidable.em (d = Int32.toNatClampNeg y3) with hk | hk; (rw [hk, up2_s hV72]; decide); (rw [up2_k hV72 hk]; exact xlp5_1 d (by omega))) (Imp.mk (fun hp => DD.st (Imp.go xlp5_2 (by omega)) (show agr [] [87] V4 V72 from (agr.up agr.rf hV72 rfl)) ⟨rfl, fun _ => rfl, fun _ => rfl, fun _ => rfl, fun _ => rfl, fun _ => rfl, fun _ => rfl⟩ (c0k.ag (show agr [] [87] V4 V72 from (agr.up agr.rf hV72 rfl)) rfl))) c0110 (by first | omega | ((try (have i_rd := Imp.go rd (by omega))); (try (have i_tb := Imp.go tb (by omega))); (try (have i_tb := Imp.go tb (by omega))); (try (have i_rd := Imp.go rd (by omega))); omega)) agr.rf hMV72 hP hD hS (lv_sub hl [0, 1, 2] rfl)
  have r111 : Int32.toInt 0 = 0 := by decide
  have pq112 : (V2 0 81).toInt = 0 := (congrArg Int32.toInt (up2_s hV2)).trans (by decide)
  have c0113 : c0k V V2 := (c0k.tr (V := V) (W := V1) (X := V2) (c0k.tr (V := V) (W := V) (X := V1) c0k.rf (Or.inl (up2_o hV1 (by decide))) agV ⟨rfl, fun _ => rfl, fun _ => rfl, fun _ => rfl, fun _ => rfl, fun _ => rfl, fun _ => rfl⟩) (Or.inl (up2_o hV2 (by decide))) agV1 ⟨rfl, fun _ => rfl, fun _ => rfl, fun _ => rfl, fun _ => rfl, fun _ => rfl, fun _ => rfl⟩)
  exact lp5 ((24 - (Int32.toInt 0) + 1 : Int).toNat) 0 V2 H locs ls (by decide) (show (V2 0 81).toInt ≤ 8 * (Int32.toInt 0) from by first | omega | ((try (have i_rd := Imp.go rd (by omega))); (try (have i_tb := Imp.go tb (by omega))); (try (have i_tb := Imp.go tb (by omega))); (try (have i_rd := Imp.go rd (by omega))); omega)) (fun d hd => absurd hd (by omega)) (Imp.mk (fun _ => DD.z (by omega))) c0113 (by first | omega | ((try (have i_rd := Imp.go rd (by omega))); (try (have i_tb := Imp.go tb (by omega))); (try (have i_tb := Imp.go tb (by omega))); (try (have i_rd := Imp.go rd (by omega))); omega)) agr.rf hMV2 hP hD hS (lv_sub hl [0, 1] rfl)
