/-! wraps and methods of an object, at a later version -/
theorem isWb_ag {fs : List (Nat × Nat)} {cs : List Nat} {V W : Vf} {o m ph : Int32} (a : agr fs cs V W) (h0 : wrL fs cs 0 11 = false) (h1 : ∀ y ∈ fs, y.1 = 0) (h2 : ∀ y ∈ cs, trk y = false) (e : W 61 (Int32.toNatClampNeg o) = V 61 (Int32.toNatClampNeg o)) : isWb W o m ph = isWb V o m ph ∧ wmany W = wmany V := by
  have en : nwh W = nwh V := by unfold nwh; rw [a 0 11 h0]
  have hc : ∀ x k, trk x = true → W x k = V x k := fun x k ht => a x k (trk_wr h1 (by
    rw [← Bool.not_eq_true]
    intro q
    rw [h2 _ (List.contains_iff_mem.mp q)] at ht
    cases ht) ht)
  refine ⟨?_, ?_⟩
  · funext j
    unfold isWb
    rw [en, e, hc 41 _ rfl, hc 43 _ rfl, hc 40 _ rfl, hc 21 _ rfl]
  · unfold wmany
    rw [en, hc 39 _ rfl]
theorem CE.lt {nd : Int} {ar : Bool} {V : Vf} {lo hi a : Nat} (h : CE nd ar V lo hi a) : a < hi := by
  obtain ⟨_, f, q⟩ := h
  cases f with
  | zero => exact q.elim
  | succ f => exact q.2.1
/-- a wrap's E, by its phase -/
theorem TB.wrapE {V : Vf} {o m ph : Int32} {w : Nat} (t : TB V) (hw : (w : Int) < (V 39 (nwh V)).toInt) (b : isWb V o m ph w = true) {ar : Bool} (har : decide (ph.toInt = 1) = ar) : 0 ≤ (V 44 (12 * nwh V + w)).toInt ∧ CE 0 ar V (10000 * nwh V) (10000 * nwh V + 10000) (V 44 (12 * nwh V + w)).toInt.toNat := by
  have q := (show TBL V (nwh V) _ from t).2 w hw
  have b2 := of_decide_eq_true b
  refine ⟨q.1, ?_⟩
  have c := q.2.1
  rw [b2.2.1, har] at c
  exact c
/-- a component's E -/
theorem TB.compE {V : Vf} {c : Nat} (t : TB V) (h : th V c) : cOK V (10000 * nwh V) (10000 * nwh V + 10000) (24 * nwh V + c) := (show TBL V (nwh V) _ from t).1 c h.1
theorem CE.at {nd : Int} {ar : Bool} {V : Vf} {lo hi : Nat} {x : Int32} (h : CE nd ar V lo hi x.toInt.toNat) : CE nd ar V lo hi (Int32.toNatClampNeg x) := h

theorem w2271 : Cond.code yX12_works cX12_works 6 (some .int) ∈ GW := gw_mem 2271 (by decide +kernel) rfl
theorem w2268 : Cond.methodLink RX12 503 yX12_works ∈ GW := gw_mem 2268 (by decide +kernel) rfl
theorem w2270 : Cond.instanceMethod yX12_works ∈ GW := gw_mem 2270 (by decide +kernel) rfl
theorem w136 : Cond.selects RX12 yX12_works yX12_works ∈ GW := gw_mem 136 (by decide +kernel) rfl
theorem hdV_yX12_works : yX12_works.cls = RX12 ∧ yX12_works.cls ≠ "java/lang/invoke/MethodHandle" ∧ yX12_works.cls ≠ "java/lang/invoke/VarHandle" ∧ (parseMethodDescriptor yX12_works.desc).map (fun d => d.parameters.length) = some 5 := by decide +kernel
theorem dX12_closes_0 : decode cX12_closes 0 = .ok (.bipush 24, 2) := by decide +kernel
theorem dX12_closes_2 : decode cX12_closes 2 = .ok (.aload_n 0, 1) := by decide +kernel
theorem dX12_closes_3 : decode cX12_closes 3 = .ok (.getfield 286, 3) := by decide +kernel
theorem dX12_closes_6 : decode cX12_closes 6 = .ok (.imul, 1) := by decide +kernel
theorem dX12_closes_7 : decode cX12_closes 7 = .ok (.aload_n 0, 1) := by decide +kernel
theorem dX12_closes_8 : decode cX12_closes 8 = .ok (.getfield 164, 3) := by decide +kernel
theorem dX12_closes_11 : decode cX12_closes 11 = .ok (.iload_n 1, 1) := by decide +kernel
theorem dX12_closes_12 : decode cX12_closes 12 = .ok (.iaload, 1) := by decide +kernel
theorem dX12_closes_13 : decode cX12_closes 13 = .ok (.iadd, 1) := by decide +kernel
theorem dX12_closes_14 : decode cX12_closes 14 = .ok (.istore_n 2, 1) := by decide +kernel
theorem dX12_closes_15 : decode cX12_closes 15 = .ok (.iconst 0, 1) := by decide +kernel
theorem dX12_closes_16 : decode cX12_closes 16 = .ok (.istore_n 3, 1) := by decide +kernel
theorem dX12_closes_17 : decode cX12_closes 17 = .ok (.aload_n 0, 1) := by decide +kernel
theorem dX12_closes_18 : decode cX12_closes 18 = .ok (.getfield 104, 3) := by decide +kernel
theorem dX12_closes_21 : decode cX12_closes 21 = .ok (.iload_n 2, 1) := by decide +kernel
theorem dX12_closes_22 : decode cX12_closes 22 = .ok (.iaload, 1) := by decide +kernel
theorem dX12_closes_23 : decode cX12_closes 23 = .ok (.ifCond .lt 23, 3) := by decide +kernel
theorem dX12_closes_46 : decode cX12_closes 46 = .ok (.aload_n 0, 1) := by decide +kernel
theorem dX12_closes_47 : decode cX12_closes 47 = .ok (.getfield 417, 3) := by decide +kernel
theorem dX12_closes_50 : decode cX12_closes 50 = .ok (.sipush 300, 3) := by decide +kernel
theorem dX12_closes_53 : decode cX12_closes 53 = .ok (.if_icmp .ge 56, 3) := by decide +kernel
theorem dX12_closes_109 : decode cX12_closes 109 = .ok (.aload_n 0, 1) := by decide +kernel
theorem dX12_closes_110 : decode cX12_closes 110 = .ok (.dup, 1) := by decide +kernel
theorem dX12_closes_111 : decode cX12_closes 111 = .ok (.getfield 417, 3) := by decide +kernel
theorem dX12_closes_114 : decode cX12_closes 114 = .ok (.iconst 1, 1) := by decide +kernel
theorem dX12_closes_115 : decode cX12_closes 115 = .ok (.iadd, 1) := by decide +kernel
theorem dX12_closes_116 : decode cX12_closes 116 = .ok (.putfield 417, 3) := by decide +kernel
theorem dX12_closes_119 : decode cX12_closes 119 = .ok (.aload_n 0, 1) := by decide +kernel
theorem dX12_closes_120 : decode cX12_closes 120 = .ok (.getfield 170, 3) := by decide +kernel
theorem dX12_closes_123 : decode cX12_closes 123 = .ok (.iload_n 1, 1) := by decide +kernel
theorem dX12_closes_124 : decode cX12_closes 124 = .ok (.iconst 2, 1) := by decide +kernel
theorem dX12_closes_125 : decode cX12_closes 125 = .ok (.iastore, 1) := by decide +kernel
theorem dX12_closes_126 : decode cX12_closes 126 = .ok (.iload_n 3, 1) := by decide +kernel
theorem dX12_closes_127 : decode cX12_closes 127 = .ok (.iconst 2, 1) := by decide +kernel
theorem dX12_closes_128 : decode cX12_closes 128 = .ok (.if_icmp .ne 7, 3) := by decide +kernel
theorem dX12_closes_135 : decode cX12_closes 135 = .ok (.iconst 0, 1) := by decide +kernel
theorem dX12_closes_136 : decode cX12_closes 136 = .ok (.ireturn, 1) := by decide +kernel
theorem dX12_closes_56 : decode cX12_closes 56 = .ok (.aload_n 0, 1) := by decide +kernel
theorem dX12_closes_57 : decode cX12_closes 57 = .ok (.getfield 183, 3) := by decide +kernel
theorem dX12_closes_60 : decode cX12_closes 60 = .ok (.aload_n 0, 1) := by decide +kernel
theorem dX12_closes_61 : decode cX12_closes 61 = .ok (.getfield 417, 3) := by decide +kernel
theorem dX12_closes_64 : decode cX12_closes 64 = .ok (.iload_n 1, 1) := by decide +kernel
theorem dX12_closes_65 : decode cX12_closes 65 = .ok (.iastore, 1) := by decide +kernel
theorem dX12_closes_66 : decode cX12_closes 66 = .ok (.aload_n 0, 1) := by decide +kernel
theorem dX12_closes_67 : decode cX12_closes 67 = .ok (.getfield 186, 3) := by decide +kernel
theorem dX12_closes_70 : decode cX12_closes 70 = .ok (.aload_n 0, 1) := by decide +kernel
theorem dX12_closes_71 : decode cX12_closes 71 = .ok (.getfield 417, 3) := by decide +kernel
theorem dX12_closes_74 : decode cX12_closes 74 = .ok (.iload_n 3, 1) := by decide +kernel
theorem dX12_closes_75 : decode cX12_closes 75 = .ok (.ifCond .ne 7, 3) := by decide +kernel
theorem dX12_closes_78 : decode cX12_closes 78 = .ok (.iconst 0, 1) := by decide +kernel
theorem dX12_closes_79 : decode cX12_closes 79 = .ok (.goto 29, 3) := by decide +kernel
theorem dX12_closes_108 : decode cX12_closes 108 = .ok (.iastore, 1) := by decide +kernel
theorem dX12_closes_26 : decode cX12_closes 26 = .ok (.aload_n 0, 1) := by decide +kernel
theorem dX12_closes_27 : decode cX12_closes 27 = .ok (.aload_n 0, 1) := by decide +kernel
theorem dX12_closes_28 : decode cX12_closes 28 = .ok (.getfield 104, 3) := by decide +kernel
theorem dX12_closes_31 : decode cX12_closes 31 = .ok (.iload_n 2, 1) := by decide +kernel
theorem dX12_closes_32 : decode cX12_closes 32 = .ok (.iaload, 1) := by decide +kernel
theorem dX12_closes_33 : decode cX12_closes 33 = .ok (.iload_n 1, 1) := by decide +kernel
theorem dX12_closes_34 : decode cX12_closes 34 = .ok (.aload_n 0, 1) := by decide +kernel
theorem dX12_closes_35 : decode cX12_closes 35 = .ok (.getfield 167, 3) := by decide +kernel
theorem dX12_closes_38 : decode cX12_closes 38 = .ok (.iload_n 1, 1) := by decide +kernel
theorem dX12_closes_39 : decode cX12_closes 39 = .ok (.iaload, 1) := by decide +kernel
theorem dX12_closes_40 : decode cX12_closes 40 = .ok (.iconst 0, 1) := by decide +kernel
theorem dX12_closes_41 : decode cX12_closes 41 = .ok (.iconst (-1), 1) := by decide +kernel
theorem dX12_closes_42 : decode cX12_closes 42 = .ok (.invokevirtual 503, 3) := by decide +kernel
theorem dX12_closes_45 : decode cX12_closes 45 = .ok (.istore_n 3, 1) := by decide +kernel
theorem dX12_closes_131 : decode cX12_closes 131 = .ok (.iconst 1, 1) := by decide +kernel
theorem dX12_closes_132 : decode cX12_closes 132 = .ok (.goto 4, 3) := by decide +kernel
theorem dX12_closes_82 : decode cX12_closes 82 = .ok (.iload_n 3, 1) := by decide +kernel
theorem dX12_closes_83 : decode cX12_closes 83 = .ok (.iconst 2, 1) := by decide +kernel
theorem dX12_closes_84 : decode cX12_closes 84 = .ok (.if_icmp .ne 8, 3) := by decide +kernel
theorem dX12_closes_92 : decode cX12_closes 92 = .ok (.aload_n 0, 1) := by decide +kernel
theorem dX12_closes_93 : decode cX12_closes 93 = .ok (.getfield 471, 3) := by decide +kernel
theorem dX12_closes_96 : decode cX12_closes 96 = .ok (.ifCond .le 8, 3) := by decide +kernel
theorem dX12_closes_104 : decode cX12_closes 104 = .ok (.aload_n 0, 1) := by decide +kernel
theorem dX12_closes_105 : decode cX12_closes 105 = .ok (.getfield 474, 3) := by decide +kernel
theorem dX12_closes_99 : decode cX12_closes 99 = .ok (.bipush 20, 2) := by decide +kernel
theorem dX12_closes_101 : decode cX12_closes 101 = .ok (.goto 7, 3) := by decide +kernel
theorem dX12_closes_87 : decode cX12_closes 87 = .ok (.bipush 18, 2) := by decide +kernel
theorem dX12_closes_89 : decode cX12_closes 89 = .ok (.goto 19, 3) := by decide +kernel
abbrev q_s_closes (D : va_G) (ks : Nat × Nat × Option Nat) (ad : Nat → Nat) (kk : Nat → ClassId) (V : Vf) (L : Lf) (p0 : Int32) (A : Nat → Prop) : Array Value → State → Outcome → State → Prop := va_Qi (fun (r : Int32) (u : Vf × Lf) => rgd bM u.1 ∧ agr [(0, 60), (0, 65), (0, 68), (0, 69), (0, 73), (0, 76), (0, 90), (0, 91), (0, 92), (0, 93), (0, 95), (0, 96), (0, 98)] [59, 61, 62, 63, 64, 66, 67, 74, 75, 77, 78, 79, 80, 94, 97] V u.1 ∧ u.2 = L ∧ (0 ≤ r.toInt ∧ r.toInt ≤ 1) ∧ ((u.1 0 93).toInt = (V 0 93).toInt) ∧ ((u.1 0 98).toInt = (V 0 98).toInt) ∧ ((V 0 60).toInt ≤ (u.1 0 60).toInt) ∧ ((V 0 65).toInt ≤ (u.1 0 65).toInt) ∧ ((u.1 0 65).toInt - (V 0 65).toInt ≤ (u.1 0 60).toInt - (V 0 60).toInt) ∧ ((u.1 0 73).toInt + (u.1 0 95).toInt - (u.1 0 65).toInt ≤ (V 0 73).toInt + (V 0 95).toInt - (V 0 65).toInt + 1) ∧ ((V 0 73).toInt ≤ (u.1 0 73).toInt) ∧ ((V 0 69).toInt ≤ (u.1 0 69).toInt) ∧ ((u.1 0 95).toInt = (V 0 95).toInt) ∧ ((u.1 0 76).toInt - (u.1 0 69).toInt - (u.1 0 73).toInt ≤ (V 0 76).toInt - (V 0 69).toInt - (V 0 73).toInt) ∧ (RT u.1) ∧ (FRM V u.1 (-1))) (fun u t => gq D A (mw ad kk ks.1 u.1 u.2) (mty kk) t) A
def K_s_closes (l : Launch) (D : va_G) (ks : Nat × Nat × Option Nat) (d1 d2 : Nat) : Prop := ∀ (sz : Nat) (ad : Nat → Nat) (kk : Nat → ClassId) (V : Vf) (L : Lf) (p0 : Int32) (hMV : rgd bM V) (rg_p0 : 0 ≤ p0.toInt ∧ p0.toInt ≤ 299) (rt : RT V) (n1 : (V 0 65).toInt ≤ (V 0 60).toInt) (n2 : (V 0 95).toInt ≤ (V 0 65).toInt) (n3 : (V 0 73).toInt + (V 0 95).toInt - (V 0 65).toInt ≤ 999000) (n4 : (V 0 76).toInt - (V 0 69).toInt - (V 0 73).toInt ≤ 1000000000) (n5 : 300 - (V 0 60).toInt ≤ (d1 : Int)) (n6 : 10 - (V 0 93).toInt ≤ (d2 : Int)) (oq1 : p0.toInt < (V 0 60).toInt) (n7 : (V 0 98).toInt + 400 * (d2 : Int) + 30 ≤ 19000) (st1 : 1 ≤ (V 63 (Int32.toNatClampNeg p0)).toInt) , Met l yX12_closes (Cond.code yX12_closes cX12_closes 4 (some .boolean) :: GW) (rK2 (4 * d1 + 40 * d2 + 13) (100 * d1 + 1000 * d2 + 500)) (va_Pc [.ref (ad 0), .int p0] (gp D ks (mw ad kk ks.1 V L) (mty kk) sz)) (q_s_closes D ks ad kk V L p0 (va_A (mw ad kk ks.1 V L) sz)) 0 0 (va_A (mw ad kk ks.1 V L) sz)
set_option maxHeartbeats 4000000 in
set_option maxRecDepth 100000 in
theorem s_closes {l : Launch} {D : va_G} {ks : Nat × Nat × Option Nat} {d1 d2 : Nat} (hk_s_works : K_s_works l D ks d1 d2) : K_s_closes l D ks d1 d2 := by
  intro sz ad kk V L p0 hMV rg_p0 rt n1 n2 n3 n4 n5 n6 oq1 n7 st1
  refine g_met (q_s_closes D ks ad kk V L p0) (by decide) (Nat.le_of_ble_eq_true rfl) ?_
  intro p e s m below meth c A ls H locs hx hb hr hml hown hg hlocks hin hnw hgk hP hK hD hS hA hl
  have hown : s.vm.findClass RX12 = some m.cls := hown
  have hl : lv_has ls 4 [(0, .ref (ad 0)), (1, .int p0)] := hl
  have hP : va_P D vwCl (mw ad kk ks.1 V L) H := hP
  have hD : va_D A (mw ad kk ks.1 V L) := hD
  have hK : va_K D vwCl (mty kk) s := hK
  have agV : agr [(0, 60), (0, 65), (0, 68), (0, 69), (0, 73), (0, 76), (0, 90), (0, 91), (0, 92), (0, 93), (0, 95), (0, 96), (0, 98)] [59, 61, 62, 63, 64, 66, 67, 74, 75, 77, 78, 79, 80, 94, 97] V V := agr.rf
  have r1 : 0 ≤ ((V 0 65)).toInt ∧ ((V 0 65)).toInt ≤ 1000000 := hMV 0 65
  have r2 : 0 ≤ ((V 0 60)).toInt ∧ ((V 0 60)).toInt ≤ 300 := hMV 0 60
  have r3 : 0 ≤ ((V 0 95)).toInt ∧ ((V 0 95)).toInt ≤ 300 := hMV 0 95
  have r4 : 0 ≤ ((V 0 73)).toInt ∧ ((V 0 73)).toInt ≤ 1000000 := hMV 0 73
  have r5 : 0 ≤ ((V 0 76)).toInt ∧ ((V 0 76)).toInt ≤ 2000000000 := hMV 0 76
  have r6 : 0 ≤ ((V 0 69)).toInt ∧ ((V 0 69)).toInt ≤ 3000 := hMV 0 69
  have r7 : 0 ≤ ((V 0 93)).toInt ∧ ((V 0 93)).toInt ≤ 10 := hMV 0 93
  have r8 : 0 ≤ ((V 0 98)).toInt ∧ ((V 0 98)).toInt ≤ 20000 := hMV 0 98
  have r9 : 0 ≤ ((V 63 (Int32.toNatClampNeg p0))).toInt ∧ ((V 63 (Int32.toNatClampNeg p0))).toInt ≤ 2 := hMV 63 (Int32.toNatClampNeg p0)
  refine lv_bipush (v := 24) hx hb dX12_closes_0 (by decide) ?_
  refine lv_aload_n hx hb dX12_closes_2 rfl (lv_at hl 0 rfl) ?_
  refine va_get (D := D) (ci := 12) (v := .int (V 0 11)) (C := RX12) (T := TX12) (N := 100) hx hb hg inX12 hown hK hP 0 rfl rfl 11 (by decide) (hg _ w1717) (fun _ h9 => h9) rfl dX12_closes_3 ?_
  have r10 : 0 ≤ ((V 0 11)).toInt ∧ ((V 0 11)).toInt ≤ 1 := hMV 0 11
  refine lv_imul hx hb dX12_closes_6 ?_
  refine lv_topi (fun z11 ez11 => ?_)
  have hz11 : z11.toInt = 24 * ((V 0 11)).toInt := i_mul ez11 (by decide) rfl (by omega)
  refine lv_aload_n hx hb dX12_closes_7 rfl (lv_at hl 0 rfl) ?_
  refine va_get (D := D) (ci := 12) (v := .ref (ad 61)) (C := RX12) (T := TX12) (N := 100) hx hb hg inX12 hown hK hP 0 rfl rfl 61 (by decide) (hg _ w1767) (fun _ h9 => h9) rfl dX12_closes_8 ?_
  refine lv_iload_n hx hb dX12_closes_11 rfl (lv_at hl 1 rfl) ?_
  refine va_iald (D := D) (i := p0) hx hb hK hP 46 45 rfl rfl (i_in (a := p0.toInt) rfl (by first | omega | ((try (have i_rt := Imp.go rt (by omega))); omega))) dX12_closes_12 ?_
  have r12 : 0 ≤ ((V 61 (Int32.toNatClampNeg p0))).toInt ∧ ((V 61 (Int32.toNatClampNeg p0))).toInt ≤ 23 := hMV 61 (Int32.toNatClampNeg p0)
  refine lv_iadd hx hb dX12_closes_13 ?_
  refine lv_topi (fun z13 ez13 => ?_)
  have hz13 : z13.toInt = z11.toInt + ((V 61 (Int32.toNatClampNeg p0))).toInt := i_add ez13 rfl rfl (by omega)
  refine lv_istore_n (lv' := [(2, .int z13), (0, .ref (ad 0)), (1, .int p0)]) hx hb dX12_closes_14 rfl hl (by decide) rfl (fun ls hl => ?_)
  refine lv_iconst (v := 0) hx hb dX12_closes_15 (by decide) ?_
  refine lv_istore_n (lv' := [(3, .int 0), (2, .int z13), (0, .ref (ad 0)), (1, .int p0)]) hx hb dX12_closes_16 rfl hl (by decide) rfl (fun ls hl => ?_)
  refine lv_aload_n hx hb dX12_closes_17 rfl (lv_at hl 2 rfl) ?_
  refine va_get (D := D) (ci := 12) (v := .ref (ad 33)) (C := RX12) (T := TX12) (N := 100) hx hb hg inX12 hown hK hP 0 rfl rfl 33 (by decide) (hg _ w1739) (fun _ h9 => h9) rfl dX12_closes_18 ?_
  refine lv_iload_n hx hb dX12_closes_21 rfl (lv_at hl 1 rfl) ?_
  refine va_iald (D := D) (i := z13) hx hb hK hP 26 25 rfl rfl (i_in (a := z13.toInt) rfl (by first | omega | ((try (have i_rt := Imp.go rt (by omega))); omega))) dX12_closes_22 ?_
  refine lv_if_lt (tgt := 46) hx hb dX12_closes_23 (by decide) (fun c14 => ?_) (fun c14 => ?_)
  · skip
    have f15 : ((V 33 (Int32.toNatClampNeg z13))).toInt < 0 := b_lt rfl (by decide) c14
    refine lv_aload_n hx hb dX12_closes_46 rfl (lv_at hl 2 rfl) ?_
    refine va_get (D := D) (ci := 12) (v := .int (V 0 73)) (C := RX12) (T := TX12) (N := 100) hx hb hg inX12 hown hK hP 0 rfl rfl 73 (by decide) (hg _ w1779) (fun _ h9 => h9) rfl dX12_closes_47 ?_
    refine lv_sipush (v := 300) hx hb dX12_closes_50 (by decide) ?_
    refine lv_icmp_ge (tgt := 109) hx hb dX12_closes_53 (by decide) (fun c16 => ?_) (fun c16 => ?_)
    · skip
      have f17 : 300 ≤ ((V 0 73)).toInt := b_le (by decide) rfl c16
      refine lv_aload_n hx hb dX12_closes_109 rfl (lv_at hl 2 rfl) ?_
      refine lv_dup hx hb dX12_closes_110 rfl ?_
      refine va_get (D := D) (ci := 12) (v := .int (V 0 73)) (C := RX12) (T := TX12) (N := 100) hx hb hg inX12 hown hK hP 0 rfl rfl 73 (by decide) (hg _ w1779) (fun _ h9 => h9) rfl dX12_closes_111 ?_
      refine lv_iconst (v := 1) hx hb dX12_closes_114 (by decide) ?_
      refine lv_iadd hx hb dX12_closes_115 ?_
      refine lv_topi (fun z18 ez18 => ?_)
      have hz18 : z18.toInt = ((V 0 73)).toInt + 1 := i_add ez18 rfl (by decide) (by omega)
      refine va_put (D := D) (ci := 12) (v := .int z18) (ty := tyX12 73) (C := RX12) (T := TX12) (N := 100) hx hb hg inX12 tyX12 tyX12_ok nmX12 hown hK hP hD hS 0 rfl rfl 73 (by decide) (hg _ w1779) (fun _ h9 => h9) rfl (tyX12_ok 73 (by decide)) rfl rfl (Nat.le_of_ble_eq_true rfl) dX12_closes_116 (fun H locs hP hD hS => ?_)
      obtain ⟨V19, hV19⟩ : ∃ z, z = up2 V 0 73 z18 := ⟨_, rfl⟩
      have hP : va_P D vwCl (mw ad kk ks.1 V19 L) H := by rw [hV19]; exact hP
      have hD : va_D A (mw ad kk ks.1 V19 L) := by rw [hV19]; exact hD
      have hMV19 : rgd bM V19 := hMV.put hV19 (show 0 ≤ z18.toInt ∧ z18.toInt ≤ 1000000 from by first | omega | ((try (have i_rt := Imp.go rt (by omega))); omega))
      have agV19 : agr [(0, 60), (0, 65), (0, 68), (0, 69), (0, 73), (0, 76), (0, 90), (0, 91), (0, 92), (0, 93), (0, 95), (0, 96), (0, 98)] [59, 61, 62, 63, 64, 66, 67, 74, 75, 77, 78, 79, 80, 94, 97] V V19 := agV.up hV19 rfl
      have fm20 : FRM V V19 (-1) := ((FRM.ag (show agr [(0, 73)] [] V V19 from (agr.up agr.rf hV19 rfl)) ⟨⟨rfl, fun _ => rfl, fun _ => rfl, fun _ => rfl, fun _ => rfl, fun _ => rfl, fun _ => rfl⟩, by decide, by decide, rfl, rfl, fun _ => rfl, fun _ => rfl, fun _ => rfl, fun _ => rfl, fun _ => rfl, fun _ => rfl⟩) : FRM V V19 (-1))
      have ko2 := i_clamp (x := p0) rfl (by omega)
      have hst := (fm20.2.1 (Int32.toNatClampNeg p0) (by omega)).2.2.2 st1
      have rt21 : RT V19 := RT.ag rt hMV (show agr [(0, 73)] [] V V19 from (agr.up agr.rf hV19 rfl)) ⟨⟨rfl, fun _ => rfl, fun _ => rfl, fun _ => rfl, fun _ => rfl, fun _ => rfl, fun _ => rfl⟩, by decide, by decide, rfl, rfl, fun _ => rfl, fun _ => rfl, fun _ => rfl, fun _ => rfl, fun _ => rfl, fun _ => rfl⟩ (c0k.ag (show agr [(0, 73)] [] V V19 from (agr.up agr.rf hV19 rfl)) rfl)
      have hs2 : (V19 63 (Int32.toNatClampNeg p0)).toInt ≤ 2 := (hMV19 63 _).2
      refine lv_aload_n hx hb dX12_closes_119 rfl (lv_at hl 2 rfl) ?_
      refine va_get (D := D) (ci := 12) (v := .ref (ad 63)) (C := RX12) (T := TX12) (N := 100) hx hb hg inX12 hown hK hP 0 rfl rfl 63 (by decide) (hg _ w1769) (fun _ h9 => h9) rfl dX12_closes_120 ?_
      refine lv_iload_n hx hb dX12_closes_123 rfl (lv_at hl 3 rfl) ?_
      refine lv_iconst (v := 2) hx hb dX12_closes_124 (by decide) ?_
      refine va_iast (D := D) (i := p0) (x := 2) hx hb hK hP hD hS 48 47 rfl rfl (i_in (a := p0.toInt) rfl (by first | omega | ((try (have i_rt := Imp.go rt (by omega))); omega))) dX12_closes_125 (fun H locs hP hD hS => ?_)
      obtain ⟨V22, hV22⟩ : ∃ z, z = up2 V19 63 (Int32.toNatClampNeg p0) 2 := ⟨_, rfl⟩
      have hP : va_P D vwCl (mw ad kk ks.1 V22 L) H := by rw [hV22]; exact hP
      have hD : va_D A (mw ad kk ks.1 V22 L) := by rw [hV22]; exact hD
      have hMV22 : rgd bM V22 := hMV19.put hV22 (show 0 ≤ Int32.toInt 2 ∧ Int32.toInt 2 ≤ 2 from by decide)
      have agV22 : agr [(0, 60), (0, 65), (0, 68), (0, 69), (0, 73), (0, 76), (0, 90), (0, 91), (0, 92), (0, 93), (0, 95), (0, 96), (0, 98)] [59, 61, 62, 63, 64, 66, 67, 74, 75, 77, 78, 79, 80, 94, 97] V V22 := agV19.up hV22 rfl
      refine lv_iload_n hx hb dX12_closes_126 rfl (lv_at hl 0 rfl) ?_
      refine lv_iconst (v := 2) hx hb dX12_closes_127 (by decide) ?_
      refine lv_icmp_ne (tgt := 135) hx hb dX12_closes_128 (by decide) (fun _ => ?_) (fun q => absurd q (by decide))
      refine lv_iconst (v := 0) hx hb dX12_closes_135 (by decide) ?_
      have pq23 : (V22 0 93).toInt = ((V 0 93)).toInt := congrArg Int32.toInt ((up2_o hV22 (by decide)).trans (up2_k hV19 (by decide)))
      have pq24 : (V22 0 98).toInt = ((V 0 98)).toInt := congrArg Int32.toInt ((up2_o hV22 (by decide)).trans (up2_k hV19 (by decide)))
      have pq25 : (V22 0 60).toInt = ((V 0 60)).toInt := congrArg Int32.toInt ((up2_o hV22 (by decide)).trans (up2_k hV19 (by decide)))
      have pq26 : (V22 0 65).toInt = ((V 0 65)).toInt := congrArg Int32.toInt ((up2_o hV22 (by decide)).trans (up2_k hV19 (by decide)))
      have pq27 : (V22 0 73).toInt = z18.toInt := congrArg Int32.toInt ((up2_o hV22 (by decide)).trans (up2_s hV19))
      have pq28 : (V22 0 95).toInt = ((V 0 95)).toInt := congrArg Int32.toInt ((up2_o hV22 (by decide)).trans (up2_k hV19 (by decide)))
      have pq29 : (V22 0 69).toInt = ((V 0 69)).toInt := congrArg Int32.toInt ((up2_o hV22 (by decide)).trans (up2_k hV19 (by decide)))
      have pq30 : (V22 0 76).toInt = ((V 0 76)).toInt := congrArg Int32.toInt ((up2_o hV22 (by decide)).trans (up2_k hV19 (by decide)))
      have pq31 : (V19 0 95).toInt = ((V 0 95)).toInt := congrArg Int32.toInt (up2_k hV19 (by decide))
      exact W.zret (v := 0) hx hb hr rfl (fun t ht hW => ⟨⟨0, (V22, L), rfl, ⟨hMV22, agV22, rfl, (by decide), (show (V22 0 93).toInt = (V 0 93).toInt from by first | omega | ((try (have i_rt := Imp.go rt (by omega))); omega)), (show (V22 0 98).toInt = (V 0 98).toInt from by first | omega | ((try (have i_rt := Imp.go rt (by omega))); omega)), (show (V 0 60).toInt ≤ (V22 0 60).toInt from by first | omega | ((try (have i_rt := Imp.go rt (by omega))); omega)), (show (V 0 65).toInt ≤ (V22 0 65).toInt from by first | omega | ((try (have i_rt := Imp.go rt (by omega))); omega)), (show (V22 0 65).toInt - (V 0 65).toInt ≤ (V22 0 60).toInt - (V 0 60).toInt from by first | omega | ((try (have i_rt := Imp.go rt (by omega))); omega)), (show (V22 0 73).toInt + (V22 0 95).toInt - (V22 0 65).toInt ≤ (V 0 73).toInt + (V 0 95).toInt - (V 0 65).toInt + 1 from by first | omega | ((try (have i_rt := Imp.go rt (by omega))); omega)), (show (V 0 73).toInt ≤ (V22 0 73).toInt from by first | omega | ((try (have i_rt := Imp.go rt (by omega))); omega)), (show (V 0 69).toInt ≤ (V22 0 69).toInt from by first | omega | ((try (have i_rt := Imp.go rt (by omega))); omega)), (show (V22 0 95).toInt = (V 0 95).toInt from by first | omega | ((try (have i_rt := Imp.go rt (by omega))); omega)), (show (V22 0 76).toInt - (V22 0 69).toInt - (V22 0 73).toInt ≤ (V 0 76).toInt - (V 0 69).toInt - (V 0 73).toInt from by first | omega | ((try (have i_rt := Imp.go rt (by omega))); omega)), (RT.state rt21 hMV19 hV22 (by decide)), (FRM.tr fm20 (FRM.state hV22 (Or.inr ⟨by omega, by show _ ≤ (2 : Int32).toInt; have h9 : (2 : Int32).toInt = 2 := (by decide); omega⟩)) agV19 ⟨rfl, fun _ => rfl, fun _ => rfl, fun _ => rfl, fun _ => rfl, fun _ => rfl, fun _ => rfl⟩ (by omega))⟩, by rw [ht]; exact hP, va_K.moved hW.alike hK, hD⟩, hS.F ht⟩) hS.2.2 dX12_closes_136
    · skip
      have f32 : ((V 0 73)).toInt < 300 := b_nle (by decide) rfl c16
      refine lv_aload_n hx hb dX12_closes_56 rfl (lv_at hl 2 rfl) ?_
      refine va_get (D := D) (ci := 12) (v := .ref (ad 74)) (C := RX12) (T := TX12) (N := 100) hx hb hg inX12 hown hK hP 0 rfl rfl 74 (by decide) (hg _ w1780) (fun _ h9 => h9) rfl dX12_closes_57 ?_
      refine lv_aload_n hx hb dX12_closes_60 rfl (lv_at hl 2 rfl) ?_
      refine va_get (D := D) (ci := 12) (v := .int (V 0 73)) (C := RX12) (T := TX12) (N := 100) hx hb hg inX12 hown hK hP 0 rfl rfl 73 (by decide) (hg _ w1779) (fun _ h9 => h9) rfl dX12_closes_61 ?_
      refine lv_iload_n hx hb dX12_closes_64 rfl (lv_at hl 3 rfl) ?_
      refine va_iast (D := D) (i := (V 0 73)) (x := p0) hx hb hK hP hD hS 52 51 rfl rfl (i_in (a := ((V 0 73)).toInt) rfl (by first | omega | ((try (have i_rt := Imp.go rt (by omega))); omega))) dX12_closes_65 (fun H locs hP hD hS => ?_)
      obtain ⟨V33, hV33⟩ : ∃ z, z = up2 V 74 (Int32.toNatClampNeg (V 0 73)) p0 := ⟨_, rfl⟩
      have hP : va_P D vwCl (mw ad kk ks.1 V33 L) H := by rw [hV33]; exact hP
      have hD : va_D A (mw ad kk ks.1 V33 L) := by rw [hV33]; exact hD
      have hMV33 : rgd bM V33 := hMV.put hV33 (i_full _)
      have agV33 : agr [(0, 60), (0, 65), (0, 68), (0, 69), (0, 73), (0, 76), (0, 90), (0, 91), (0, 92), (0, 93), (0, 95), (0, 96), (0, 98)] [59, 61, 62, 63, 64, 66, 67, 74, 75, 77, 78, 79, 80, 94, 97] V V33 := agV.up hV33 rfl
      refine lv_aload_n hx hb dX12_closes_66 rfl (lv_at hl 2 rfl) ?_
      refine va_get (D := D) (ci := 12) (v := .ref (ad 75)) (C := RX12) (T := TX12) (N := 100) hx hb hg inX12 hown hK hP 0 rfl rfl 75 (by decide) (hg _ w1781) (fun _ h9 => h9) rfl dX12_closes_67 ?_
      refine lv_aload_n hx hb dX12_closes_70 rfl (lv_at hl 2 rfl) ?_
      refine va_get (D := D) (ci := 12) (v := .int (V33 0 73)) (C := RX12) (T := TX12) (N := 100) hx hb hg inX12 hown hK hP 0 rfl rfl 73 (by decide) (hg _ w1779) (fun _ h9 => h9) rfl dX12_closes_71 ?_
      refine g_top (v := (V 0 73)) (up2_o hV33 (by decide)) ?_
      refine lv_iload_n hx hb dX12_closes_74 rfl (lv_at hl 0 rfl) ?_
      refine lv_if_ne (tgt := 82) hx hb dX12_closes_75 (by decide) (fun q => absurd rfl q) (fun _ => ?_)
      refine lv_iconst (v := 0) hx hb dX12_closes_78 (by decide) ?_
      refine lv_goto (tgt := 108) hx hb dX12_closes_79 (by decide) ?_
      refine va_iast (D := D) (i := (V 0 73)) (x := 0) hx hb hK hP hD hS 53 52 rfl rfl (i_in (a := ((V 0 73)).toInt) rfl (by first | omega | ((try (have i_rt := Imp.go rt (by omega))); omega))) dX12_closes_108 (fun H locs hP hD hS => ?_)
      obtain ⟨V34, hV34⟩ : ∃ z, z = up2 V33 75 (Int32.toNatClampNeg (V 0 73)) 0 := ⟨_, rfl⟩
      have hP : va_P D vwCl (mw ad kk ks.1 V34 L) H := by rw [hV34]; exact hP
      have hD : va_D A (mw ad kk ks.1 V34 L) := by rw [hV34]; exact hD
      have hMV34 : rgd bM V34 := hMV33.put hV34 (i_full _)
      have agV34 : agr [(0, 60), (0, 65), (0, 68), (0, 69), (0, 73), (0, 76), (0, 90), (0, 91), (0, 92), (0, 93), (0, 95), (0, 96), (0, 98)] [59, 61, 62, 63, 64, 66, 67, 74, 75, 77, 78, 79, 80, 94, 97] V V34 := agV33.up hV34 rfl
      refine lv_aload_n hx hb dX12_closes_109 rfl (lv_at hl 2 rfl) ?_
      refine lv_dup hx hb dX12_closes_110 rfl ?_
      refine va_get (D := D) (ci := 12) (v := .int (V34 0 73)) (C := RX12) (T := TX12) (N := 100) hx hb hg inX12 hown hK hP 0 rfl rfl 73 (by decide) (hg _ w1779) (fun _ h9 => h9) rfl dX12_closes_111 ?_
      refine g_top (v := (V 0 73)) ((up2_o hV34 (by decide)).trans (up2_o hV33 (by decide))) ?_
      refine lv_iconst (v := 1) hx hb dX12_closes_114 (by decide) ?_
      refine lv_iadd hx hb dX12_closes_115 ?_
      refine lv_topi (fun z35 ez35 => ?_)
      have hz35 : z35.toInt = ((V 0 73)).toInt + 1 := i_add ez35 rfl (by decide) (by omega)
      refine va_put (D := D) (ci := 12) (v := .int z35) (ty := tyX12 73) (C := RX12) (T := TX12) (N := 100) hx hb hg inX12 tyX12 tyX12_ok nmX12 hown hK hP hD hS 0 rfl rfl 73 (by decide) (hg _ w1779) (fun _ h9 => h9) rfl (tyX12_ok 73 (by decide)) rfl rfl (Nat.le_of_ble_eq_true rfl) dX12_closes_116 (fun H locs hP hD hS => ?_)
      obtain ⟨V36, hV36⟩ : ∃ z, z = up2 V34 0 73 z35 := ⟨_, rfl⟩
      have hP : va_P D vwCl (mw ad kk ks.1 V36 L) H := by rw [hV36]; exact hP
      have hD : va_D A (mw ad kk ks.1 V36 L) := by rw [hV36]; exact hD
      have hMV36 : rgd bM V36 := hMV34.put hV36 (show 0 ≤ z35.toInt ∧ z35.toInt ≤ 1000000 from by first | omega | ((try (have i_rt := Imp.go rt (by omega))); omega))
      have agV36 : agr [(0, 60), (0, 65), (0, 68), (0, 69), (0, 73), (0, 76), (0, 90), (0, 91), (0, 92), (0, 93), (0, 95), (0, 96), (0, 98)] [59, 61, 62, 63, 64, 66, 67, 74, 75, 77, 78, 79, 80, 94, 97] V V36 := agV34.up hV36 rfl
      have fm37 : FRM V V36 (-1) := ((FRM.ag (show agr [(0, 73)] [74, 75] V V36 from (agr.up (agr.up (agr.up agr.rf hV33 rfl) hV34 rfl) hV36 rfl)) ⟨⟨rfl, fun _ => rfl, fun _ => rfl, fun _ => rfl, fun _ => rfl, fun _ => rfl, fun _ => rfl⟩, by decide, by decide, rfl, rfl, fun _ => rfl, fun _ => rfl, fun _ => rfl, fun _ => rfl, fun _ => rfl, fun _ => rfl⟩) : FRM V V36 (-1))
      have ko2 := i_clamp (x := p0) rfl (by omega)
      have hst := (fm37.2.1 (Int32.toNatClampNeg p0) (by omega)).2.2.2 st1
      have rt38 : RT V36 := RT.ag rt hMV (show agr [(0, 73)] [74, 75] V V36 from (agr.up (agr.up (agr.up agr.rf hV33 rfl) hV34 rfl) hV36 rfl)) ⟨⟨rfl, fun _ => rfl, fun _ => rfl, fun _ => rfl, fun _ => rfl, fun _ => rfl, fun _ => rfl⟩, by decide, by decide, rfl, rfl, fun _ => rfl, fun _ => rfl, fun _ => rfl, fun _ => rfl, fun _ => rfl, fun _ => rfl⟩ (c0k.ag (show agr [(0, 73)] [74, 75] V V36 from (agr.up (agr.up (agr.up agr.rf hV33 rfl) hV34 rfl) hV36 rfl)) rfl)
      have hs2 : (V36 63 (Int32.toNatClampNeg p0)).toInt ≤ 2 := (hMV36 63 _).2
      refine lv_aload_n hx hb dX12_closes_119 rfl (lv_at hl 2 rfl) ?_
      refine va_get (D := D) (ci := 12) (v := .ref (ad 63)) (C := RX12) (T := TX12) (N := 100) hx hb hg inX12 hown hK hP 0 rfl rfl 63 (by decide) (hg _ w1769) (fun _ h9 => h9) rfl dX12_closes_120 ?_
      refine lv_iload_n hx hb dX12_closes_123 rfl (lv_at hl 3 rfl) ?_
      refine lv_iconst (v := 2) hx hb dX12_closes_124 (by decide) ?_
      refine va_iast (D := D) (i := p0) (x := 2) hx hb hK hP hD hS 48 47 rfl rfl (i_in (a := p0.toInt) rfl (by first | omega | ((try (have i_rt := Imp.go rt (by omega))); omega))) dX12_closes_125 (fun H locs hP hD hS => ?_)
      obtain ⟨V39, hV39⟩ : ∃ z, z = up2 V36 63 (Int32.toNatClampNeg p0) 2 := ⟨_, rfl⟩
      have hP : va_P D vwCl (mw ad kk ks.1 V39 L) H := by rw [hV39]; exact hP
      have hD : va_D A (mw ad kk ks.1 V39 L) := by rw [hV39]; exact hD
      have hMV39 : rgd bM V39 := hMV36.put hV39 (show 0 ≤ Int32.toInt 2 ∧ Int32.toInt 2 ≤ 2 from by decide)
      have agV39 : agr [(0, 60), (0, 65), (0, 68), (0, 69), (0, 73), (0, 76), (0, 90), (0, 91), (0, 92), (0, 93), (0, 95), (0, 96), (0, 98)] [59, 61, 62, 63, 64, 66, 67, 74, 75, 77, 78, 79, 80, 94, 97] V V39 := agV36.up hV39 rfl
      refine lv_iload_n hx hb dX12_closes_126 rfl (lv_at hl 0 rfl) ?_
      refine lv_iconst (v := 2) hx hb dX12_closes_127 (by decide) ?_
      refine lv_icmp_ne (tgt := 135) hx hb dX12_closes_128 (by decide) (fun _ => ?_) (fun q => absurd q (by decide))
      refine lv_iconst (v := 0) hx hb dX12_closes_135 (by decide) ?_
      have pq40 : (V39 0 93).toInt = ((V 0 93)).toInt := congrArg Int32.toInt ((up2_o hV39 (by decide)).trans ((up2_k hV36 (by decide)).trans ((up2_o hV34 (by decide)).trans (up2_o hV33 (by decide)))))
      have pq41 : (V39 0 98).toInt = ((V 0 98)).toInt := congrArg Int32.toInt ((up2_o hV39 (by decide)).trans ((up2_k hV36 (by decide)).trans ((up2_o hV34 (by decide)).trans (up2_o hV33 (by decide)))))
      have pq42 : (V39 0 60).toInt = ((V 0 60)).toInt := congrArg Int32.toInt ((up2_o hV39 (by decide)).trans ((up2_k hV36 (by decide)).trans ((up2_o hV34 (by decide)).trans (up2_o hV33 (by decide)))))
      have pq43 : (V39 0 65).toInt = ((V 0 65)).toInt := congrArg Int32.toInt ((up2_o hV39 (by decide)).trans ((up2_k hV36 (by decide)).trans ((up2_o hV34 (by decide)).trans (up2_o hV33 (by decide)))))
      have pq44 : (V39 0 73).toInt = z35.toInt := congrArg Int32.toInt ((up2_o hV39 (by decide)).trans (up2_s hV36))
      have pq45 : (V39 0 95).toInt = ((V 0 95)).toInt := congrArg Int32.toInt ((up2_o hV39 (by decide)).trans ((up2_k hV36 (by decide)).trans ((up2_o hV34 (by decide)).trans (up2_o hV33 (by decide)))))
      have pq46 : (V39 0 69).toInt = ((V 0 69)).toInt := congrArg Int32.toInt ((up2_o hV39 (by decide)).trans ((up2_k hV36 (by decide)).trans ((up2_o hV34 (by decide)).trans (up2_o hV33 (by decide)))))
      have pq47 : (V39 0 76).toInt = ((V 0 76)).toInt := congrArg Int32.toInt ((up2_o hV39 (by decide)).trans ((up2_k hV36 (by decide)).trans ((up2_o hV34 (by decide)).trans (up2_o hV33 (by decide)))))
      have pq48 : (V36 0 95).toInt = ((V 0 95)).toInt := congrArg Int32.toInt ((up2_k hV36 (by decide)).trans ((up2_o hV34 (by decide)).trans (up2_o hV33 (by decide))))
      exact W.zret (v := 0) hx hb hr rfl (fun t ht hW => ⟨⟨0, (V39, L), rfl, ⟨hMV39, agV39, rfl, (by decide), (show (V39 0 93).toInt = (V 0 93).toInt from by first | omega | ((try (have i_rt := Imp.go rt (by omega))); omega)), (show (V39 0 98).toInt = (V 0 98).toInt from by first | omega | ((try (have i_rt := Imp.go rt (by omega))); omega)), (show (V 0 60).toInt ≤ (V39 0 60).toInt from by first | omega | ((try (have i_rt := Imp.go rt (by omega))); omega)), (show (V 0 65).toInt ≤ (V39 0 65).toInt from by first | omega | ((try (have i_rt := Imp.go rt (by omega))); omega)), (show (V39 0 65).toInt - (V 0 65).toInt ≤ (V39 0 60).toInt - (V 0 60).toInt from by first | omega | ((try (have i_rt := Imp.go rt (by omega))); omega)), (show (V39 0 73).toInt + (V39 0 95).toInt - (V39 0 65).toInt ≤ (V 0 73).toInt + (V 0 95).toInt - (V 0 65).toInt + 1 from by first | omega | ((try (have i_rt := Imp.go rt (by omega))); omega)), (show (V 0 73).toInt ≤ (V39 0 73).toInt from by first | omega | ((try (have i_rt := Imp.go rt (by omega))); omega)), (show (V 0 69).toInt ≤ (V39 0 69).toInt from by first | omega | ((try (have i_rt := Imp.go rt (by omega))); omega)), (show (V39 0 95).toInt = (V 0 95).toInt from by first | omega | ((try (have i_rt := Imp.go rt (by omega))); omega)), (show (V39 0 76).toInt - (V39 0 69).toInt - (V39 0 73).toInt ≤ (V 0 76).toInt - (V 0 69).toInt - (V 0 73).toInt from by first | omega | ((try (have i_rt := Imp.go rt (by omega))); omega)), (RT.state rt38 hMV36 hV39 (by decide)), (FRM.tr fm37 (FRM.state hV39 (Or.inr ⟨by omega, by show _ ≤ (2 : Int32).toInt; have h9 : (2 : Int32).toInt = 2 := (by decide); omega⟩)) agV36 ⟨rfl, fun _ => rfl, fun _ => rfl, fun _ => rfl, fun _ => rfl, fun _ => rfl, fun _ => rfl⟩ (by omega))⟩, by rw [ht]; exact hP, va_K.moved hW.alike hK, hD⟩, hS.F ht⟩) hS.2.2 dX12_closes_136
  · skip
    have f49 : 0 ≤ ((V 33 (Int32.toNatClampNeg z13))).toInt := b_nlt rfl (by decide) c14
    refine lv_aload_n hx hb dX12_closes_26 rfl (lv_at hl 2 rfl) ?_
    refine lv_aload_n hx hb dX12_closes_27 rfl (lv_at hl 2 rfl) ?_
    refine va_get (D := D) (ci := 12) (v := .ref (ad 33)) (C := RX12) (T := TX12) (N := 100) hx hb hg inX12 hown hK hP 0 rfl rfl 33 (by decide) (hg _ w1739) (fun _ h9 => h9) rfl dX12_closes_28 ?_
    refine lv_iload_n hx hb dX12_closes_31 rfl (lv_at hl 1 rfl) ?_
    refine va_iald (D := D) (i := z13) hx hb hK hP 26 25 rfl rfl (i_in (a := z13.toInt) rfl (by first | omega | ((try (have i_rt := Imp.go rt (by omega))); omega))) dX12_closes_32 ?_
    have ko := i_clamp (x := p0) rfl (by omega)
    have kn : (nwh V : Int) = (V 0 11).toInt := i_clamp (x := V 0 11) rfl (by have h9 : 0 ≤ (V 0 11).toInt ∧ (V 0 11).toInt ≤ 1 := hMV 0 11; omega)
    have hO := rt.2.2.1 (Int32.toNatClampNeg p0) (by omega)
    have cok := TB.compE rt.1 hO
    have r61 : 0 ≤ (V 61 (Int32.toNatClampNeg p0)).toInt ∧ (V 61 (Int32.toNatClampNeg p0)).toInt ≤ 23 := hMV 61 _
    have k61 := i_clamp (x := V 61 (Int32.toNatClampNeg p0)) rfl r61.1
    have nb : (nwh V : Int) ≤ 1 := by have h9 : 0 ≤ (V 0 11).toInt ∧ (V 0 11).toInt ≤ 1 := hMV 0 11; omega
    have kz : Int32.toNatClampNeg z13 = 24 * nwh V + Int32.toNatClampNeg (V 61 (Int32.toNatClampNeg p0)) := by have h9 := i_clamp (x := z13) rfl (by omega); omega
    have q33 : V 33 (24 * nwh V + Int32.toNatClampNeg (V 61 (Int32.toNatClampNeg p0))) = V 33 (Int32.toNatClampNeg z13) := by rw [kz]
    have ce := cok.2.1
    rw [q33] at ce
    have ce2 := ce (by omega)
    have cl := ce2.lt
    refine lv_iload_n hx hb dX12_closes_33 rfl (lv_at hl 3 rfl) ?_
    refine lv_aload_n hx hb dX12_closes_34 rfl (lv_at hl 2 rfl) ?_
    refine va_get (D := D) (ci := 12) (v := .ref (ad 62)) (C := RX12) (T := TX12) (N := 100) hx hb hg inX12 hown hK hP 0 rfl rfl 62 (by decide) (hg _ w1768) (fun _ h9 => h9) rfl dX12_closes_35 ?_
    refine lv_iload_n hx hb dX12_closes_38 rfl (lv_at hl 3 rfl) ?_
    refine va_iald (D := D) (i := p0) hx hb hK hP 47 46 rfl rfl (i_in (a := p0.toInt) rfl (by first | omega | ((try (have i_rt := Imp.go rt (by omega))); omega))) dX12_closes_39 ?_
    have r50 : 0 ≤ ((V 62 (Int32.toNatClampNeg p0))).toInt ∧ ((V 62 (Int32.toNatClampNeg p0))).toInt ≤ 39 := hMV 62 (Int32.toNatClampNeg p0)
    refine lv_iconst (v := 0) hx hb dX12_closes_40 (by decide) ?_
    refine lv_iconst (v := (-1)) hx hb dX12_closes_41 (by decide) ?_
    have r51 : Int32.toInt 0 = 0 := by decide
    have r52 : Int32.toInt (-1) = (-1) := by decide
    refine gA_int (gA_runV (As := [.int (V 33 (Int32.toNatClampNeg z13)), .int p0, .int (V 62 (Int32.toNatClampNeg p0)), .int 0, .int (-1)]) (rest := []) (ci := 12) (q0 := 0) hx hb hml hown hg hP hD hK hS hA hnw hgk (hk_s_works H.size ad kk V L (V 33 (Int32.toNatClampNeg z13)) p0 (V 62 (Int32.toNatClampNeg p0)) 0 (-1) ((V 27 (24 * nwh V + Int32.toNatClampNeg (V 61 (Int32.toNatClampNeg p0)))).toInt) (10000 * nwh V) (10000 * nwh V + 10000) hMV (by first | omega | ((try (have i_rt := Imp.go rt (by omega))); omega)) (by first | omega | ((try (have i_rt := Imp.go rt (by omega))); omega)) (by first | omega | ((try (have i_rt := Imp.go rt (by omega))); omega)) rt (show (V 0 65).toInt ≤ (V 0 60).toInt from by first | omega | ((try (have i_rt := Imp.go rt (by omega))); omega)) (show (V 0 95).toInt ≤ (V 0 65).toInt from by first | omega | ((try (have i_rt := Imp.go rt (by omega))); omega)) (show (V 0 73).toInt + (V 0 95).toInt - (V 0 65).toInt ≤ 999000 from by first | omega | ((try (have i_rt := Imp.go rt (by omega))); omega)) (show (V 0 76).toInt - (V 0 69).toInt - (V 0 73).toInt ≤ 1000000001 from by first | omega | ((try (have i_rt := Imp.go rt (by omega))); omega)) (show 300 - (V 0 60).toInt ≤ ((d1 : Nat) : Int) from by first | omega | ((try (have i_rt := Imp.go rt (by omega))); omega)) (show 10 - (V 0 93).toInt ≤ ((d2 : Nat) : Int) from by first | omega | ((try (have i_rt := Imp.go rt (by omega))); omega)) (show p0.toInt < (V 0 60).toInt from by first | omega | ((try (have i_rt := Imp.go rt (by omega))); omega)) (show (V 0 98).toInt + 400 * ((d2 : Nat) : Int) + 30 ≤ 19000 from by first | omega | ((try (have i_rt := Imp.go rt (by omega))); omega)) ce2 (show ((10000 * nwh V + 10000) : Int) ≤ 20000 from by first | omega | ((try (have i_rt := Imp.go rt (by omega))); omega)) (Int.le_refl _)) w2268 w2270 w136 w172 w2271 rfl rfl hdV_yX12_works ⟨(by show (4 * (d1) + 40 * (d2) + 12) + 1 ≤ (4 * d1 + 40 * d2 + 13); omega), (by show 8 + (6 + 11) + (100 * (d1) + 1000 * (d2) + 460) ≤ (100 * d1 + 1000 * d2 + 500); omega)⟩ rfl hl.1 rfl (Nat.le_of_ble_eq_true rfl) dX12_closes_42 ⟨Nat.le_of_ble_eq_true rfl, Nat.le_of_ble_eq_true rfl⟩) hP hD hK hS hA (fun z53 u54 H locs w55 hP hD hK hS => ?_)
    obtain ⟨V69, L70⟩ := u54
    obtain ⟨hMV69, ajV69, axL70, rgz53, t56, t57, t58, t59, t60, t61, t62, t63, t64, t65, t66, t67, t68⟩ := w55
    have axL70 : L = L70 := Eq.symm axL70
    subst axL70
    have hP : va_P D vwCl (mw ad kk ks.1 V69 L) H := hP
    have hD : va_D A (mw ad kk ks.1 V69 L) := hD
    have hMV69 : rgd bM V69 := hMV69
    have ajV69 : agr [(0, 60), (0, 65), (0, 68), (0, 69), (0, 73), (0, 76), (0, 90), (0, 91), (0, 92), (0, 93), (0, 95), (0, 96), (0, 98)] [59, 61, 62, 63, 64, 66, 67, 74, 75, 77, 78, 79, 80, 94, 97] V V69 := ajV69
    have agV69 : agr [(0, 60), (0, 65), (0, 68), (0, 69), (0, 73), (0, 76), (0, 90), (0, 91), (0, 92), (0, 93), (0, 95), (0, 96), (0, 98)] [59, 61, 62, 63, 64, 66, 67, 74, 75, 77, 78, 79, 80, 94, 97] V V69 := agV.tr ajV69 (by decide) (by decide)
    have rgz53 : 0 ≤ z53.toInt ∧ z53.toInt ≤ 2 := rgz53
    have t56 : (V69 0 93).toInt = (V 0 93).toInt := t56
    have t57 : (V69 0 98).toInt = (V 0 98).toInt := t57
    have t58 : (V 0 60).toInt ≤ (V69 0 60).toInt := t58
    have t59 : (V 0 65).toInt ≤ (V69 0 65).toInt := t59
    have t60 : (V69 0 65).toInt - (V 0 65).toInt ≤ (V69 0 60).toInt - (V 0 60).toInt := t60
    have t61 : (V69 0 73).toInt + (V69 0 95).toInt - (V69 0 65).toInt ≤ (V 0 73).toInt + (V 0 95).toInt - (V 0 65).toInt := t61
    have t62 : (V 0 73).toInt ≤ (V69 0 73).toInt := t62
    have t63 : (V 0 69).toInt ≤ (V69 0 69).toInt := t63
    have t64 : (V69 0 95).toInt = (V 0 95).toInt := t64
    have t65 : (V69 0 76).toInt - (V69 0 69).toInt - (V69 0 73).toInt ≤ (V 0 76).toInt - (V 0 69).toInt - (V 0 73).toInt := t65
    have t66 : Imp (z53.toInt ≠ 2) ((V69 0 76).toInt - (V69 0 69).toInt - (V69 0 73).toInt + 1 ≤ (V 0 76).toInt - (V 0 69).toInt - (V 0 73).toInt) := t66
    have t67 : RT V69 := t67
    have t68 : FRM V V69 (-1) := t68
    have r71 : 0 ≤ ((V69 0 93)).toInt ∧ ((V69 0 93)).toInt ≤ 10 := hMV69 0 93
    have r72 : 0 ≤ ((V69 0 98)).toInt ∧ ((V69 0 98)).toInt ≤ 20000 := hMV69 0 98
    have r73 : 0 ≤ ((V69 0 60)).toInt ∧ ((V69 0 60)).toInt ≤ 300 := hMV69 0 60
    have r74 : 0 ≤ ((V69 0 65)).toInt ∧ ((V69 0 65)).toInt ≤ 1000000 := hMV69 0 65
    have r75 : 0 ≤ ((V69 0 73)).toInt ∧ ((V69 0 73)).toInt ≤ 1000000 := hMV69 0 73
    have r76 : 0 ≤ ((V69 0 95)).toInt ∧ ((V69 0 95)).toInt ≤ 300 := hMV69 0 95
    have r77 : 0 ≤ ((V69 0 69)).toInt ∧ ((V69 0 69)).toInt ≤ 3000 := hMV69 0 69
    have r78 : 0 ≤ ((V69 0 76)).toInt ∧ ((V69 0 76)).toInt ≤ 2000000000 := hMV69 0 76
    refine lv_istore_n (lv' := [(3, .int z53), (2, .int z13), (0, .ref (ad 0)), (1, .int p0)]) hx hb dX12_closes_45 rfl hl (by decide) rfl (fun ls hl => ?_)
    refine lv_aload_n hx hb dX12_closes_46 rfl (lv_at hl 2 rfl) ?_
    refine va_get (D := D) (ci := 12) (v := .int (V69 0 73)) (C := RX12) (T := TX12) (N := 100) hx hb hg inX12 hown hK hP 0 rfl rfl 73 (by decide) (hg _ w1779) (fun _ h9 => h9) rfl dX12_closes_47 ?_
    refine lv_sipush (v := 300) hx hb dX12_closes_50 (by decide) ?_
    refine lv_icmp_ge (tgt := 109) hx hb dX12_closes_53 (by decide) (fun c79 => ?_) (fun c79 => ?_)
    · skip
      have f80 : 300 ≤ ((V69 0 73)).toInt := b_le (by decide) rfl c79
      refine lv_aload_n hx hb dX12_closes_109 rfl (lv_at hl 2 rfl) ?_
      refine lv_dup hx hb dX12_closes_110 rfl ?_
      refine va_get (D := D) (ci := 12) (v := .int (V69 0 73)) (C := RX12) (T := TX12) (N := 100) hx hb hg inX12 hown hK hP 0 rfl rfl 73 (by decide) (hg _ w1779) (fun _ h9 => h9) rfl dX12_closes_111 ?_
      refine lv_iconst (v := 1) hx hb dX12_closes_114 (by decide) ?_
      refine lv_iadd hx hb dX12_closes_115 ?_
      refine lv_topi (fun z81 ez81 => ?_)
      have hz81 : z81.toInt = ((V69 0 73)).toInt + 1 := i_add ez81 rfl (by decide) (by omega)
      refine va_put (D := D) (ci := 12) (v := .int z81) (ty := tyX12 73) (C := RX12) (T := TX12) (N := 100) hx hb hg inX12 tyX12 tyX12_ok nmX12 hown hK hP hD hS 0 rfl rfl 73 (by decide) (hg _ w1779) (fun _ h9 => h9) rfl (tyX12_ok 73 (by decide)) rfl rfl (Nat.le_of_ble_eq_true rfl) dX12_closes_116 (fun H locs hP hD hS => ?_)
      obtain ⟨V82, hV82⟩ : ∃ z, z = up2 V69 0 73 z81 := ⟨_, rfl⟩
      have hP : va_P D vwCl (mw ad kk ks.1 V82 L) H := by rw [hV82]; exact hP
      have hD : va_D A (mw ad kk ks.1 V82 L) := by rw [hV82]; exact hD
      have hMV82 : rgd bM V82 := hMV69.put hV82 (show 0 ≤ z81.toInt ∧ z81.toInt ≤ 1000000 from by first | omega | ((try (have i_t66 := Imp.go t66 (by omega))); (try (have i_rt := Imp.go rt (by omega))); (try (have i_rt := Imp.go rt (by omega))); (try (have i_t66 := Imp.go t66 (by omega))); omega))
      have agV82 : agr [(0, 60), (0, 65), (0, 68), (0, 69), (0, 73), (0, 76), (0, 90), (0, 91), (0, 92), (0, 93), (0, 95), (0, 96), (0, 98)] [59, 61, 62, 63, 64, 66, 67, 74, 75, 77, 78, 79, 80, 94, 97] V V82 := agV69.up hV82 rfl
      have fm83 : FRM V V69 (-1) := (t68 : FRM V V69 (-1))
      have fm84 : FRM V V82 (-1) := (FRM.tr fm83 (FRM.ag (show agr [(0, 73)] [] V69 V82 from (agr.up agr.rf hV82 rfl)) ⟨⟨rfl, fun _ => rfl, fun _ => rfl, fun _ => rfl, fun _ => rfl, fun _ => rfl, fun _ => rfl⟩, by decide, by decide, rfl, rfl, fun _ => rfl, fun _ => rfl, fun _ => rfl, fun _ => rfl, fun _ => rfl, fun _ => rfl⟩) agV69 ⟨rfl, fun _ => rfl, fun _ => rfl, fun _ => rfl, fun _ => rfl, fun _ => rfl, fun _ => rfl⟩ (by omega))
      have ko2 := i_clamp (x := p0) rfl (by omega)
      have hst := (fm84.2.1 (Int32.toNatClampNeg p0) (by omega)).2.2.2 st1
      have rt85 : RT V82 := RT.ag t67 hMV69 (show agr [(0, 73)] [] V69 V82 from (agr.up agr.rf hV82 rfl)) ⟨⟨rfl, fun _ => rfl, fun _ => rfl, fun _ => rfl, fun _ => rfl, fun _ => rfl, fun _ => rfl⟩, by decide, by decide, rfl, rfl, fun _ => rfl, fun _ => rfl, fun _ => rfl, fun _ => rfl, fun _ => rfl, fun _ => rfl⟩ (c0k.ag (show agr [(0, 73)] [] V69 V82 from (agr.up agr.rf hV82 rfl)) rfl)
      have hs2 : (V82 63 (Int32.toNatClampNeg p0)).toInt ≤ 2 := (hMV82 63 _).2
      refine lv_aload_n hx hb dX12_closes_119 rfl (lv_at hl 2 rfl) ?_
      refine va_get (D := D) (ci := 12) (v := .ref (ad 63)) (C := RX12) (T := TX12) (N := 100) hx hb hg inX12 hown hK hP 0 rfl rfl 63 (by decide) (hg _ w1769) (fun _ h9 => h9) rfl dX12_closes_120 ?_
      refine lv_iload_n hx hb dX12_closes_123 rfl (lv_at hl 3 rfl) ?_
      refine lv_iconst (v := 2) hx hb dX12_closes_124 (by decide) ?_
      refine va_iast (D := D) (i := p0) (x := 2) hx hb hK hP hD hS 48 47 rfl rfl (i_in (a := p0.toInt) rfl (by first | omega | ((try (have i_t66 := Imp.go t66 (by omega))); (try (have i_rt := Imp.go rt (by omega))); (try (have i_rt := Imp.go rt (by omega))); (try (have i_t66 := Imp.go t66 (by omega))); omega))) dX12_closes_125 (fun H locs hP hD hS => ?_)
      obtain ⟨V86, hV86⟩ : ∃ z, z = up2 V82 63 (Int32.toNatClampNeg p0) 2 := ⟨_, rfl⟩
      have hP : va_P D vwCl (mw ad kk ks.1 V86 L) H := by rw [hV86]; exact hP
      have hD : va_D A (mw ad kk ks.1 V86 L) := by rw [hV86]; exact hD
      have hMV86 : rgd bM V86 := hMV82.put hV86 (show 0 ≤ Int32.toInt 2 ∧ Int32.toInt 2 ≤ 2 from by decide)
      have agV86 : agr [(0, 60), (0, 65), (0, 68), (0, 69), (0, 73), (0, 76), (0, 90), (0, 91), (0, 92), (0, 93), (0, 95), (0, 96), (0, 98)] [59, 61, 62, 63, 64, 66, 67, 74, 75, 77, 78, 79, 80, 94, 97] V V86 := agV82.up hV86 rfl
      refine lv_iload_n hx hb dX12_closes_126 rfl (lv_at hl 0 rfl) ?_
      refine lv_iconst (v := 2) hx hb dX12_closes_127 (by decide) ?_
      refine lv_icmp_ne (tgt := 135) hx hb dX12_closes_128 (by decide) (fun c87 => ?_) (fun c87 => ?_)
      · skip
        have f88 : z53.toInt ≠ 2 := b_neq rfl (by decide) c87
        refine lv_iconst (v := 0) hx hb dX12_closes_135 (by decide) ?_
        have pq89 : (V86 0 93).toInt = ((V69 0 93)).toInt := congrArg Int32.toInt ((up2_o hV86 (by decide)).trans (up2_k hV82 (by decide)))
        have pq90 : (V86 0 98).toInt = ((V69 0 98)).toInt := congrArg Int32.toInt ((up2_o hV86 (by decide)).trans (up2_k hV82 (by decide)))
        have pq91 : (V86 0 60).toInt = ((V69 0 60)).toInt := congrArg Int32.toInt ((up2_o hV86 (by decide)).trans (up2_k hV82 (by decide)))
        have pq92 : (V86 0 65).toInt = ((V69 0 65)).toInt := congrArg Int32.toInt ((up2_o hV86 (by decide)).trans (up2_k hV82 (by decide)))
        have pq93 : (V86 0 73).toInt = z81.toInt := congrArg Int32.toInt ((up2_o hV86 (by decide)).trans (up2_s hV82))
        have pq94 : (V86 0 95).toInt = ((V69 0 95)).toInt := congrArg Int32.toInt ((up2_o hV86 (by decide)).trans (up2_k hV82 (by decide)))
        have pq95 : (V86 0 69).toInt = ((V69 0 69)).toInt := congrArg Int32.toInt ((up2_o hV86 (by decide)).trans (up2_k hV82 (by decide)))
        have pq96 : (V86 0 76).toInt = ((V69 0 76)).toInt := congrArg Int32.toInt ((up2_o hV86 (by decide)).trans (up2_k hV82 (by decide)))
        have pq97 : (V82 0 95).toInt = ((V69 0 95)).toInt := congrArg Int32.toInt (up2_k hV82 (by decide))
        exact W.zret (v := 0) hx hb hr rfl (fun t ht hW => ⟨⟨0, (V86, L), rfl, ⟨hMV86, agV86, rfl, (by decide), (show (V86 0 93).toInt = (V 0 93).toInt from by first | omega | ((try (have i_t66 := Imp.go t66 (by omega))); (try (have i_rt := Imp.go rt (by omega))); (try (have i_rt := Imp.go rt (by omega))); (try (have i_t66 := Imp.go t66 (by omega))); omega)), (show (V86 0 98).toInt = (V 0 98).toInt from by first | omega | ((try (have i_t66 := Imp.go t66 (by omega))); (try (have i_rt := Imp.go rt (by omega))); (try (have i_rt := Imp.go rt (by omega))); (try (have i_t66 := Imp.go t66 (by omega))); omega)), (show (V 0 60).toInt ≤ (V86 0 60).toInt from by first | omega | ((try (have i_t66 := Imp.go t66 (by omega))); (try (have i_rt := Imp.go rt (by omega))); (try (have i_rt := Imp.go rt (by omega))); (try (have i_t66 := Imp.go t66 (by omega))); omega)), (show (V 0 65).toInt ≤ (V86 0 65).toInt from by first | omega | ((try (have i_t66 := Imp.go t66 (by omega))); (try (have i_rt := Imp.go rt (by omega))); (try (have i_rt := Imp.go rt (by omega))); (try (have i_t66 := Imp.go t66 (by omega))); omega)), (show (V86 0 65).toInt - (V 0 65).toInt ≤ (V86 0 60).toInt - (V 0 60).toInt from by first | omega | ((try (have i_t66 := Imp.go t66 (by omega))); (try (have i_rt := Imp.go rt (by omega))); (try (have i_rt := Imp.go rt (by omega))); (try (have i_t66 := Imp.go t66 (by omega))); omega)), (show (V86 0 73).toInt + (V86 0 95).toInt - (V86 0 65).toInt ≤ (V 0 73).toInt + (V 0 95).toInt - (V 0 65).toInt + 1 from by first | omega | ((try (have i_t66 := Imp.go t66 (by omega))); (try (have i_rt := Imp.go rt (by omega))); (try (have i_rt := Imp.go rt (by omega))); (try (have i_t66 := Imp.go t66 (by omega))); omega)), (show (V 0 73).toInt ≤ (V86 0 73).toInt from by first | omega | ((try (have i_t66 := Imp.go t66 (by omega))); (try (have i_rt := Imp.go rt (by omega))); (try (have i_rt := Imp.go rt (by omega))); (try (have i_t66 := Imp.go t66 (by omega))); omega)), (show (V 0 69).toInt ≤ (V86 0 69).toInt from by first | omega | ((try (have i_t66 := Imp.go t66 (by omega))); (try (have i_rt := Imp.go rt (by omega))); (try (have i_rt := Imp.go rt (by omega))); (try (have i_t66 := Imp.go t66 (by omega))); omega)), (show (V86 0 95).toInt = (V 0 95).toInt from by first | omega | ((try (have i_t66 := Imp.go t66 (by omega))); (try (have i_rt := Imp.go rt (by omega))); (try (have i_rt := Imp.go rt (by omega))); (try (have i_t66 := Imp.go t66 (by omega))); omega)), (show (V86 0 76).toInt - (V86 0 69).toInt - (V86 0 73).toInt ≤ (V 0 76).toInt - (V 0 69).toInt - (V 0 73).toInt from by first | omega | ((try (have i_t66 := Imp.go t66 (by omega))); (try (have i_rt := Imp.go rt (by omega))); (try (have i_rt := Imp.go rt (by omega))); (try (have i_t66 := Imp.go t66 (by omega))); omega)), (RT.state rt85 hMV82 hV86 (by decide)), (FRM.tr fm84 (FRM.state hV86 (Or.inr ⟨by omega, by show _ ≤ (2 : Int32).toInt; have h9 : (2 : Int32).toInt = 2 := (by decide); omega⟩)) agV82 ⟨rfl, fun _ => rfl, fun _ => rfl, fun _ => rfl, fun _ => rfl, fun _ => rfl, fun _ => rfl⟩ (by omega))⟩, by rw [ht]; exact hP, va_K.moved hW.alike hK, hD⟩, hS.F ht⟩) hS.2.2 dX12_closes_136
      · skip
        have f98 : z53.toInt = 2 := b_eq rfl (by decide) c87
        refine lv_iconst (v := 1) hx hb dX12_closes_131 (by decide) ?_
        refine lv_goto (tgt := 136) hx hb dX12_closes_132 (by decide) ?_
        have pq99 : (V86 0 93).toInt = ((V69 0 93)).toInt := congrArg Int32.toInt ((up2_o hV86 (by decide)).trans (up2_k hV82 (by decide)))
        have pq100 : (V86 0 98).toInt = ((V69 0 98)).toInt := congrArg Int32.toInt ((up2_o hV86 (by decide)).trans (up2_k hV82 (by decide)))
        have pq101 : (V86 0 60).toInt = ((V69 0 60)).toInt := congrArg Int32.toInt ((up2_o hV86 (by decide)).trans (up2_k hV82 (by decide)))
        have pq102 : (V86 0 65).toInt = ((V69 0 65)).toInt := congrArg Int32.toInt ((up2_o hV86 (by decide)).trans (up2_k hV82 (by decide)))
        have pq103 : (V86 0 73).toInt = z81.toInt := congrArg Int32.toInt ((up2_o hV86 (by decide)).trans (up2_s hV82))
        have pq104 : (V86 0 95).toInt = ((V69 0 95)).toInt := congrArg Int32.toInt ((up2_o hV86 (by decide)).trans (up2_k hV82 (by decide)))
        have pq105 : (V86 0 69).toInt = ((V69 0 69)).toInt := congrArg Int32.toInt ((up2_o hV86 (by decide)).trans (up2_k hV82 (by decide)))
        have pq106 : (V86 0 76).toInt = ((V69 0 76)).toInt := congrArg Int32.toInt ((up2_o hV86 (by decide)).trans (up2_k hV82 (by decide)))
        have pq107 : (V82 0 95).toInt = ((V69 0 95)).toInt := congrArg Int32.toInt (up2_k hV82 (by decide))
        exact W.zret (v := 1) hx hb hr rfl (fun t ht hW => ⟨⟨1, (V86, L), rfl, ⟨hMV86, agV86, rfl, (by decide), (show (V86 0 93).toInt = (V 0 93).toInt from by first | omega | ((try (have i_t66 := Imp.go t66 (by omega))); (try (have i_rt := Imp.go rt (by omega))); (try (have i_rt := Imp.go rt (by omega))); (try (have i_t66 := Imp.go t66 (by omega))); omega)), (show (V86 0 98).toInt = (V 0 98).toInt from by first | omega | ((try (have i_t66 := Imp.go t66 (by omega))); (try (have i_rt := Imp.go rt (by omega))); (try (have i_rt := Imp.go rt (by omega))); (try (have i_t66 := Imp.go t66 (by omega))); omega)), (show (V 0 60).toInt ≤ (V86 0 60).toInt from by first | omega | ((try (have i_t66 := Imp.go t66 (by omega))); (try (have i_rt := Imp.go rt (by omega))); (try (have i_rt := Imp.go rt (by omega))); (try (have i_t66 := Imp.go t66 (by omega))); omega)), (show (V 0 65).toInt ≤ (V86 0 65).toInt from by first | omega | ((try (have i_t66 := Imp.go t66 (by omega))); (try (have i_rt := Imp.go rt (by omega))); (try (have i_rt := Imp.go rt (by omega))); (try (have i_t66 := Imp.go t66 (by omega))); omega)), (show (V86 0 65).toInt - (V 0 65).toInt ≤ (V86 0 60).toInt - (V 0 60).toInt from by first | omega | ((try (have i_t66 := Imp.go t66 (by omega))); (try (have i_rt := Imp.go rt (by omega))); (try (have i_rt := Imp.go rt (by omega))); (try (have i_t66 := Imp.go t66 (by omega))); omega)), (show (V86 0 73).toInt + (V86 0 95).toInt - (V86 0 65).toInt ≤ (V 0 73).toInt + (V 0 95).toInt - (V 0 65).toInt + 1 from by first | omega | ((try (have i_t66 := Imp.go t66 (by omega))); (try (have i_rt := Imp.go rt (by omega))); (try (have i_rt := Imp.go rt (by omega))); (try (have i_t66 := Imp.go t66 (by omega))); omega)), (show (V 0 73).toInt ≤ (V86 0 73).toInt from by first | omega | ((try (have i_t66 := Imp.go t66 (by omega))); (try (have i_rt := Imp.go rt (by omega))); (try (have i_rt := Imp.go rt (by omega))); (try (have i_t66 := Imp.go t66 (by omega))); omega)), (show (V 0 69).toInt ≤ (V86 0 69).toInt from by first | omega | ((try (have i_t66 := Imp.go t66 (by omega))); (try (have i_rt := Imp.go rt (by omega))); (try (have i_rt := Imp.go rt (by omega))); (try (have i_t66 := Imp.go t66 (by omega))); omega)), (show (V86 0 95).toInt = (V 0 95).toInt from by first | omega | ((try (have i_t66 := Imp.go t66 (by omega))); (try (have i_rt := Imp.go rt (by omega))); (try (have i_rt := Imp.go rt (by omega))); (try (have i_t66 := Imp.go t66 (by omega))); omega)), (show (V86 0 76).toInt - (V86 0 69).toInt - (V86 0 73).toInt ≤ (V 0 76).toInt - (V 0 69).toInt - (V 0 73).toInt from by first | omega | ((try (have i_t66 := Imp.go t66 (by omega))); (try (have i_rt := Imp.go rt (by omega))); (try (have i_rt := Imp.go rt (by omega))); (try (have i_t66 := Imp.go t66 (by omega))); omega)), (RT.state rt85 hMV82 hV86 (by decide)), (FRM.tr fm84 (FRM.state hV86 (Or.inr ⟨by omega, by show _ ≤ (2 : Int32).toInt; have h9 : (2 : Int32).toInt = 2 := (by decide); omega⟩)) agV82 ⟨rfl, fun _ => rfl, fun _ => rfl, fun _ => rfl, fun _ => rfl, fun _ => rfl, fun _ => rfl⟩ (by omega))⟩, by rw [ht]; exact hP, va_K.moved hW.alike hK, hD⟩, hS.F ht⟩) hS.2.2 dX12_closes_136
    · skip
      have f108 : ((V69 0 73)).toInt < 300 := b_nle (by decide) rfl c79
      refine lv_aload_n hx hb dX12_closes_56 rfl (lv_at hl 2 rfl) ?_
      refine va_get (D := D) (ci := 12) (v := .ref (ad 74)) (C := RX12) (T := TX12) (N := 100) hx hb hg inX12 hown hK hP 0 rfl rfl 74 (by decide) (hg _ w1780) (fun _ h9 => h9) rfl dX12_closes_57 ?_
      refine lv_aload_n hx hb dX12_closes_60 rfl (lv_at hl 2 rfl) ?_
      refine va_get (D := D) (ci := 12) (v := .int (V69 0 73)) (C := RX12) (T := TX12) (N := 100) hx hb hg inX12 hown hK hP 0 rfl rfl 73 (by decide) (hg _ w1779) (fun _ h9 => h9) rfl dX12_closes_61 ?_
      refine lv_iload_n hx hb dX12_closes_64 rfl (lv_at hl 3 rfl) ?_
      refine va_iast (D := D) (i := (V69 0 73)) (x := p0) hx hb hK hP hD hS 52 51 rfl rfl (i_in (a := ((V69 0 73)).toInt) rfl (by first | omega | ((try (have i_t66 := Imp.go t66 (by omega))); (try (have i_rt := Imp.go rt (by omega))); (try (have i_rt := Imp.go rt (by omega))); (try (have i_t66 := Imp.go t66 (by omega))); omega))) dX12_closes_65 (fun H locs hP hD hS => ?_)
      obtain ⟨V109, hV109⟩ : ∃ z, z = up2 V69 74 (Int32.toNatClampNeg (V69 0 73)) p0 := ⟨_, rfl⟩
      have hP : va_P D vwCl (mw ad kk ks.1 V109 L) H := by rw [hV109]; exact hP
      have hD : va_D A (mw ad kk ks.1 V109 L) := by rw [hV109]; exact hD
      have hMV109 : rgd bM V109 := hMV69.put hV109 (i_full _)
      have agV109 : agr [(0, 60), (0, 65), (0, 68), (0, 69), (0, 73), (0, 76), (0, 90), (0, 91), (0, 92), (0, 93), (0, 95), (0, 96), (0, 98)] [59, 61, 62, 63, 64, 66, 67, 74, 75, 77, 78, 79, 80, 94, 97] V V109 := agV69.up hV109 rfl
      refine lv_aload_n hx hb dX12_closes_66 rfl (lv_at hl 2 rfl) ?_
      refine va_get (D := D) (ci := 12) (v := .ref (ad 75)) (C := RX12) (T := TX12) (N := 100) hx hb hg inX12 hown hK hP 0 rfl rfl 75 (by decide) (hg _ w1781) (fun _ h9 => h9) rfl dX12_closes_67 ?_
      refine lv_aload_n hx hb dX12_closes_70 rfl (lv_at hl 2 rfl) ?_
      refine va_get (D := D) (ci := 12) (v := .int (V109 0 73)) (C := RX12) (T := TX12) (N := 100) hx hb hg inX12 hown hK hP 0 rfl rfl 73 (by decide) (hg _ w1779) (fun _ h9 => h9) rfl dX12_closes_71 ?_
      refine g_top (v := (V69 0 73)) (up2_o hV109 (by decide)) ?_
      refine lv_iload_n hx hb dX12_closes_74 rfl (lv_at hl 0 rfl) ?_
      refine lv_if_ne (tgt := 82) hx hb dX12_closes_75 (by decide) (fun c110 => ?_) (fun c110 => ?_)
      · skip
        have f111 : z53.toInt ≠ 0 := b_neq rfl (by decide) c110
        refine lv_iload_n hx hb dX12_closes_82 rfl (lv_at hl 0 rfl) ?_
        refine lv_iconst (v := 2) hx hb dX12_closes_83 (by decide) ?_
        refine lv_icmp_ne (tgt := 92) hx hb dX12_closes_84 (by decide) (fun c112 => ?_) (fun c112 => ?_)
        · skip
          have f113 : z53.toInt ≠ 2 := b_neq rfl (by decide) c112
          refine lv_aload_n hx hb dX12_closes_92 rfl (lv_at hl 2 rfl) ?_
          refine va_get (D := D) (ci := 12) (v := .int (V109 0 90)) (C := RX12) (T := TX12) (N := 100) hx hb hg inX12 hown hK hP 0 rfl rfl 90 (by decide) (hg _ w1796) (fun _ h9 => h9) rfl dX12_closes_93 ?_
          refine g_top (v := (V69 0 90)) (up2_o hV109 (by decide)) ?_
          refine lv_if_le (tgt := 104) hx hb dX12_closes_96 (by decide) (fun c114 => ?_) (fun c114 => ?_)
          · skip
            have f115 : ((V69 0 90)).toInt ≤ 0 := b_le rfl (by decide) c114
            refine lv_aload_n hx hb dX12_closes_104 rfl (lv_at hl 2 rfl) ?_
            refine va_get (D := D) (ci := 12) (v := .int (V109 0 91)) (C := RX12) (T := TX12) (N := 100) hx hb hg inX12 hown hK hP 0 rfl rfl 91 (by decide) (hg _ w1797) (fun _ h9 => h9) rfl dX12_closes_105 ?_
            refine g_top (v := (V69 0 91)) (up2_o hV109 (by decide)) ?_
            refine va_iast (D := D) (i := (V69 0 73)) (x := (V69 0 91)) hx hb hK hP hD hS 53 52 rfl rfl (i_in (a := ((V69 0 73)).toInt) rfl (by first | omega | ((try (have i_t66 := Imp.go t66 (by omega))); (try (have i_rt := Imp.go rt (by omega))); (try (have i_rt := Imp.go rt (by omega))); (try (have i_t66 := Imp.go t66 (by omega))); omega))) dX12_closes_108 (fun H locs hP hD hS => ?_)
            obtain ⟨V116, hV116⟩ : ∃ z, z = up2 V109 75 (Int32.toNatClampNeg (V69 0 73)) (V69 0 91) := ⟨_, rfl⟩
            have hP : va_P D vwCl (mw ad kk ks.1 V116 L) H := by rw [hV116]; exact hP
            have hD : va_D A (mw ad kk ks.1 V116 L) := by rw [hV116]; exact hD
            have hMV116 : rgd bM V116 := hMV109.put hV116 (i_full _)
            have agV116 : agr [(0, 60), (0, 65), (0, 68), (0, 69), (0, 73), (0, 76), (0, 90), (0, 91), (0, 92), (0, 93), (0, 95), (0, 96), (0, 98)] [59, 61, 62, 63, 64, 66, 67, 74, 75, 77, 78, 79, 80, 94, 97] V V116 := agV109.up hV116 rfl
            refine lv_aload_n hx hb dX12_closes_109 rfl (lv_at hl 2 rfl) ?_
            refine lv_dup hx hb dX12_closes_110 rfl ?_
            refine va_get (D := D) (ci := 12) (v := .int (V116 0 73)) (C := RX12) (T := TX12) (N := 100) hx hb hg inX12 hown hK hP 0 rfl rfl 73 (by decide) (hg _ w1779) (fun _ h9 => h9) rfl dX12_closes_111 ?_
            refine g_top (v := (V69 0 73)) ((up2_o hV116 (by decide)).trans (up2_o hV109 (by decide))) ?_
            refine lv_iconst (v := 1) hx hb dX12_closes_114 (by decide) ?_
            refine lv_iadd hx hb dX12_closes_115 ?_
            refine lv_topi (fun z117 ez117 => ?_)
            have hz117 : z117.toInt = ((V69 0 73)).toInt + 1 := i_add ez117 rfl (by decide) (by omega)
            refine va_put (D := D) (ci := 12) (v := .int z117) (ty := tyX12 73) (C := RX12) (T := TX12) (N := 100) hx hb hg inX12 tyX12 tyX12_ok nmX12 hown hK hP hD hS 0 rfl rfl 73 (by decide) (hg _ w1779) (fun _ h9 => h9) rfl (tyX12_ok 73 (by decide)) rfl rfl (Nat.le_of_ble_eq_true rfl) dX12_closes_116 (fun H locs hP hD hS => ?_)
            obtain ⟨V118, hV118⟩ : ∃ z, z = up2 V116 0 73 z117 := ⟨_, rfl⟩
            have hP : va_P D vwCl (mw ad kk ks.1 V118 L) H := by rw [hV118]; exact hP
            have hD : va_D A (mw ad kk ks.1 V118 L) := by rw [hV118]; exact hD
            have hMV118 : rgd bM V118 := hMV116.put hV118 (show 0 ≤ z117.toInt ∧ z117.toInt ≤ 1000000 from by first | omega | ((try (have i_t66 := Imp.go t66 (by omega))); (try (have i_rt := Imp.go rt (by omega))); (try (have i_rt := Imp.go rt (by omega))); (try (have i_t66 := Imp.go t66 (by omega))); omega))
            have agV118 : agr [(0, 60), (0, 65), (0, 68), (0, 69), (0, 73), (0, 76), (0, 90), (0, 91), (0, 92), (0, 93), (0, 95), (0, 96), (0, 98)] [59, 61, 62, 63, 64, 66, 67, 74, 75, 77, 78, 79, 80, 94, 97] V V118 := agV116.up hV118 rfl
            have fm119 : FRM V V69 (-1) := (t68 : FRM V V69 (-1))
            have fm120 : FRM V V118 (-1) := (FRM.tr fm119 (FRM.ag (show agr [(0, 73)] [74, 75] V69 V118 from (agr.up (agr.up (agr.up agr.rf hV109 rfl) hV116 rfl) hV118 rfl)) ⟨⟨rfl, fun _ => rfl, fun _ => rfl, fun _ => rfl, fun _ => rfl, fun _ => rfl, fun _ => rfl⟩, by decide, by decide, rfl, rfl, fun _ => rfl, fun _ => rfl, fun _ => rfl, fun _ => rfl, fun _ => rfl, fun _ => rfl⟩) agV69 ⟨rfl, fun _ => rfl, fun _ => rfl, fun _ => rfl, fun _ => rfl, fun _ => rfl, fun _ => rfl⟩ (by omega))
            have ko2 := i_clamp (x := p0) rfl (by omega)
            have hst := (fm120.2.1 (Int32.toNatClampNeg p0) (by omega)).2.2.2 st1
            have rt121 : RT V118 := RT.ag t67 hMV69 (show agr [(0, 73)] [74, 75] V69 V118 from (agr.up (agr.up (agr.up agr.rf hV109 rfl) hV116 rfl) hV118 rfl)) ⟨⟨rfl, fun _ => rfl, fun _ => rfl, fun _ => rfl, fun _ => rfl, fun _ => rfl, fun _ => rfl⟩, by decide, by decide, rfl, rfl, fun _ => rfl, fun _ => rfl, fun _ => rfl, fun _ => rfl, fun _ => rfl, fun _ => rfl⟩ (c0k.ag (show agr [(0, 73)] [74, 75] V69 V118 from (agr.up (agr.up (agr.up agr.rf hV109 rfl) hV116 rfl) hV118 rfl)) rfl)
            have hs2 : (V118 63 (Int32.toNatClampNeg p0)).toInt ≤ 2 := (hMV118 63 _).2
            refine lv_aload_n hx hb dX12_closes_119 rfl (lv_at hl 2 rfl) ?_
            refine va_get (D := D) (ci := 12) (v := .ref (ad 63)) (C := RX12) (T := TX12) (N := 100) hx hb hg inX12 hown hK hP 0 rfl rfl 63 (by decide) (hg _ w1769) (fun _ h9 => h9) rfl dX12_closes_120 ?_
            refine lv_iload_n hx hb dX12_closes_123 rfl (lv_at hl 3 rfl) ?_
            refine lv_iconst (v := 2) hx hb dX12_closes_124 (by decide) ?_
            refine va_iast (D := D) (i := p0) (x := 2) hx hb hK hP hD hS 48 47 rfl rfl (i_in (a := p0.toInt) rfl (by first | omega | ((try (have i_t66 := Imp.go t66 (by omega))); (try (have i_rt := Imp.go rt (by omega))); (try (have i_rt := Imp.go rt (by omega))); (try (have i_t66 := Imp.go t66 (by omega))); omega))) dX12_closes_125 (fun H locs hP hD hS => ?_)
            obtain ⟨V122, hV122⟩ : ∃ z, z = up2 V118 63 (Int32.toNatClampNeg p0) 2 := ⟨_, rfl⟩
            have hP : va_P D vwCl (mw ad kk ks.1 V122 L) H := by rw [hV122]; exact hP
            have hD : va_D A (mw ad kk ks.1 V122 L) := by rw [hV122]; exact hD
            have hMV122 : rgd bM V122 := hMV118.put hV122 (show 0 ≤ Int32.toInt 2 ∧ Int32.toInt 2 ≤ 2 from by decide)
            have agV122 : agr [(0, 60), (0, 65), (0, 68), (0, 69), (0, 73), (0, 76), (0, 90), (0, 91), (0, 92), (0, 93), (0, 95), (0, 96), (0, 98)] [59, 61, 62, 63, 64, 66, 67, 74, 75, 77, 78, 79, 80, 94, 97] V V122 := agV118.up hV122 rfl
            refine lv_iload_n hx hb dX12_closes_126 rfl (lv_at hl 0 rfl) ?_
            refine lv_iconst (v := 2) hx hb dX12_closes_127 (by decide) ?_
            refine lv_icmp_ne (tgt := 135) hx hb dX12_closes_128 (by decide) (fun c123 => ?_) (fun c123 => ?_)
            · skip
              have f124 : z53.toInt ≠ 2 := b_neq rfl (by decide) c123
              refine lv_iconst (v := 0) hx hb dX12_closes_135 (by decide) ?_
              have pq125 : (V122 0 93).toInt = ((V69 0 93)).toInt := congrArg Int32.toInt ((up2_o hV122 (by decide)).trans ((up2_k hV118 (by decide)).trans ((up2_o hV116 (by decide)).trans (up2_o hV109 (by decide)))))
              have pq126 : (V122 0 98).toInt = ((V69 0 98)).toInt := congrArg Int32.toInt ((up2_o hV122 (by decide)).trans ((up2_k hV118 (by decide)).trans ((up2_o hV116 (by decide)).trans (up2_o hV109 (by decide)))))
              have pq127 : (V122 0 60).toInt = ((V69 0 60)).toInt := congrArg Int32.toInt ((up2_o hV122 (by decide)).trans ((up2_k hV118 (by decide)).trans ((up2_o hV116 (by decide)).trans (up2_o hV109 (by decide)))))
              have pq128 : (V122 0 65).toInt = ((V69 0 65)).toInt := congrArg Int32.toInt ((up2_o hV122 (by decide)).trans ((up2_k hV118 (by decide)).trans ((up2_o hV116 (by decide)).trans (up2_o hV109 (by decide)))))
              have pq129 : (V122 0 73).toInt = z117.toInt := congrArg Int32.toInt ((up2_o hV122 (by decide)).trans (up2_s hV118))
              have pq130 : (V122 0 95).toInt = ((V69 0 95)).toInt := congrArg Int32.toInt ((up2_o hV122 (by decide)).trans ((up2_k hV118 (by decide)).trans ((up2_o hV116 (by decide)).trans (up2_o hV109 (by decide)))))
              have pq131 : (V122 0 69).toInt = ((V69 0 69)).toInt := congrArg Int32.toInt ((up2_o hV122 (by decide)).trans ((up2_k hV118 (by decide)).trans ((up2_o hV116 (by decide)).trans (up2_o hV109 (by decide)))))
              have pq132 : (V122 0 76).toInt = ((V69 0 76)).toInt := congrArg Int32.toInt ((up2_o hV122 (by decide)).trans ((up2_k hV118 (by decide)).trans ((up2_o hV116 (by decide)).trans (up2_o hV109 (by decide)))))
              have pq133 : (V118 0 95).toInt = ((V69 0 95)).toInt := congrArg Int32.toInt ((up2_k hV118 (by decide)).trans ((up2_o hV116 (by decide)).trans (up2_o hV109 (by decide))))
              exact W.zret (v := 0) hx hb hr rfl (fun t ht hW => ⟨⟨0, (V122, L), rfl, ⟨hMV122, agV122, rfl, (by decide), (show (V122 0 93).toInt = (V 0 93).toInt from by first | omega | ((try (have i_t66 := Imp.go t66 (by omega))); (try (have i_rt := Imp.go rt (by omega))); (try (have i_rt := Imp.go rt (by omega))); (try (have i_t66 := Imp.go t66 (by omega))); omega)), (show (V122 0 98).toInt = (V 0 98).toInt from by first | omega | ((try (have i_t66 := Imp.go t66 (by omega))); (try (have i_rt := Imp.go rt (by omega))); (try (have i_rt := Imp.go rt (by omega))); (try (have i_t66 := Imp.go t66 (by omega))); omega)), (show (V 0 60).toInt ≤ (V122 0 60).toInt from by first | omega | ((try (have i_t66 := Imp.go t66 (by omega))); (try (have i_rt := Imp.go rt (by omega))); (try (have i_rt := Imp.go rt (by omega))); (try (have i_t66 := Imp.go t66 (by omega))); omega)), (show (V 0 65).toInt ≤ (V122 0 65).toInt from by first | omega | ((try (have i_t66 := Imp.go t66 (by omega))); (try (have i_rt := Imp.go rt (by omega))); (try (have i_rt := Imp.go rt (by omega))); (try (have i_t66 := Imp.go t66 (by omega))); omega)), (show (V122 0 65).toInt - (V 0 65).toInt ≤ (V122 0 60).toInt - (V 0 60).toInt from by first | omega | ((try (have i_t66 := Imp.go t66 (by omega))); (try (have i_rt := Imp.go rt (by omega))); (try (have i_rt := Imp.go rt (by omega))); (try (have i_t66 := Imp.go t66 (by omega))); omega)), (show (V122 0 73).toInt + (V122 0 95).toInt - (V122 0 65).toInt ≤ (V 0 73).toInt + (V 0 95).toInt - (V 0 65).toInt + 1 from by first | omega | ((try (have i_t66 := Imp.go t66 (by omega))); (try (have i_rt := Imp.go rt (by omega))); (try (have i_rt := Imp.go rt (by omega))); (try (have i_t66 := Imp.go t66 (by omega))); omega)), (show (V 0 73).toInt ≤ (V122 0 73).toInt from by first | omega | ((try (have i_t66 := Imp.go t66 (by omega))); (try (have i_rt := Imp.go rt (by omega))); (try (have i_rt := Imp.go rt (by omega))); (try (have i_t66 := Imp.go t66 (by omega))); omega)), (show (V 0 69).toInt ≤ (V122 0 69).toInt from by first | omega | ((try (have i_t66 := Imp.go t66 (by omega))); (try (have i_rt := Imp.go rt (by omega))); (try (have i_rt := Imp.go rt (by omega))); (try (have i_t66 := Imp.go t66 (by omega))); omega)), (show (V122 0 95).toInt = (V 0 95).toInt from by first | omega | ((try (have i_t66 := Imp.go t66 (by omega))); (try (have i_rt := Imp.go rt (by omega))); (try (have i_rt := Imp.go rt (by omega))); (try (have i_t66 := Imp.go t66 (by omega))); omega)), (show (V122 0 76).toInt - (V122 0 69).toInt - (V122 0 73).toInt ≤ (V 0 76).toInt - (V 0 69).toInt - (V 0 73).toInt from by first | omega | ((try (have i_t66 := Imp.go t66 (by omega))); (try (have i_rt := Imp.go rt (by omega))); (try (have i_rt := Imp.go rt (by omega))); (try (have i_t66 := Imp.go t66 (by omega))); omega)), (RT.state rt121 hMV118 hV122 (by decide)), (FRM.tr fm120 (FRM.state hV122 (Or.inr ⟨by omega, by show _ ≤ (2 : Int32).toInt; have h9 : (2 : Int32).toInt = 2 := (by decide); omega⟩)) agV118 ⟨rfl, fun _ => rfl, fun _ => rfl, fun _ => rfl, fun _ => rfl, fun _ => rfl, fun _ => rfl⟩ (by omega))⟩, by rw [ht]; exact hP, va_K.moved hW.alike hK, hD⟩, hS.F ht⟩) hS.2.2 dX12_closes_136
            · skip
              have f134 : z53.toInt = 2 := b_eq rfl (by decide) c123
              exfalso; first | omega | ((try (have i_t66 := Imp.go t66 (by omega))); (try (have i_rt := Imp.go rt (by omega))); (try (have i_rt := Imp.go rt (by omega))); (try (have i_t66 := Imp.go t66 (by omega))); omega)
          · skip
            have f135 : 0 < ((V69 0 90)).toInt := b_nle rfl (by decide) c114
            refine lv_bipush (v := 20) hx hb dX12_closes_99 (by decide) ?_
            refine lv_goto (tgt := 108) hx hb dX12_closes_101 (by decide) ?_
            refine va_iast (D := D) (i := (V69 0 73)) (x := 20) hx hb hK hP hD hS 53 52 rfl rfl (i_in (a := ((V69 0 73)).toInt) rfl (by first | omega | ((try (have i_t66 := Imp.go t66 (by omega))); (try (have i_rt := Imp.go rt (by omega))); (try (have i_rt := Imp.go rt (by omega))); (try (have i_t66 := Imp.go t66 (by omega))); omega))) dX12_closes_108 (fun H locs hP hD hS => ?_)
            obtain ⟨V136, hV136⟩ : ∃ z, z = up2 V109 75 (Int32.toNatClampNeg (V69 0 73)) 20 := ⟨_, rfl⟩
            have hP : va_P D vwCl (mw ad kk ks.1 V136 L) H := by rw [hV136]; exact hP
            have hD : va_D A (mw ad kk ks.1 V136 L) := by rw [hV136]; exact hD
            have hMV136 : rgd bM V136 := hMV109.put hV136 (i_full _)
            have agV136 : agr [(0, 60), (0, 65), (0, 68), (0, 69), (0, 73), (0, 76), (0, 90), (0, 91), (0, 92), (0, 93), (0, 95), (0, 96), (0, 98)] [59, 61, 62, 63, 64, 66, 67, 74, 75, 77, 78, 79, 80, 94, 97] V V136 := agV109.up hV136 rfl
            refine lv_aload_n hx hb dX12_closes_109 rfl (lv_at hl 2 rfl) ?_
            refine lv_dup hx hb dX12_closes_110 rfl ?_
            refine va_get (D := D) (ci := 12) (v := .int (V136 0 73)) (C := RX12) (T := TX12) (N := 100) hx hb hg inX12 hown hK hP 0 rfl rfl 73 (by decide) (hg _ w1779) (fun _ h9 => h9) rfl dX12_closes_111 ?_
            refine g_top (v := (V69 0 73)) ((up2_o hV136 (by decide)).trans (up2_o hV109 (by decide))) ?_
            refine lv_iconst (v := 1) hx hb dX12_closes_114 (by decide) ?_
            refine lv_iadd hx hb dX12_closes_115 ?_
            refine lv_topi (fun z137 ez137 => ?_)
            have hz137 : z137.toInt = ((V69 0 73)).toInt + 1 := i_add ez137 rfl (by decide) (by omega)
            refine va_put (D := D) (ci := 12) (v := .int z137) (ty := tyX12 73) (C := RX12) (T := TX12) (N := 100) hx hb hg inX12 tyX12 tyX12_ok nmX12 hown hK hP hD hS 0 rfl rfl 73 (by decide) (hg _ w1779) (fun _ h9 => h9) rfl (tyX12_ok 73 (by decide)) rfl rfl (Nat.le_of_ble_eq_true rfl) dX12_closes_116 (fun H locs hP hD hS => ?_)
            obtain ⟨V138, hV138⟩ : ∃ z, z = up2 V136 0 73 z137 := ⟨_, rfl⟩
            have hP : va_P D vwCl (mw ad kk ks.1 V138 L) H := by rw [hV138]; exact hP
            have hD : va_D A (mw ad kk ks.1 V138 L) := by rw [hV138]; exact hD
            have hMV138 : rgd bM V138 := hMV136.put hV138 (show 0 ≤ z137.toInt ∧ z137.toInt ≤ 1000000 from by first | omega | ((try (have i_t66 := Imp.go t66 (by omega))); (try (have i_rt := Imp.go rt (by omega))); (try (have i_rt := Imp.go rt (by omega))); (try (have i_t66 := Imp.go t66 (by omega))); omega))
            have agV138 : agr [(0, 60), (0, 65), (0, 68), (0, 69), (0, 73), (0, 76), (0, 90), (0, 91), (0, 92), (0, 93), (0, 95), (0, 96), (0, 98)] [59, 61, 62, 63, 64, 66, 67, 74, 75, 77, 78, 79, 80, 94, 97] V V138 := agV136.up hV138 rfl
            have fm139 : FRM V V69 (-1) := (t68 : FRM V V69 (-1))
            have fm140 : FRM V V138 (-1) := (FRM.tr fm139 (FRM.ag (show agr [(0, 73)] [74, 75] V69 V138 from (agr.up (agr.up (agr.up agr.rf hV109 rfl) hV136 rfl) hV138 rfl)) ⟨⟨rfl, fun _ => rfl, fun _ => rfl, fun _ => rfl, fun _ => rfl, fun _ => rfl, fun _ => rfl⟩, by decide, by decide, rfl, rfl, fun _ => rfl, fun _ => rfl, fun _ => rfl, fun _ => rfl, fun _ => rfl, fun _ => rfl⟩) agV69 ⟨rfl, fun _ => rfl, fun _ => rfl, fun _ => rfl, fun _ => rfl, fun _ => rfl, fun _ => rfl⟩ (by omega))
            have ko2 := i_clamp (x := p0) rfl (by omega)
            have hst := (fm140.2.1 (Int32.toNatClampNeg p0) (by omega)).2.2.2 st1
            have rt141 : RT V138 := RT.ag t67 hMV69 (show agr [(0, 73)] [74, 75] V69 V138 from (agr.up (agr.up (agr.up agr.rf hV109 rfl) hV136 rfl) hV138 rfl)) ⟨⟨rfl, fun _ => rfl, fun _ => rfl, fun _ => rfl, fun _ => rfl, fun _ => rfl, fun _ => rfl⟩, by decide, by decide, rfl, rfl, fun _ => rfl, fun _ => rfl, fun _ => rfl, fun _ => rfl, fun _ => rfl, fun _ => rfl⟩ (c0k.ag (show agr [(0, 73)] [74, 75] V69 V138 from (agr.up (agr.up (agr.up agr.rf hV109 rfl) hV136 rfl) hV138 rfl)) rfl)
            have hs2 : (V138 63 (Int32.toNatClampNeg p0)).toInt ≤ 2 := (hMV138 63 _).2
            refine lv_aload_n hx hb dX12_closes_119 rfl (lv_at hl 2 rfl) ?_
            refine va_get (D := D) (ci := 12) (v := .ref (ad 63)) (C := RX12) (T := TX12) (N := 100) hx hb hg inX12 hown hK hP 0 rfl rfl 63 (by decide) (hg _ w1769) (fun _ h9 => h9) rfl dX12_closes_120 ?_
            refine lv_iload_n hx hb dX12_closes_123 rfl (lv_at hl 3 rfl) ?_
            refine lv_iconst (v := 2) hx hb dX12_closes_124 (by decide) ?_
            refine va_iast (D := D) (i := p0) (x := 2) hx hb hK hP hD hS 48 47 rfl rfl (i_in (a := p0.toInt) rfl (by first | omega | ((try (have i_t66 := Imp.go t66 (by omega))); (try (have i_rt := Imp.go rt (by omega))); (try (have i_rt := Imp.go rt (by omega))); (try (have i_t66 := Imp.go t66 (by omega))); omega))) dX12_closes_125 (fun H locs hP hD hS => ?_)
            obtain ⟨V142, hV142⟩ : ∃ z, z = up2 V138 63 (Int32.toNatClampNeg p0) 2 := ⟨_, rfl⟩
            have hP : va_P D vwCl (mw ad kk ks.1 V142 L) H := by rw [hV142]; exact hP
            have hD : va_D A (mw ad kk ks.1 V142 L) := by rw [hV142]; exact hD
            have hMV142 : rgd bM V142 := hMV138.put hV142 (show 0 ≤ Int32.toInt 2 ∧ Int32.toInt 2 ≤ 2 from by decide)
            have agV142 : agr [(0, 60), (0, 65), (0, 68), (0, 69), (0, 73), (0, 76), (0, 90), (0, 91), (0, 92), (0, 93), (0, 95), (0, 96), (0, 98)] [59, 61, 62, 63, 64, 66, 67, 74, 75, 77, 78, 79, 80, 94, 97] V V142 := agV138.up hV142 rfl
            refine lv_iload_n hx hb dX12_closes_126 rfl (lv_at hl 0 rfl) ?_
            refine lv_iconst (v := 2) hx hb dX12_closes_127 (by decide) ?_
            refine lv_icmp_ne (tgt := 135) hx hb dX12_closes_128 (by decide) (fun c143 => ?_) (fun c143 => ?_)
            · skip
              have f144 : z53.toInt ≠ 2 := b_neq rfl (by decide) c143
              refine lv_iconst (v := 0) hx hb dX12_closes_135 (by decide) ?_
              have pq145 : (V142 0 93).toInt = ((V69 0 93)).toInt := congrArg Int32.toInt ((up2_o hV142 (by decide)).trans ((up2_k hV138 (by decide)).trans ((up2_o hV136 (by decide)).trans (up2_o hV109 (by decide)))))
              have pq146 : (V142 0 98).toInt = ((V69 0 98)).toInt := congrArg Int32.toInt ((up2_o hV142 (by decide)).trans ((up2_k hV138 (by decide)).trans ((up2_o hV136 (by decide)).trans (up2_o hV109 (by decide)))))
              have pq147 : (V142 0 60).toInt = ((V69 0 60)).toInt := congrArg Int32.toInt ((up2_o hV142 (by decide)).trans ((up2_k hV138 (by decide)).trans ((up2_o hV136 (by decide)).trans (up2_o hV109 (by decide)))))
              have pq148 : (V142 0 65).toInt = ((V69 0 65)).toInt := congrArg Int32.toInt ((up2_o hV142 (by decide)).trans ((up2_k hV138 (by decide)).trans ((up2_o hV136 (by decide)).trans (up2_o hV109 (by decide)))))
              have pq149 : (V142 0 73).toInt = z137.toInt := congrArg Int32.toInt ((up2_o hV142 (by decide)).trans (up2_s hV138))
              have pq150 : (V142 0 95).toInt = ((V69 0 95)).toInt := congrArg Int32.toInt ((up2_o hV142 (by decide)).trans ((up2_k hV138 (by decide)).trans ((up2_o hV136 (by decide)).trans (up2_o hV109 (by decide)))))
              have pq151 : (V142 0 69).toInt = ((V69 0 69)).toInt := congrArg Int32.toInt ((up2_o hV142 (by decide)).trans ((up2_k hV138 (by decide)).trans ((up2_o hV136 (by decide)).trans (up2_o hV109 (by decide)))))
              have pq152 : (V142 0 76).toInt = ((V69 0 76)).toInt := congrArg Int32.toInt ((up2_o hV142 (by decide)).trans ((up2_k hV138 (by decide)).trans ((up2_o hV136 (by decide)).trans (up2_o hV109 (by decide)))))
              have pq153 : (V138 0 95).toInt = ((V69 0 95)).toInt := congrArg Int32.toInt ((up2_k hV138 (by decide)).trans ((up2_o hV136 (by decide)).trans (up2_o hV109 (by decide))))
              exact W.zret (v := 0) hx hb hr rfl (fun t ht hW => ⟨⟨0, (V142, L), rfl, ⟨hMV142, agV142, rfl, (by decide), (show (V142 0 93).toInt = (V 0 93).toInt from by first | omega | ((try (have i_t66 := Imp.go t66 (by omega))); (try (have i_rt := Imp.go rt (by omega))); (try (have i_rt := Imp.go rt (by omega))); (try (have i_t66 := Imp.go t66 (by omega))); omega)), (show (V142 0 98).toInt = (V 0 98).toInt from by first | omega | ((try (have i_t66 := Imp.go t66 (by omega))); (try (have i_rt := Imp.go rt (by omega))); (try (have i_rt := Imp.go rt (by omega))); (try (have i_t66 := Imp.go t66 (by omega))); omega)), (show (V 0 60).toInt ≤ (V142 0 60).toInt from by first | omega | ((try (have i_t66 := Imp.go t66 (by omega))); (try (have i_rt := Imp.go rt (by omega))); (try (have i_rt := Imp.go rt (by omega))); (try (have i_t66 := Imp.go t66 (by omega))); omega)), (show (V 0 65).toInt ≤ (V142 0 65).toInt from by first | omega | ((try (have i_t66 := Imp.go t66 (by omega))); (try (have i_rt := Imp.go rt (by omega))); (try (have i_rt := Imp.go rt (by omega))); (try (have i_t66 := Imp.go t66 (by omega))); omega)), (show (V142 0 65).toInt - (V 0 65).toInt ≤ (V142 0 60).toInt - (V 0 60).toInt from by first | omega | ((try (have i_t66 := Imp.go t66 (by omega))); (try (have i_rt := Imp.go rt (by omega))); (try (have i_rt := Imp.go rt (by omega))); (try (have i_t66 := Imp.go t66 (by omega))); omega)), (show (V142 0 73).toInt + (V142 0 95).toInt - (V142 0 65).toInt ≤ (V 0 73).toInt + (V 0 95).toInt - (V 0 65).toInt + 1 from by first | omega | ((try (have i_t66 := Imp.go t66 (by omega))); (try (have i_rt := Imp.go rt (by omega))); (try (have i_rt := Imp.go rt (by omega))); (try (have i_t66 := Imp.go t66 (by omega))); omega)), (show (V 0 73).toInt ≤ (V142 0 73).toInt from by first | omega | ((try (have i_t66 := Imp.go t66 (by omega))); (try (have i_rt := Imp.go rt (by omega))); (try (have i_rt := Imp.go rt (by omega))); (try (have i_t66 := Imp.go t66 (by omega))); omega)), (show (V 0 69).toInt ≤ (V142 0 69).toInt from by first | omega | ((try (have i_t66 := Imp.go t66 (by omega))); (try (have i_rt := Imp.go rt (by omega))); (try (have i_rt := Imp.go rt (by omega))); (try (have i_t66 := Imp.go t66 (by omega))); omega)), (show (V142 0 95).toInt = (V 0 95).toInt from by first | omega | ((try (have i_t66 := Imp.go t66 (by omega))); (try (have i_rt := Imp.go rt (by omega))); (try (have i_rt := Imp.go rt (by omega))); (try (have i_t66 := Imp.go t66 (by omega))); omega)), (show (V142 0 76).toInt - (V142 0 69).toInt - (V142 0 73).toInt ≤ (V 0 76).toInt - (V 0 69).toInt - (V 0 73).toInt from by first | omega | ((try (have i_t66 := Imp.go t66 (by omega))); (try (have i_rt := Imp.go rt (by omega))); (try (have i_rt := Imp.go rt (by omega))); (try (have i_t66 := Imp.go t66 (by omega))); omega)), (RT.state rt141 hMV138 hV142 (by decide)), (FRM.tr fm140 (FRM.state hV142 (Or.inr ⟨by omega, by show _ ≤ (2 : Int32).toInt; have h9 : (2 : Int32).toInt = 2 := (by decide); omega⟩)) agV138 ⟨rfl, fun _ => rfl, fun _ => rfl, fun _ => rfl, fun _ => rfl, fun _ => rfl, fun _ => rfl⟩ (by omega))⟩, by rw [ht]; exact hP, va_K.moved hW.alike hK, hD⟩, hS.F ht⟩) hS.2.2 dX12_closes_136
            · skip
              have f154 : z53.toInt = 2 := b_eq rfl (by decide) c143
              exfalso; first | omega | ((try (have i_t66 := Imp.go t66 (by omega))); (try (have i_rt := Imp.go rt (by omega))); (try (have i_rt := Imp.go rt (by omega))); (try (have i_t66 := Imp.go t66 (by omega))); omega)
        · skip
          have f155 : z53.toInt = 2 := b_eq rfl (by decide) c112
          refine lv_bipush (v := 18) hx hb dX12_closes_87 (by decide) ?_
          refine lv_goto (tgt := 108) hx hb dX12_closes_89 (by decide) ?_
          refine va_iast (D := D) (i := (V69 0 73)) (x := 18) hx hb hK hP hD hS 53 52 rfl rfl (i_in (a := ((V69 0 73)).toInt) rfl (by first | omega | ((try (have i_t66 := Imp.go t66 (by omega))); (try (have i_rt := Imp.go rt (by omega))); (try (have i_rt := Imp.go rt (by omega))); (try (have i_t66 := Imp.go t66 (by omega))); omega))) dX12_closes_108 (fun H locs hP hD hS => ?_)
          obtain ⟨V156, hV156⟩ : ∃ z, z = up2 V109 75 (Int32.toNatClampNeg (V69 0 73)) 18 := ⟨_, rfl⟩
          have hP : va_P D vwCl (mw ad kk ks.1 V156 L) H := by rw [hV156]; exact hP
          have hD : va_D A (mw ad kk ks.1 V156 L) := by rw [hV156]; exact hD
          have hMV156 : rgd bM V156 := hMV109.put hV156 (i_full _)
          have agV156 : agr [(0, 60), (0, 65), (0, 68), (0, 69), (0, 73), (0, 76), (0, 90), (0, 91), (0, 92), (0, 93), (0, 95), (0, 96), (0, 98)] [59, 61, 62, 63, 64, 66, 67, 74, 75, 77, 78, 79, 80, 94, 97] V V156 := agV109.up hV156 rfl
          refine lv_aload_n hx hb dX12_closes_109 rfl (lv_at hl 2 rfl) ?_
          refine lv_dup hx hb dX12_closes_110 rfl ?_
          refine va_get (D := D) (ci := 12) (v := .int (V156 0 73)) (C := RX12) (T := TX12) (N := 100) hx hb hg inX12 hown hK hP 0 rfl rfl 73 (by decide) (hg _ w1779) (fun _ h9 => h9) rfl dX12_closes_111 ?_
          refine g_top (v := (V69 0 73)) ((up2_o hV156 (by decide)).trans (up2_o hV109 (by decide))) ?_
          refine lv_iconst (v := 1) hx hb dX12_closes_114 (by decide) ?_
          refine lv_iadd hx hb dX12_closes_115 ?_
          refine lv_topi (fun z157 ez157 => ?_)
          have hz157 : z157.toInt = ((V69 0 73)).toInt + 1 := i_add ez157 rfl (by decide) (by omega)
          refine va_put (D := D) (ci := 12) (v := .int z157) (ty := tyX12 73) (C := RX12) (T := TX12) (N := 100) hx hb hg inX12 tyX12 tyX12_ok nmX12 hown hK hP hD hS 0 rfl rfl 73 (by decide) (hg _ w1779) (fun _ h9 => h9) rfl (tyX12_ok 73 (by decide)) rfl rfl (Nat.le_of_ble_eq_true rfl) dX12_closes_116 (fun H locs hP hD hS => ?_)
          obtain ⟨V158, hV158⟩ : ∃ z, z = up2 V156 0 73 z157 := ⟨_, rfl⟩
          have hP : va_P D vwCl (mw ad kk ks.1 V158 L) H := by rw [hV158]; exact hP
          have hD : va_D A (mw ad kk ks.1 V158 L) := by rw [hV158]; exact hD
          have hMV158 : rgd bM V158 := hMV156.put hV158 (show 0 ≤ z157.toInt ∧ z157.toInt ≤ 1000000 from by first | omega | ((try (have i_t66 := Imp.go t66 (by omega))); (try (have i_rt := Imp.go rt (by omega))); (try (have i_rt := Imp.go rt (by omega))); (try (have i_t66 := Imp.go t66 (by omega))); omega))
          have agV158 : agr [(0, 60), (0, 65), (0, 68), (0, 69), (0, 73), (0, 76), (0, 90), (0, 91), (0, 92), (0, 93), (0, 95), (0, 96), (0, 98)] [59, 61, 62, 63, 64, 66, 67, 74, 75, 77, 78, 79, 80, 94, 97] V V158 := agV156.up hV158 rfl
          have fm159 : FRM V V69 (-1) := (t68 : FRM V V69 (-1))
          have fm160 : FRM V V158 (-1) := (FRM.tr fm159 (FRM.ag (show agr [(0, 73)] [74, 75] V69 V158 from (agr.up (agr.up (agr.up agr.rf hV109 rfl) hV156 rfl) hV158 rfl)) ⟨⟨rfl, fun _ => rfl, fun _ => rfl, fun _ => rfl, fun _ => rfl, fun _ => rfl, fun _ => rfl⟩, by decide, by decide, rfl, rfl, fun _ => rfl, fun _ => rfl, fun _ => rfl, fun _ => rfl, fun _ => rfl, fun _ => rfl⟩) agV69 ⟨rfl, fun _ => rfl, fun _ => rfl, fun _ => rfl, fun _ => rfl, fun _ => rfl, fun _ => rfl⟩ (by omega))
          have ko2 := i_clamp (x := p0) rfl (by omega)
          have hst := (fm160.2.1 (Int32.toNatClampNeg p0) (by omega)).2.2.2 st1
          have rt161 : RT V158 := RT.ag t67 hMV69 (show agr [(0, 73)] [74, 75] V69 V158 from (agr.up (agr.up (agr.up agr.rf hV109 rfl) hV156 rfl) hV158 rfl)) ⟨⟨rfl, fun _ => rfl, fun _ => rfl, fun _ => rfl, fun _ => rfl, fun _ => rfl, fun _ => rfl⟩, by decide, by decide, rfl, rfl, fun _ => rfl, fun _ => rfl, fun _ => rfl, fun _ => rfl, fun _ => rfl, fun _ => rfl⟩ (c0k.ag (show agr [(0, 73)] [74, 75] V69 V158 from (agr.up (agr.up (agr.up agr.rf hV109 rfl) hV156 rfl) hV158 rfl)) rfl)
          have hs2 : (V158 63 (Int32.toNatClampNeg p0)).toInt ≤ 2 := (hMV158 63 _).2
          refine lv_aload_n hx hb dX12_closes_119 rfl (lv_at hl 2 rfl) ?_
          refine va_get (D := D) (ci := 12) (v := .ref (ad 63)) (C := RX12) (T := TX12) (N := 100) hx hb hg inX12 hown hK hP 0 rfl rfl 63 (by decide) (hg _ w1769) (fun _ h9 => h9) rfl dX12_closes_120 ?_
          refine lv_iload_n hx hb dX12_closes_123 rfl (lv_at hl 3 rfl) ?_
          refine lv_iconst (v := 2) hx hb dX12_closes_124 (by decide) ?_
          refine va_iast (D := D) (i := p0) (x := 2) hx hb hK hP hD hS 48 47 rfl rfl (i_in (a := p0.toInt) rfl (by first | omega | ((try (have i_t66 := Imp.go t66 (by omega))); (try (have i_rt := Imp.go rt (by omega))); (try (have i_rt := Imp.go rt (by omega))); (try (have i_t66 := Imp.go t66 (by omega))); omega))) dX12_closes_125 (fun H locs hP hD hS => ?_)
          obtain ⟨V162, hV162⟩ : ∃ z, z = up2 V158 63 (Int32.toNatClampNeg p0) 2 := ⟨_, rfl⟩
          have hP : va_P D vwCl (mw ad kk ks.1 V162 L) H := by rw [hV162]; exact hP
          have hD : va_D A (mw ad kk ks.1 V162 L) := by rw [hV162]; exact hD
          have hMV162 : rgd bM V162 := hMV158.put hV162 (show 0 ≤ Int32.toInt 2 ∧ Int32.toInt 2 ≤ 2 from by decide)
          have agV162 : agr [(0, 60), (0, 65), (0, 68), (0, 69), (0, 73), (0, 76), (0, 90), (0, 91), (0, 92), (0, 93), (0, 95), (0, 96), (0, 98)] [59, 61, 62, 63, 64, 66, 67, 74, 75, 77, 78, 79, 80, 94, 97] V V162 := agV158.up hV162 rfl
          refine lv_iload_n hx hb dX12_closes_126 rfl (lv_at hl 0 rfl) ?_
          refine lv_iconst (v := 2) hx hb dX12_closes_127 (by decide) ?_
          refine lv_icmp_ne (tgt := 135) hx hb dX12_closes_128 (by decide) (fun c163 => ?_) (fun c163 => ?_)
          · skip
            have f164 : z53.toInt ≠ 2 := b_neq rfl (by decide) c163
            exfalso; first | omega | ((try (have i_t66 := Imp.go t66 (by omega))); (try (have i_rt := Imp.go rt (by omega))); (try (have i_rt := Imp.go rt (by omega))); (try (have i_t66 := Imp.go t66 (by omega))); omega)
          · skip
            have f165 : z53.toInt = 2 := b_eq rfl (by decide) c163
            refine lv_iconst (v := 1) hx hb dX12_closes_131 (by decide) ?_
            refine lv_goto (tgt := 136) hx hb dX12_closes_132 (by decide) ?_
            have pq166 : (V162 0 93).toInt = ((V69 0 93)).toInt := congrArg Int32.toInt ((up2_o hV162 (by decide)).trans ((up2_k hV158 (by decide)).trans ((up2_o hV156 (by decide)).trans (up2_o hV109 (by decide)))))
            have pq167 : (V162 0 98).toInt = ((V69 0 98)).toInt := congrArg Int32.toInt ((up2_o hV162 (by decide)).trans ((up2_k hV158 (by decide)).trans ((up2_o hV156 (by decide)).trans (up2_o hV109 (by decide)))))
            have pq168 : (V162 0 60).toInt = ((V69 0 60)).toInt := congrArg Int32.toInt ((up2_o hV162 (by decide)).trans ((up2_k hV158 (by decide)).trans ((up2_o hV156 (by decide)).trans (up2_o hV109 (by decide)))))
            have pq169 : (V162 0 65).toInt = ((V69 0 65)).toInt := congrArg Int32.toInt ((up2_o hV162 (by decide)).trans ((up2_k hV158 (by decide)).trans ((up2_o hV156 (by decide)).trans (up2_o hV109 (by decide)))))
            have pq170 : (V162 0 73).toInt = z157.toInt := congrArg Int32.toInt ((up2_o hV162 (by decide)).trans (up2_s hV158))
            have pq171 : (V162 0 95).toInt = ((V69 0 95)).toInt := congrArg Int32.toInt ((up2_o hV162 (by decide)).trans ((up2_k hV158 (by decide)).trans ((up2_o hV156 (by decide)).trans (up2_o hV109 (by decide)))))
            have pq172 : (V162 0 69).toInt = ((V69 0 69)).toInt := congrArg Int32.toInt ((up2_o hV162 (by decide)).trans ((up2_k hV158 (by decide)).trans ((up2_o hV156 (by decide)).trans (up2_o hV109 (by decide)))))
            have pq173 : (V162 0 76).toInt = ((V69 0 76)).toInt := congrArg Int32.toInt ((up2_o hV162 (by decide)).trans ((up2_k hV158 (by decide)).trans ((up2_o hV156 (by decide)).trans (up2_o hV109 (by decide)))))
            have pq174 : (V158 0 95).toInt = ((V69 0 95)).toInt := congrArg Int32.toInt ((up2_k hV158 (by decide)).trans ((up2_o hV156 (by decide)).trans (up2_o hV109 (by decide))))
            exact W.zret (v := 1) hx hb hr rfl (fun t ht hW => ⟨⟨1, (V162, L), rfl, ⟨hMV162, agV162, rfl, (by decide), (show (V162 0 93).toInt = (V 0 93).toInt from by first | omega | ((try (have i_t66 := Imp.go t66 (by omega))); (try (have i_rt := Imp.go rt (by omega))); (try (have i_rt := Imp.go rt (by omega))); (try (have i_t66 := Imp.go t66 (by omega))); omega)), (show (V162 0 98).toInt = (V 0 98).toInt from by first | omega | ((try (have i_t66 := Imp.go t66 (by omega))); (try (have i_rt := Imp.go rt (by omega))); (try (have i_rt := Imp.go rt (by omega))); (try (have i_t66 := Imp.go t66 (by omega))); omega)), (show (V 0 60).toInt ≤ (V162 0 60).toInt from by first | omega | ((try (have i_t66 := Imp.go t66 (by omega))); (try (have i_rt := Imp.go rt (by omega))); (try (have i_rt := Imp.go rt (by omega))); (try (have i_t66 := Imp.go t66 (by omega))); omega)), (show (V 0 65).toInt ≤ (V162 0 65).toInt from by first | omega | ((try (have i_t66 := Imp.go t66 (by omega))); (try (have i_rt := Imp.go rt (by omega))); (try (have i_rt := Imp.go rt (by omega))); (try (have i_t66 := Imp.go t66 (by omega))); omega)), (show (V162 0 65).toInt - (V 0 65).toInt ≤ (V162 0 60).toInt - (V 0 60).toInt from by first | omega | ((try (have i_t66 := Imp.go t66 (by omega))); (try (have i_rt := Imp.go rt (by omega))); (try (have i_rt := Imp.go rt (by omega))); (try (have i_t66 := Imp.go t66 (by omega))); omega)), (show (V162 0 73).toInt + (V162 0 95).toInt - (V162 0 65).toInt ≤ (V 0 73).toInt + (V 0 95).toInt - (V 0 65).toInt + 1 from by first | omega | ((try (have i_t66 := Imp.go t66 (by omega))); (try (have i_rt := Imp.go rt (by omega))); (try (have i_rt := Imp.go rt (by omega))); (try (have i_t66 := Imp.go t66 (by omega))); omega)), (show (V 0 73).toInt ≤ (V162 0 73).toInt from by first | omega | ((try (have i_t66 := Imp.go t66 (by omega))); (try (have i_rt := Imp.go rt (by omega))); (try (have i_rt := Imp.go rt (by omega))); (try (have i_t66 := Imp.go t66 (by omega))); omega)), (show (V 0 69).toInt ≤ (V162 0 69).toInt from by first | omega | ((try (have i_t66 := Imp.go t66 (by omega))); (try (have i_rt := Imp.go rt (by omega))); (try (have i_rt := Imp.go rt (by omega))); (try (have i_t66 := Imp.go t66 (by omega))); omega)), (show (V162 0 95).toInt = (V 0 95).toInt from by first | omega | ((try (have i_t66 := Imp.go t66 (by omega))); (try (have i_rt := Imp.go rt (by omega))); (try (have i_rt := Imp.go rt (by omega))); (try (have i_t66 := Imp.go t66 (by omega))); omega)), (show (V162 0 76).toInt - (V162 0 69).toInt - (V162 0 73).toInt ≤ (V 0 76).toInt - (V 0 69).toInt - (V 0 73).toInt from by first | omega | ((try (have i_t66 := Imp.go t66 (by omega))); (try (have i_rt := Imp.go rt (by omega))); (try (have i_rt := Imp.go rt (by omega))); (try (have i_t66 := Imp.go t66 (by omega))); omega)), (RT.state rt161 hMV158 hV162 (by decide)), (FRM.tr fm160 (FRM.state hV162 (Or.inr ⟨by omega, by show _ ≤ (2 : Int32).toInt; have h9 : (2 : Int32).toInt = 2 := (by decide); omega⟩)) agV158 ⟨rfl, fun _ => rfl, fun _ => rfl, fun _ => rfl, fun _ => rfl, fun _ => rfl, fun _ => rfl⟩ (by omega))⟩, by rw [ht]; exact hP, va_K.moved hW.alike hK, hD⟩, hS.F ht⟩) hS.2.2 dX12_closes_136
      · skip
        have f175 : z53.toInt = 0 := b_eq rfl (by decide) c110
        refine lv_iconst (v := 0) hx hb dX12_closes_78 (by decide) ?_
        refine lv_goto (tgt := 108) hx hb dX12_closes_79 (by decide) ?_
        refine va_iast (D := D) (i := (V69 0 73)) (x := 0) hx hb hK hP hD hS 53 52 rfl rfl (i_in (a := ((V69 0 73)).toInt) rfl (by first | omega | ((try (have i_t66 := Imp.go t66 (by omega))); (try (have i_rt := Imp.go rt (by omega))); (try (have i_rt := Imp.go rt (by omega))); (try (have i_t66 := Imp.go t66 (by omega))); omega))) dX12_closes_108 (fun H locs hP hD hS => ?_)
        obtain ⟨V176, hV176⟩ : ∃ z, z = up2 V109 75 (Int32.toNatClampNeg (V69 0 73)) 0 := ⟨_, rfl⟩
        have hP : va_P D vwCl (mw ad kk ks.1 V176 L) H := by rw [hV176]; exact hP
        have hD : va_D A (mw ad kk ks.1 V176 L) := by rw [hV176]; exact hD
        have hMV176 : rgd bM V176 := hMV109.put hV176 (i_full _)
        have agV176 : agr [(0, 60), (0, 65), (0, 68), (0, 69), (0, 73), (0, 76), (0, 90), (0, 91), (0, 92), (0, 93), (0, 95), (0, 96), (0, 98)] [59, 61, 62, 63, 64, 66, 67, 74, 75, 77, 78, 79, 80, 94, 97] V V176 := agV109.up hV176 rfl
        refine lv_aload_n hx hb dX12_closes_109 rfl (lv_at hl 2 rfl) ?_
        refine lv_dup hx hb dX12_closes_110 rfl ?_
        refine va_get (D := D) (ci := 12) (v := .int (V176 0 73)) (C := RX12) (T := TX12) (N := 100) hx hb hg inX12 hown hK hP 0 rfl rfl 73 (by decide) (hg _ w1779) (fun _ h9 => h9) rfl dX12_closes_111 ?_
        refine g_top (v := (V69 0 73)) ((up2_o hV176 (by decide)).trans (up2_o hV109 (by decide))) ?_
        refine lv_iconst (v := 1) hx hb dX12_closes_114 (by decide) ?_
        refine lv_iadd hx hb dX12_closes_115 ?_
        refine lv_topi (fun z177 ez177 => ?_)
        have hz177 : z177.toInt = ((V69 0 73)).toInt + 1 := i_add ez177 rfl (by decide) (by omega)
        refine va_put (D := D) (ci := 12) (v := .int z177) (ty := tyX12 73) (C := RX12) (T := TX12) (N := 100) hx hb hg inX12 tyX12 tyX12_ok nmX12 hown hK hP hD hS 0 rfl rfl 73 (by decide) (hg _ w1779) (fun _ h9 => h9) rfl (tyX12_ok 73 (by decide)) rfl rfl (Nat.le_of_ble_eq_true rfl) dX12_closes_116 (fun H locs hP hD hS => ?_)
        obtain ⟨V178, hV178⟩ : ∃ z, z = up2 V176 0 73 z177 := ⟨_, rfl⟩
        have hP : va_P D vwCl (mw ad kk ks.1 V178 L) H := by rw [hV178]; exact hP
        have hD : va_D A (mw ad kk ks.1 V178 L) := by rw [hV178]; exact hD
        have hMV178 : rgd bM V178 := hMV176.put hV178 (show 0 ≤ z177.toInt ∧ z177.toInt ≤ 1000000 from by first | omega | ((try (have i_t66 := Imp.go t66 (by omega))); (try (have i_rt := Imp.go rt (by omega))); (try (have i_rt := Imp.go rt (by omega))); (try (have i_t66 := Imp.go t66 (by omega))); omega))
        have agV178 : agr [(0, 60), (0, 65), (0, 68), (0, 69), (0, 73), (0, 76), (0, 90), (0, 91), (0, 92), (0, 93), (0, 95), (0, 96), (0, 98)] [59, 61, 62, 63, 64, 66, 67, 74, 75, 77, 78, 79, 80, 94, 97] V V178 := agV176.up hV178 rfl
        have fm179 : FRM V V69 (-1) := (t68 : FRM V V69 (-1))
        have fm180 : FRM V V178 (-1) := (FRM.tr fm179 (FRM.ag (show agr [(0, 73)] [74, 75] V69 V178 from (agr.up (agr.up (agr.up agr.rf hV109 rfl) hV176 rfl) hV178 rfl)) ⟨⟨rfl, fun _ => rfl, fun _ => rfl, fun _ => rfl, fun _ => rfl, fun _ => rfl, fun _ => rfl⟩, by decide, by decide, rfl, rfl, fun _ => rfl, fun _ => rfl, fun _ => rfl, fun _ => rfl, fun _ => rfl, fun _ => rfl⟩) agV69 ⟨rfl, fun _ => rfl, fun _ => rfl, fun _ => rfl, fun _ => rfl, fun _ => rfl, fun _ => rfl⟩ (by omega))
        have ko2 := i_clamp (x := p0) rfl (by omega)
        have hst := (fm180.2.1 (Int32.toNatClampNeg p0) (by omega)).2.2.2 st1
        have rt181 : RT V178 := RT.ag t67 hMV69 (show agr [(0, 73)] [74, 75] V69 V178 from (agr.up (agr.up (agr.up agr.rf hV109 rfl) hV176 rfl) hV178 rfl)) ⟨⟨rfl, fun _ => rfl, fun _ => rfl, fun _ => rfl, fun _ => rfl, fun _ => rfl, fun _ => rfl⟩, by decide, by decide, rfl, rfl, fun _ => rfl, fun _ => rfl, fun _ => rfl, fun _ => rfl, fun _ => rfl, fun _ => rfl⟩ (c0k.ag (show agr [(0, 73)] [74, 75] V69 V178 from (agr.up (agr.up (agr.up agr.rf hV109 rfl) hV176 rfl) hV178 rfl)) rfl)
        have hs2 : (V178 63 (Int32.toNatClampNeg p0)).toInt ≤ 2 := (hMV178 63 _).2
        refine lv_aload_n hx hb dX12_closes_119 rfl (lv_at hl 2 rfl) ?_
        refine va_get (D := D) (ci := 12) (v := .ref (ad 63)) (C := RX12) (T := TX12) (N := 100) hx hb hg inX12 hown hK hP 0 rfl rfl 63 (by decide) (hg _ w1769) (fun _ h9 => h9) rfl dX12_closes_120 ?_
        refine lv_iload_n hx hb dX12_closes_123 rfl (lv_at hl 3 rfl) ?_
        refine lv_iconst (v := 2) hx hb dX12_closes_124 (by decide) ?_
        refine va_iast (D := D) (i := p0) (x := 2) hx hb hK hP hD hS 48 47 rfl rfl (i_in (a := p0.toInt) rfl (by first | omega | ((try (have i_t66 := Imp.go t66 (by omega))); (try (have i_rt := Imp.go rt (by omega))); (try (have i_rt := Imp.go rt (by omega))); (try (have i_t66 := Imp.go t66 (by omega))); omega))) dX12_closes_125 (fun H locs hP hD hS => ?_)
        obtain ⟨V182, hV182⟩ : ∃ z, z = up2 V178 63 (Int32.toNatClampNeg p0) 2 := ⟨_, rfl⟩
        have hP : va_P D vwCl (mw ad kk ks.1 V182 L) H := by rw [hV182]; exact hP
        have hD : va_D A (mw ad kk ks.1 V182 L) := by rw [hV182]; exact hD
        have hMV182 : rgd bM V182 := hMV178.put hV182 (show 0 ≤ Int32.toInt 2 ∧ Int32.toInt 2 ≤ 2 from by decide)
        have agV182 : agr [(0, 60), (0, 65), (0, 68), (0, 69), (0, 73), (0, 76), (0, 90), (0, 91), (0, 92), (0, 93), (0, 95), (0, 96), (0, 98)] [59, 61, 62, 63, 64, 66, 67, 74, 75, 77, 78, 79, 80, 94, 97] V V182 := agV178.up hV182 rfl
        refine lv_iload_n hx hb dX12_closes_126 rfl (lv_at hl 0 rfl) ?_
        refine lv_iconst (v := 2) hx hb dX12_closes_127 (by decide) ?_
        refine lv_icmp_ne (tgt := 135) hx hb dX12_closes_128 (by decide) (fun c183 => ?_) (fun c183 => ?_)
        · skip
          have f184 : z53.toInt ≠ 2 := b_neq rfl (by decide) c183
          refine lv_iconst (v := 0) hx hb dX12_closes_135 (by decide) ?_
          have pq185 : (V182 0 93).toInt = ((V69 0 93)).toInt := congrArg Int32.toInt ((up2_o hV182 (by decide)).trans ((up2_k hV178 (by decide)).trans ((up2_o hV176 (by decide)).trans (up2_o hV109 (by decide)))))
          have pq186 : (V182 0 98).toInt = ((V69 0 98)).toInt := congrArg Int32.toInt ((up2_o hV182 (by decide)).trans ((up2_k hV178 (by decide)).trans ((up2_o hV176 (by decide)).trans (up2_o hV109 (by decide)))))
          have pq187 : (V182 0 60).toInt = ((V69 0 60)).toInt := congrArg Int32.toInt ((up2_o hV182 (by decide)).trans ((up2_k hV178 (by decide)).trans ((up2_o hV176 (by decide)).trans (up2_o hV109 (by decide)))))
          have pq188 : (V182 0 65).toInt = ((V69 0 65)).toInt := congrArg Int32.toInt ((up2_o hV182 (by decide)).trans ((up2_k hV178 (by decide)).trans ((up2_o hV176 (by decide)).trans (up2_o hV109 (by decide)))))
          have pq189 : (V182 0 73).toInt = z177.toInt := congrArg Int32.toInt ((up2_o hV182 (by decide)).trans (up2_s hV178))
          have pq190 : (V182 0 95).toInt = ((V69 0 95)).toInt := congrArg Int32.toInt ((up2_o hV182 (by decide)).trans ((up2_k hV178 (by decide)).trans ((up2_o hV176 (by decide)).trans (up2_o hV109 (by decide)))))
          have pq191 : (V182 0 69).toInt = ((V69 0 69)).toInt := congrArg Int32.toInt ((up2_o hV182 (by decide)).trans ((up2_k hV178 (by decide)).trans ((up2_o hV176 (by decide)).trans (up2_o hV109 (by decide)))))
          have pq192 : (V182 0 76).toInt = ((V69 0 76)).toInt := congrArg Int32.toInt ((up2_o hV182 (by decide)).trans ((up2_k hV178 (by decide)).trans ((up2_o hV176 (by decide)).trans (up2_o hV109 (by decide)))))
          have pq193 : (V178 0 95).toInt = ((V69 0 95)).toInt := congrArg Int32.toInt ((up2_k hV178 (by decide)).trans ((up2_o hV176 (by decide)).trans (up2_o hV109 (by decide))))
          exact W.zret (v := 0) hx hb hr rfl (fun t ht hW => ⟨⟨0, (V182, L), rfl, ⟨hMV182, agV182, rfl, (by decide), (show (V182 0 93).toInt = (V 0 93).toInt from by first | omega | ((try (have i_t66 := Imp.go t66 (by omega))); (try (have i_rt := Imp.go rt (by omega))); (try (have i_rt := Imp.go rt (by omega))); (try (have i_t66 := Imp.go t66 (by omega))); omega)), (show (V182 0 98).toInt = (V 0 98).toInt from by first | omega | ((try (have i_t66 := Imp.go t66 (by omega))); (try (have i_rt := Imp.go rt (by omega))); (try (have i_rt := Imp.go rt (by omega))); (try (have i_t66 := Imp.go t66 (by omega))); omega)), (show (V 0 60).toInt ≤ (V182 0 60).toInt from by first | omega | ((try (have i_t66 := Imp.go t66 (by omega))); (try (have i_rt := Imp.go rt (by omega))); (try (have i_rt := Imp.go rt (by omega))); (try (have i_t66 := Imp.go t66 (by omega))); omega)), (show (V 0 65).toInt ≤ (V182 0 65).toInt from by first | omega | ((try (have i_t66 := Imp.go t66 (by omega))); (try (have i_rt := Imp.go rt (by omega))); (try (have i_rt := Imp.go rt (by omega))); (try (have i_t66 := Imp.go t66 (by omega))); omega)), (show (V182 0 65).toInt - (V 0 65).toInt ≤ (V182 0 60).toInt - (V 0 60).toInt from by first | omega | ((try (have i_t66 := Imp.go t66 (by omega))); (try (have i_rt := Imp.go rt (by omega))); (try (have i_rt := Imp.go rt (by omega))); (try (have i_t66 := Imp.go t66 (by omega))); omega)), (show (V182 0 73).toInt + (V182 0 95).toInt - (V182 0 65).toInt ≤ (V 0 73).toInt + (V 0 95).toInt - (V 0 65).toInt + 1 from by first | omega | ((try (have i_t66 := Imp.go t66 (by omega))); (try (have i_rt := Imp.go rt (by omega))); (try (have i_rt := Imp.go rt (by omega))); (try (have i_t66 := Imp.go t66 (by omega))); omega)), (show (V 0 73).toInt ≤ (V182 0 73).toInt from by first | omega | ((try (have i_t66 := Imp.go t66 (by omega))); (try (have i_rt := Imp.go rt (by omega))); (try (have i_rt := Imp.go rt (by omega))); (try (have i_t66 := Imp.go t66 (by omega))); omega)), (show (V 0 69).toInt ≤ (V182 0 69).toInt from by first | omega | ((try (have i_t66 := Imp.go t66 (by omega))); (try (have i_rt := Imp.go rt (by omega))); (try (have i_rt := Imp.go rt (by omega))); (try (have i_t66 := Imp.go t66 (by omega))); omega)), (show (V182 0 95).toInt = (V 0 95).toInt from by first | omega | ((try (have i_t66 := Imp.go t66 (by omega))); (try (have i_rt := Imp.go rt (by omega))); (try (have i_rt := Imp.go rt (by omega))); (try (have i_t66 := Imp.go t66 (by omega))); omega)), (show (V182 0 76).toInt - (V182 0 69).toInt - (V182 0 73).toInt ≤ (V 0 76).toInt - (V 0 69).toInt - (V 0 73).toInt from by first | omega | ((try (have i_t66 := Imp.go t66 (by omega))); (try (have i_rt := Imp.go rt (by omega))); (try (have i_rt := Imp.go rt (by omega))); (try (have i_t66 := Imp.go t66 (by omega))); omega)), (RT.state rt181 hMV178 hV182 (by decide)), (FRM.tr fm180 (FRM.state hV182 (Or.inr ⟨by omega, by show _ ≤ (2 : Int32).toInt; have h9 : (2 : Int32).toInt = 2 := (by decide); omega⟩)) agV178 ⟨rfl, fun _ => rfl, fun _ => rfl, fun _ => rfl, fun _ => rfl, fun _ => rfl, fun _ => rfl⟩ (by omega))⟩, by rw [ht]; exact hP, va_K.moved hW.alike hK, hD⟩, hS.F ht⟩) hS.2.2 dX12_closes_136
        · skip
          have f194 : z53.toInt = 2 := b_eq rfl (by decide) c183
          exfalso; first | omega | ((try (have i_t66 := Imp.go t66 (by omega))); (try (have i_rt := Imp.go rt (by omega))); (try (have i_rt := Imp.go rt (by omega))); (try (have i_t66 := Imp.go t66 (by omega))); omega)
