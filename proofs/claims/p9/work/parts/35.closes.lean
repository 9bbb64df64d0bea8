/-! wraps and methods of an object, at a later version -/
theorem isWb_ag {fs : List (Nat × Nat)} {cs : List Nat} {V W : Vf} {o m ph : Int32} (a : agr fs cs V W) (h0 : wrL fs cs 0 11 = false) (h1 : ∀ y ∈ fs, y.1 = 0) (h2 : ∀ y ∈ cs, trk y = false) (e : W 61 (Int32.toNatClampNeg o) = V 61 (Int32.toNatClampNeg o)) : isWb W o m ph = isWb V o m ph ∧ wmany W = wmany V := by
  have en : nwh W = nwh V := by unfold nwh; rw [a 0 11 h0]
  have hc : ∀ x k, trk x = true → W x k = V x k := fun x k ht => a x k (trk_wr h1 (by
    rw [← Bool.not_eq_true]
    intro q
    rw [h2 _ (List.contains_iff_mem.mp q)] at ht
    cases ht) ht)
  refine ⟨?_, ?_⟩
  · funext j
    unfold isWb
    rw [en, e, hc 41 _ rfl, hc 43 _ rfl, hc 40 _ rfl, hc 21 _ rfl]
  · unfold wmany
    rw [en, hc 39 _ rfl]
theorem CE.lt {nd : Int} {ar : Bool} {V : Vf} {lo hi a : Nat} (h : CE nd ar V lo hi a) : a < hi := by
  obtain ⟨_, f, q⟩ := h
  cases f with
  | zero => exact q.elim
  | succ f => exact q.2.1
/-- a wrap's E, by its phase -/
theorem TB.wrapE {V : Vf} {o m ph : Int32} {w : Nat} (t : TB V) (hw : (w : Int) < (V 39 (nwh V)).toInt) (b : isWb V o m ph w = true) {ar : Bool} (har : decide (ph.toInt = 1) = ar) : 0 ≤ (V 44 (12 * nwh V + w)).toInt ∧ CE 0 ar V (10000 * nwh V) (10000 * nwh V + 10000) (V 44 (12 * nwh V + w)).toInt.toNat := by
  have q := (show TBL V (nwh V) _ from t).2 w hw
  have b2 := of_decide_eq_true b
  refine ⟨q.1, ?_⟩
  have c := q.2.1
  rw [b2.2.1, har] at c
  exact c
/-- a component's E -/
theorem TB.compE {V : Vf} {c : Nat} (t : TB V) (h : th V c) : cOK V (10000 * nwh V) (10000 * nwh V + 10000) (24 * nwh V + c) := (show TBL V (nwh V) _ from t).1 c h.1
theorem w2275 : Cond.code yX12_works cX12_works 6 (some .int) ∈ GW := gw_mem 2275 (by decide +kernel) rfl
theorem w2272 : Cond.methodLink RX12 503 yX12_works ∈ GW := gw_mem 2272 (by decide +kernel) rfl
theorem w2274 : Cond.instanceMethod yX12_works ∈ GW := gw_mem 2274 (by decide +kernel) rfl
theorem w136 : Cond.selects RX12 yX12_works yX12_works ∈ GW := gw_mem 136 (by decide +kernel) rfl
theorem hdV_yX12_works : yX12_works.cls = RX12 ∧ yX12_works.cls ≠ "java/lang/invoke/MethodHandle" ∧ yX12_works.cls ≠ "java/lang/invoke/VarHandle" ∧ (parseMethodDescriptor yX12_works.desc).map (fun d => d.parameters.length) = some 5 := by decide +kernel
theorem dX12_closes_0 : decode cX12_closes 0 = .ok (.bipush 24, 2) := by decide +kernel
theorem dX12_closes_2 : decode cX12_closes 2 = .ok (.aload_n 0, 1) := by decide +kernel
theorem dX12_closes_3 : decode cX12_closes 3 = .ok (.getfield 286, 3) := by decide +kernel
theorem dX12_closes_6 : decode cX12_closes 6 = .ok (.imul, 1) := by decide +kernel
theorem dX12_closes_7 : decode cX12_closes 7 = .ok (.aload_n 0, 1) := by decide +kernel
theorem dX12_closes_8 : decode cX12_closes 8 = .ok (.getfield 164, 3) := by decide +kernel
theorem dX12_closes_11 : decode cX12_closes 11 = .ok (.iload_n 1, 1) := by decide +kernel
theorem dX12_closes_12 : decode cX12_closes 12 = .ok (.iaload, 1) := by decide +kernel
theorem dX12_closes_13 : decode cX12_closes 13 = .ok (.iadd, 1) := by decide +kernel
theorem dX12_closes_14 : decode cX12_closes 14 = .ok (.istore_n 2, 1) := by decide +kernel
theorem dX12_closes_15 : decode cX12_closes 15 = .ok (.iconst 0, 1) := by decide +kernel
theorem dX12_closes_16 : decode cX12_closes 16 = .ok (.istore_n 3, 1) := by decide +kernel
theorem dX12_closes_17 : decode cX12_closes 17 = .ok (.aload_n 0, 1) := by decide +kernel
theorem dX12_closes_18 : decode cX12_closes 18 = .ok (.getfield 104, 3) := by decide +kernel
theorem dX12_closes_21 : decode cX12_closes 21 = .ok (.iload_n 2, 1) := by decide +kernel
theorem dX12_closes_22 : decode cX12_closes 22 = .ok (.iaload, 1) := by decide +kernel
theorem dX12_closes_23 : decode cX12_closes 23 = .ok (.ifCond .lt 23, 3) := by decide +kernel
theorem dX12_closes_46 : decode cX12_closes 46 = .ok (.aload_n 0, 1) := by decide +kernel
theorem dX12_closes_47 : decode cX12_closes 47 = .ok (.getfield 417, 3) := by decide +kernel
theorem dX12_closes_50 : decode cX12_closes 50 = .ok (.sipush 300, 3) := by decide +kernel
theorem dX12_closes_53 : decode cX12_closes 53 = .ok (.if_icmp .ge 56, 3) := by decide +kernel
theorem dX12_closes_109 : decode cX12_closes 109 = .ok (.aload_n 0, 1) := by decide +kernel
theorem dX12_closes_110 : decode cX12_closes 110 = .ok (.dup, 1) := by decide +kernel
theorem dX12_closes_111 : decode cX12_closes 111 = .ok (.getfield 417, 3) := by decide +kernel
theorem dX12_closes_114 : decode cX12_closes 114 = .ok (.iconst 1, 1) := by decide +kernel
theorem dX12_closes_115 : decode cX12_closes 115 = .ok (.iadd, 1) := by decide +kernel
theorem dX12_closes_116 : decode cX12_closes 116 = .ok (.putfield 417, 3) := by decide +kernel
theorem dX12_closes_119 : decode cX12_closes 119 = .ok (.aload_n 0, 1) := by decide +kernel
theorem dX12_closes_120 : decode cX12_closes 120 = .ok (.getfield 170, 3) := by decide +kernel
theorem dX12_closes_123 : decode cX12_closes 123 = .ok (.iload_n 1, 1) := by decide +kernel
theorem dX12_closes_124 : decode cX12_closes 124 = .ok (.iconst 2, 1) := by decide +kernel
theorem dX12_closes_125 : decode cX12_closes 125 = .ok (.iastore, 1) := by decide +kernel
theorem dX12_closes_126 : decode cX12_closes 126 = .ok (.iload_n 3, 1) := by decide +kernel
theorem dX12_closes_127 : decode cX12_closes 127 = .ok (.iconst 2, 1) := by decide +kernel
theorem dX12_closes_128 : decode cX12_closes 128 = .ok (.if_icmp .ne 7, 3) := by decide +kernel
theorem dX12_closes_135 : decode cX12_closes 135 = .ok (.iconst 0, 1) := by decide +kernel
theorem dX12_closes_136 : decode cX12_closes 136 = .ok (.ireturn, 1) := by decide +kernel
theorem dX12_closes_56 : decode cX12_closes 56 = .ok (.aload_n 0, 1) := by decide +kernel
theorem dX12_closes_57 : decode cX12_closes 57 = .ok (.getfield 183, 3) := by decide +kernel
theorem dX12_closes_60 : decode cX12_closes 60 = .ok (.aload_n 0, 1) := by decide +kernel
theorem dX12_closes_61 : decode cX12_closes 61 = .ok (.getfield 417, 3) := by decide +kernel
theorem dX12_closes_64 : decode cX12_closes 64 = .ok (.iload_n 1, 1) := by decide +kernel
theorem dX12_closes_65 : decode cX12_closes 65 = .ok (.iastore, 1) := by decide +kernel
theorem dX12_closes_66 : decode cX12_closes 66 = .ok (.aload_n 0, 1) := by decide +kernel
theorem dX12_closes_67 : decode cX12_closes 67 = .ok (.getfield 186, 3) := by decide +kernel
theorem dX12_closes_70 : decode cX12_closes 70 = .ok (.aload_n 0, 1) := by decide +kernel
theorem dX12_closes_71 : decode cX12_closes 71 = .ok (.getfield 417, 3) := by decide +kernel
theorem dX12_closes_74 : decode cX12_closes 74 = .ok (.iload_n 3, 1) := by decide +kernel
theorem dX12_closes_75 : decode cX12_closes 75 = .ok (.ifCond .ne 7, 3) := by decide +kernel
theorem dX12_closes_78 : decode cX12_closes 78 = .ok (.iconst 0, 1) := by decide +kernel
theorem dX12_closes_79 : decode cX12_closes 79 = .ok (.goto 29, 3) := by decide +kernel
theorem dX12_closes_108 : decode cX12_closes 108 = .ok (.iastore, 1) := by decide +kernel
theorem dX12_closes_26 : decode cX12_closes 26 = .ok (.aload_n 0, 1) := by decide +kernel
theorem dX12_closes_27 : decode cX12_closes 27 = .ok (.aload_n 0, 1) := by decide +kernel
theorem dX12_closes_28 : decode cX12_closes 28 = .ok (.getfield 104, 3) := by decide +kernel
theorem dX12_closes_31 : decode cX12_closes 31 = .ok (.iload_n 2, 1) := by decide +kernel
theorem dX12_closes_32 : decode cX12_closes 32 = .ok (.iaload, 1) := by decide +kernel
theorem dX12_closes_33 : decode cX12_closes 33 = .ok (.iload_n 1, 1) := by decide +kernel
theorem dX12_closes_34 : decode cX12_closes 34 = .ok (.aload_n 0, 1) := by decide +kernel
theorem dX12_closes_35 : decode cX12_closes 35 = .ok (.getfield 167, 3) := by decide +kernel
theorem dX12_closes_38 : decode cX12_closes 38 = .ok (.iload_n 1, 1) := by decide +kernel
theorem dX12_closes_39 : decode cX12_closes 39 = .ok (.iaload, 1) := by decide +kernel
theorem dX12_closes_40 : decode cX12_closes 40 = .ok (.iconst 0, 1) := by decide +kernel
theorem dX12_closes_41 : decode cX12_closes 41 = .ok (.iconst (-1), 1) := by decide +kernel
theorem dX12_closes_42 : decode cX12_closes 42 = .ok (.invokevirtual 503, 3) := by decide +kernel
theorem dX12_closes_45 : decode cX12_closes 45 = .ok (.istore_n 3, 1) := by decide +kernel
theorem dX12_closes_131 : decode cX12_closes 131 = .ok (.iconst 1, 1) := by decide +kernel
theorem dX12_closes_132 : decode cX12_closes 132 = .ok (.goto 4, 3) := by decide +kernel
theorem dX12_closes_82 : decode cX12_closes 82 = .ok (.iload_n 3, 1) := by decide +kernel
theorem dX12_closes_83 : decode cX12_closes 83 = .ok (.iconst 2, 1) := by decide +kernel
theorem dX12_closes_84 : decode cX12_closes 84 = .ok (.if_icmp .ne 8, 3) := by decide +kernel
theorem dX12_closes_92 : decode cX12_closes 92 = .ok (.aload_n 0, 1) := by decide +kernel
theorem dX12_closes_93 : decode cX12_closes 93 = .ok (.getfield 471, 3) := by decide +kernel
theorem dX12_closes_96 : decode cX12_closes 96 = .ok (.ifCond .le 8, 3) := by decide +kernel
theorem dX12_closes_104 : decode cX12_closes 104 = .ok (.aload_n 0, 1) := by decide +kernel
theorem dX12_closes_105 : decode cX12_closes 105 = .ok (.getfield 474, 3) := by decide +kernel
theorem dX12_closes_99 : decode cX12_closes 99 = .ok (.bipush 20, 2) := by decide +kernel
theorem dX12_closes_101 : decode cX12_closes 101 = .ok (.goto 7, 3) := by decide +kernel
theorem dX12_closes_87 : decode cX12_closes 87 = .ok (.bipush 18, 2) := by decide +kernel
theorem dX12_closes_89 : decode cX12_closes 89 = .ok (.goto 19, 3) := by decide +kernel
abbrev q_s_closes (D : va_G) (ks : KS) (ad : Nat → Nat) (kk : Nat → ClassId) (V : Vf) (L : Lf) (p0 : Int32) (A : Nat → Prop) : Array Value → State → Outcome → State → Prop := va_Qi (fun (r : Int32) (u : Vf × Lf) => rgd bM u.1 ∧ agr [(0, 60), (0, 65), (0, 68), (0, 69), (0, 73), (0, 76), (0, 90), (0, 91), (0, 92), (0, 93), (0, 95), (0, 96), (0, 98)] [59, 61, 62, 63, 64, 66, 67, 74, 75, 77, 78, 79, 80, 94, 97] V u.1 ∧ u.2 = L ∧ (0 ≤ r.toInt ∧ r.toInt ≤ 1) ∧ ((u.1 0 93).toInt = (V 0 93).toInt) ∧ ((u.1 0 98).toInt = (V 0 98).toInt) ∧ ((V 0 60).toInt ≤ (u.1 0 60).toInt) ∧ ((V 0 65).toInt ≤ (u.1 0 65).toInt) ∧ ((u.1 0 65).toInt - (V 0 65).toInt ≤ (u.1 0 60).toInt - (V 0 60).toInt) ∧ ((u.1 0 73).toInt + (u.1 0 95).toInt - (u.1 0 65).toInt ≤ (V 0 73).toInt + (V 0 95).toInt - (V 0 65).toInt + 1) ∧ ((V 0 73).toInt ≤ (u.1 0 73).toInt) ∧ ((V 0 69).toInt ≤ (u.1 0 69).toInt) ∧ ((u.1 0 95).toInt = (V 0 95).toInt) ∧ ((u.1 0 76).toInt - (u.1 0 69).toInt - (u.1 0 73).toInt ≤ (V 0 76).toInt - (V 0 69).toInt - (V 0 73).toInt) ∧ ((u.1 63 (Int32.toNatClampNeg p0)).toInt = 2) ∧ (RT u.1) ∧ (FRM V u.1 (-1))) (fun u t => gq D A (mw ad kk ks.1 u.1 u.2) (mty kk) t) A
def K_s_closes (l : Launch) (D : va_G) (ks : KS) (d1 d2 : Nat) : Prop := ∀ (sz : Nat) (ad : Nat → Nat) (kk : Nat → ClassId) (V : Vf) (L : Lf) (p0 : Int32) (hMV : rgd bM V) (rg_p0 : 0 ≤ p0.toInt ∧ p0.toInt ≤ 299) (rt : RT V) (n1 : (V 0 65).toInt ≤ (V 0 60).toInt) (n2 : (V 0 95).toInt ≤ (V 0 65).toInt) (n3 : (V 0 73).toInt + (V 0 95).toInt - (V 0 65).toInt ≤ 999000) (n4 : (V 0 76).toInt - (V 0 69).toInt - (V 0 73).toInt ≤ 1000000000) (n5 : 300 - (V 0 60).toInt ≤ (d1 : Int)) (n6 : 10 - (V 0 93).toInt ≤ (d2 : Int)) (oq1 : p0.toInt < (V 0 60).toInt) (n7 : (V 0 98).toInt + 400 * (d2 : Int) + 30 ≤ 19000) (st1 : 1 ≤ (V 63 (Int32.toNatClampNeg p0)).toInt) , Met l yX12_closes (Cond.code yX12_closes cX12_closes 4 (some .boolean) :: GW) (rK2 (4 * d1 + 40 * d2 + 13) (100 * d1 + 1000 * d2 + 500)) (va_Pc [.ref (ad 0), .int p0] (gp D ks (mw ad kk ks.1 V L) (mty kk) sz)) (q_s_closes D ks ad kk V L p0 (va_A (mw ad kk ks.1 V L) sz)) 0 0 (va_A (mw ad kk ks.1 V L) sz)
set_option maxHeartbeats 4000000 in
set_option maxRecDepth 100000 in
theorem s_closes {l : Launch} {D : va_G} {ks : KS} {d1 d2 : Nat} (hk_s_works : K_s_works l D ks d1 d2) : K_s_closes l D ks d1 d2 := by
  intro sz ad kk V L p0 hMV rg_p0 rt n1 n2 n3 n4 n5 n6 oq1 n7 st1
  refine g_met (q_s_closes D ks ad kk V L p0) (by decide) (Nat.le_of_ble_eq_true rfl) ?_
  intro p e s m below meth c A ls H locs hx hb hr hml hown hg hlocks hin hnw hgk hP hK hD hS hA hl
  have hown : s.vm.findClass RX12 = some m.cls := hown
  have hl : lv_has ls 4 [(0, .ref (ad 0)), (1, .int p0)] := hl
  have hP : va_P D vwCl (mw ad kk ks.1 V L) H := hP
  have hD : va_D A (mw ad kk ks.1 V L) := hD
  have hK : va_K D vwCl (mty kk) s := hK
  have agV : agr [(0, 60), (0, 65), (0, 68), (0, 69), (0, 73), (0, 76), (0, 90), (0, 91), (0, 92), (0, 93), (0, 95), (0, 96), (0, 98)] [59, 61, 62, 63, 64, 66, 67, 74, 75, 77, 78, 79, 80, 94, 97] V V := agr.rf
  have r1 : 0 ≤ ((V 0 65)).toInt ∧ ((V 0 65)).toInt ≤ 1000000 := hMV 0 65
  have r2 : 0 ≤ ((V 0 60)).toInt ∧ ((V 0 60)).toInt ≤ 300 := hMV 0 60
  have r3 : 0 ≤ ((V 0 95)).toInt ∧ ((V 0 95)).toInt ≤ 300 := hMV 0 95
  have r4 : 0 ≤ ((V 0 73)).toInt ∧ ((V 0 73)).toInt ≤ 1000000 := hMV 0 73
  have r5 : 0 ≤ ((V 0 76)).toInt ∧ ((V 0 76)).toInt ≤ 2000000000 := hMV 0 76
  have r6 : 0 ≤ ((V 0 69)).toInt ∧ ((V 0 69)).toInt ≤ 3000 := hMV 0 69
  have r7 : 0 ≤ ((V 0 93)).toInt ∧ ((V 0 93)).toInt ≤ 10 := hMV 0 93
  have r8 : 0 ≤ ((V 0 98)).toInt ∧ ((V 0 98)).toInt ≤ 20000 := hMV 0 98
  have r9 : 0 ≤ ((V 63 (Int32.toNatClampNeg p0))).toInt ∧ ((V 63 (Int32.toNatClampNeg p0))).toInt ≤ 2 := hMV 63 (Int32.toNatClampNeg p0)
  refine lv_bipush (v := 24) hx hb dX12_closes_0 (by decide) ?_
  refine lv_aload_n hx hb dX12_closes_2 rfl (lv_at hl 0 rfl) ?_
  refine va_get (D := D) (ci := 12) (v := .int (V 0 11)) (C := RX12) (T := TX12) (N := 100) hx hb hg inX12 hown hK hP 0 rfl rfl 11 (by decide) (hg _ w1721) (fun _ h9 => h9) rfl dX12_closes_3 ?_
  have r10 : 0 ≤ ((V 0 11)).toInt ∧ ((V 0 11)).toInt ≤ 1 := hMV 0 11
  refine lv_imul hx hb dX12_closes_6 ?_
  refine lv_topi (fun z11 ez11 => ?_)
  have hz11 : z11.toInt = 24 * ((V 0 11)).toInt := i_mul ez11 (by decide) rfl (by omega)
  refine lv_aload_n hx hb dX12_closes_7 rfl (lv_at hl 0 rfl) ?_
  refine va_get (D := D) (ci := 12) (v := .ref (ad 61)) (C := RX12) (T := TX12) (N := 100) hx hb hg inX12 hown hK hP 0 rfl rfl 61 (by decide) (hg _ w1771) (fun _ h9 => h9) rfl dX12_closes_8 ?_
  refine lv_iload_n hx hb dX12_closes_11 rfl (lv_at hl 1 rfl) ?_
  refine va_iald (D := D) (i := p0) hx hb hK hP 46 45 rfl rfl (i_in (a := p0.toInt) rfl (by first | omega | ((try (have i_rt := Imp.go rt (by omega))); omega))) dX12_closes_12 ?_
  have r12 : 0 ≤ ((V 61 (Int32.toNatClampNeg p0))).toInt ∧ ((V 61 (Int32.toNatClampNeg p0))).toInt ≤ 23 := hMV 61 (Int32.toNatClampNeg p0)
  refine lv_iadd hx hb dX12_closes_13 ?_
  refine lv_topi (fun z13 ez13 => ?_)
  have hz13 : z13.toInt = z11.toInt + ((V 61 (Int32.toNatClampNeg p0))).toInt := i_add ez13 rfl rfl (by omega)
  refine lv_istore_n (lv' := [(2, .int z13), (0, .ref (ad 0)), (1, .int p0)]) hx hb dX12_closes_14 rfl hl (by decide) rfl (fun ls hl => ?_)
  refine lv_iconst (v := 0) hx hb dX12_closes_15 (by decide) ?_
  refine lv_istore_n (lv' := [(3, .int 0), (2, .int z13), (0, .ref (ad 0)), (1, .int p0)]) hx hb dX12_closes_16 rfl hl (by decide) rfl (fun ls hl => ?_)
  refine lv_aload_n hx hb dX12_closes_17 rfl (lv_at hl 2 rfl) ?_
  refine va_get (D := D) (ci := 12) (v := .ref (ad 33)) (C := RX12) (T := TX12) (N := 100) hx hb hg inX12 hown hK hP 0 rfl rfl 33 (by decide) (hg _ w1743) (fun _ h9 => h9) rfl dX12_closes_18 ?_
  refine lv_iload_n hx hb dX12_closes_21 rfl (lv_at hl 1 rfl) ?_
  refine va_iald (D := D) (i := z13) hx hb hK hP 26 25 rfl rfl (i_in (a := z13.toInt) rfl (by first | omega | ((try (have i_rt := Imp.go rt (by omega))); omega))) dX12_closes_22 ?_
  refine lv_if_lt (tgt := 46) hx hb dX12_closes_23 (by decide) (fun c14 => ?_) (fun c14 => ?_)
  · skip
    have f15 : ((V 33 (Int32.toNatClampNeg z13))).toInt < 0 := b_lt rfl (by decide) c14
    refine lv_aload_n hx hb dX12_closes_46 rfl (lv_at hl 2 rfl) ?_
    refine va_get (D := D) (ci := 12) (v := .int (V 0 73)) (C := RX12) (T := TX12) (N := 100) hx hb hg inX12 hown hK hP 0 rfl rfl 73 (by decide) (hg _ w1783) (fun _ h9 => h9) rfl dX12_closes_47 ?_
    refine lv_sipush (v := 300) hx hb dX12_closes_50 (by decide) ?_
    refine lv_icmp_ge (tgt := 109) hx hb dX12_closes_53 (by decide) (fun c16 => ?_) (fun c16 => ?_)
    · skip
      have f17 : 300 ≤ ((V 0 73)).toInt := b_le (by decide) rfl c16
      refine lv_aload_n hx hb dX12_closes_109 rfl (lv_at hl 2 rfl) ?_
      refine lv_dup hx hb dX12_closes_110 rfl ?_
      refine va_get (D := D) (ci := 12) (v := .int (V 0 73)) (C := RX12) (T := TX12) (N := 100) hx hb hg inX12 hown hK hP 0 rfl rfl 73 (by decide) (hg _ w1783) (fun _ h9 => h9) rfl dX12_closes_111 ?_
      refine lv_iconst (v := 1) hx hb dX12_closes_114 (by decide) ?_
      refine lv_iadd hx hb dX12_closes_115 ?_
      refine lv_topi (fun z18 ez18 => ?_)
      have hz18 : z18.toInt = ((V 0 73)).toInt + 1 := i_add ez18 rfl (by decide) (by omega)
      refine va_put (D := D) (ci := 12) (v := .int z18) (ty := tyX12 73) (C := RX12) (T := TX12) (N := 100) hx hb hg inX12 tyX12 tyX12_ok nmX12 hown hK hP hD hS 0 rfl rfl 73 (by decide) (hg _ w1783) (fun _ h9 => h9) rfl (tyX12_ok 73 (by decide)) rfl rfl (Nat.le_of_ble_eq_true rfl) dX12_closes_116 (fun H locs hP hD hS => ?_)
      obtain ⟨V19, hV19⟩ : ∃ z, z = up2 V 0 73 z18 := ⟨_, rfl⟩
      have hP : va_P D vwCl (mw ad kk ks.1 V19 L) H := by rw [hV19]; exact hP
      have hD : va_D A (mw ad kk ks.1 V19 L) := by rw [hV19]; exact hD
      have hMV19 : rgd bM V19 := hMV.put hV19 (show 0 ≤ z18.toInt ∧ z18.toInt ≤ 1000000 from by first | omega | ((try (have i_rt := Imp.go rt (by omega))); omega))
      have agV19 : agr [(0, 60), (0, 65), (0, 68), (0, 69), (0, 73), (0, 76), (0, 90), (0, 91), (0, 92), (0, 93), (0, 95), (0, 96), (0, 98)] [59, 61, 62, 63, 64, 66, 67, 74, 75, 77, 78, 79, 80, 94, 97] V V19 := agV.up hV19 rfl
      have fm20 : FRM V V19 (-1) := ((FRM.ag (show agr [(0, 73)] [] V V19 from (agr.up agr.rf hV19 rfl)) ⟨⟨rfl, fun _ => rfl, fun _ => rfl, fun _ => rfl, fun _ => rfl, fun _ => rfl, fun _ => rfl⟩, by decide, by decide, rfl, rfl, fun _ => rfl, fun _ => rfl, fun _ => rfl, fun _ => rfl, fun _ => rfl, fun _ => rfl⟩) : FRM V V19 (-1))
      have ko2 := i_clamp (x := p0) rfl (by omega)
      have hst := (fm20.2.1 (Int32.toNatClampNeg p0) (by omega)).2.2.2 st1
      have rt21 : RT V19 := RT.ag rt hMV (show agr [(0, 73)] [] V V19 from (agr.up agr.rf hV19 rfl)) ⟨⟨rfl, fun _ => rfl, fun _ => rfl, fun _ => rfl, fun _ => rfl, fun _ => rfl, fun _ => rfl⟩, by decide, by decide, rfl, rfl, fun _ => rfl, fun _ => rfl, fun _ => rfl, fun _ => rfl, fun _ => rfl, fun _ => rfl⟩ (c0k.ag (show agr [(0, 73)] [] V V19 from (agr.up agr.rf hV19 rfl)) rfl)
      have hs2 : (V19 63 (Int32.toNatClampNeg p0)).toInt ≤ 2 := (hMV19 63 _).2
      refine lv_aload_n hx hb dX12_closes_119 rfl (lv_at hl 2 rfl) ?_
      refine va_get (D := D) (ci := 12) (v := .ref (ad 63)) (C := RX12) (T := TX12) (N := 100) hx hb hg inX12 hown hK hP 0 rfl rfl 63 (by decide) (hg _ w1773) (fun _ h9 => h9) rfl dX12_closes_120 ?_
      refine lv_iload_n hx hb dX12_closes_123 rfl (lv_at hl 3 rfl) ?_
      refine lv_iconst (v := 2) hx hb dX12_closes_124 (by decide) ?_
      refine va_iast (D := D) (i := p0) (x := 2) hx hb hK hP hD hS 48 47 rfl rfl (i_in (a := p0.toInt) rfl (by first | omega | ((try (have i_rt := Imp.go rt (by omega))); omega))) dX12_closes_125 (fun H locs hP hD hS => ?_)
      obtain ⟨V22, hV22⟩ : ∃ z, z = up2 V19 63 (Int32.toNatClampNeg p0) 2 := ⟨_, rfl⟩
      have hP : va_P D vwCl (mw ad kk ks.1 V22 L) H := by rw [hV22]; exact hP
      have hD : va_D A (mw ad kk ks.1 V22 L) := by rw [hV22]; exact hD
      have hMV22 : rgd bM V22 := hMV19.put hV22 (show 0 ≤ Int32.toInt 2 ∧ Int32.toInt 2 ≤ 2 from by decide)
      have agV22 : agr [(0, 60), (0, 65), (0, 68), (0, 69), (0, 73), (0, 76), (0, 90), (0, 91), (0, 92), (0, 93), (0, 95), (0, 96), (0, 98)] [59, 61, 62, 63, 64, 66, 67, 74, 75, 77, 78, 79, 80, 94, 97] V V22 := agV19.up hV22 rfl
      refine lv_iload_n hx hb dX12_closes_126 rfl (lv_at hl 0 rfl) ?_
      refine lv_iconst (v := 2) hx hb dX12_closes_127 (by decide) ?_
      refine lv_icmp_ne (tgt := 135) hx hb dX12_closes_128 (by decide) (fun _ => ?_) (fun q => absurd q (by decide))
      refine lv_iconst (v := 0) hx hb dX12_closes_135 (by decide) ?_
      have pq23 : (V22 0 93).toInt = ((V 0 93)).toInt := congrArg Int32.toInt ((up2_o hV22 (by decide)).trans (up2_k hV19 (by decide)))
      have pq24 : (V22 0 98).toInt = ((V 0 98)).toInt := congrArg Int32.toInt ((up2_o hV22 (by decide)).trans (up2_k hV19 (by decide)))
      have pq25 : (V22 0 60).toInt = ((V 0 60)).toInt := congrArg Int32.toInt ((up2_o hV22 (by decide)).trans (up2_k hV19 (by decide)))
      have pq26 : (V22 0 65).toInt = ((V 0 65)).toInt := congrArg Int32.toInt ((up2_o hV22 (by decide)).trans (up2_k hV19 (by decide)))
      have pq27 : (V22 0 73).toInt = z18.toInt := congrArg Int32.toInt ((up2_o hV22 (by decide)).trans (up2_s hV19))
      have pq28 : (V22 0 95).toInt = ((V 0 95)).toInt := congrArg Int32.toInt ((up2_o hV22 (by decide)).trans (up2_k hV19 (by decide)))
      have pq29 : (V22 0 69).toInt = ((V 0 69)).toInt := congrArg Int32.toInt ((up2_o hV22 (by decide)).trans (up2_k hV19 (by decide)))
      have pq30 : (V22 0 76).toInt = ((V 0 76)).toInt := congrArg Int32.toInt ((up2_o hV22 (by decide)).trans (up2_k hV19 (by decide)))
      have pq31 : (V22 63 (Int32.toNatClampNeg p0)).toInt = 2 := (congrArg Int32.toInt (up2_s hV22)).trans (by decide)
      have pq32 : (V19 0 95).toInt = ((V 0 95)).toInt := congrArg Int32.toInt (up2_k hV19 (by decide))
      exact W.zret (v := 0) hx hb hr rfl (fun t ht hW => ⟨⟨0, (V22, L), rfl, ⟨hMV22, agV22, rfl, (by decide), (show (V22 0 93).toInt = (V 0 93).toInt from by first | omega | ((try (have i_rt := Imp.go rt (by omega))); omega)), (show (V22 0 98).toInt = (V 0 98).toInt from by first | omega | ((try (have i_rt := Imp.go rt (by omega))); omega)), (show (V 0 60).toInt ≤ (V22 0 60).toInt from by first | omega | ((try (have i_rt := Imp.go rt (by omega))); omega)), (show (V 0 65).toInt ≤ (V22 0 65).toInt from by first | omega | ((try (have i_rt := Imp.go rt (by omega))); omega)), (show (V22 0 65).toInt - (V 0 65).toInt ≤ (V22 0 60).toInt - (V 0 60).toInt from by first | omega | ((try (have i_rt := Imp.go rt (by omega))); omega)), (show (V22 0 73).toInt + (V22 0 95).toInt - (V22 0 65).toInt ≤ (V 0 73).toInt + (V 0 95).toInt - (V 0 65).toInt + 1 from by first | omega | ((try (have i_rt := Imp.go rt (by omega))); omega)), (show (V 0 73).toInt ≤ (V22 0 73).toInt from by first | omega | ((try (have i_rt := Imp.go rt (by omega))); omega)), (show (V 0 69).toInt ≤ (V22 0 69).toInt from by first | omega | ((try (have i_rt := Imp.go rt (by omega))); omega)), (show (V22 0 95).toInt = (V 0 95).toInt from by first | omega | ((try (have i_rt := Imp.go rt (by omega))); omega)), (show (V22 0 76).toInt - (V22 0 69).toInt - (V22 0 73).toInt ≤ (V 0 76).toInt - (V 0 69).toInt - (V 0 73).toInt from by first | omega | ((try (have i_rt := Imp.go rt (by omega))); omega)), (show (V22 63 (Int32.toNatClampNeg p0)).toInt = 2 from by first | omega | ((try (have i_rt := Imp.go rt (by omega))); omega)), (RT.state rt21 hMV19 hV22 (by decide)), (FRM.tr fm20 (FRM.state hV22 (Or.inr ⟨by omega, by show _ ≤ (2 : Int32).toInt; have h9 : (2 : Int32).toInt = 2 := (by decide); omega⟩)) agV19 ⟨rfl, fun _ => rfl, fun _ => rfl, fun _ => rfl, fun _ => rfl, fun _ => rfl, fun _ => rfl⟩ (by omega))⟩, by rw [ht]; exact hP, va_K.moved hW.alike hK, hD⟩, hS.F ht⟩) hS.2.2 dX12_closes_136
    · skip
      have f33 : ((V 0 73)).toInt < 300 := b_nle (by decide) rfl c16
      refine lv_aload_n hx hb dX12_closes_56 rfl (lv_at hl 2 rfl) ?_
      refine va_get (D := D) (ci := 12) (v := .ref (ad 74)) (C := RX12) (T := TX12) (N := 100) hx hb hg inX12 hown hK hP 0 rfl rfl 74 (by decide) (hg _ w1784) (fun _ h9 => h9) rfl dX12_closes_57 ?_
      refine lv_aload_n hx hb dX12_closes_60 rfl (lv_at hl 2 rfl) ?_
      refine va_get (D := D) (ci := 12) (v := .int (V 0 73)) (C := RX12) (T := TX12) (N := 100) hx hb hg inX12 hown hK hP 0 rfl rfl 73 (by decide) (hg _ w1783) (fun _ h9 => h9) rfl dX12_closes_61 ?_
      refine lv_iload_n hx hb dX12_closes_64 rfl (lv_at hl 3 rfl) ?_
      refine va_iast (D := D) (i := (V 0 73)) (x := p0) hx hb hK hP hD hS 52 51 rfl rfl (i_in (a := ((V 0 73)).toInt) rfl (by first | omega | ((try (have i_rt := Imp.go rt (by omega))); omega))) dX12_closes_65 (fun H locs hP hD hS => ?_)
      obtain ⟨V34, hV34⟩ : ∃ z, z = up2 V 74 (Int32.toNatClampNeg (V 0 73)) p0 := ⟨_, rfl⟩
      have hP : va_P D vwCl (mw ad kk ks.1 V34 L) H := by rw [hV34]; exact hP
      have hD : va_D A (mw ad kk ks.1 V34 L) := by rw [hV34]; exact hD
      have hMV34 : rgd bM V34 := hMV.put hV34 (i_full _)
      have agV34 : agr [(0, 60), (0, 65), (0, 68), (0, 69), (0, 73), (0, 76), (0, 90), (0, 91), (0, 92), (0, 93), (0, 95), (0, 96), (0, 98)] [59, 61, 62, 63, 64, 66, 67, 74, 75, 77, 78, 79, 80, 94, 97] V V34 := agV.up hV34 rfl
      refine lv_aload_n hx hb dX12_closes_66 rfl (lv_at hl 2 rfl) ?_
      refine va_get (D := D) (ci := 12) (v := .ref (ad 75)) (C := RX12) (T := TX12) (N := 100) hx hb hg inX12 hown hK hP 0 rfl rfl 75 (by decide) (hg _ w1785) (fun _ h9 => h9) rfl dX12_closes_67 ?_
      refine lv_aload_n hx hb dX12_closes_70 rfl (lv_at hl 2 rfl) ?_
      refine va_get (D := D) (ci := 12) (v := .int (V34 0 73)) (C := RX12) (T := TX12) (N := 100) hx hb hg inX12 hown hK hP 0 rfl rfl 73 (by decide) (hg _ w1783) (fun _ h9 => h9) rfl dX12_closes_71 ?_
      refine g_top (v := (V 0 73)) (up2_o hV34 (by decide)) ?_
      refine lv_iload_n hx hb dX12_closes_74 rfl (lv_at hl 0 rfl) ?_
      refine lv_if_ne (tgt := 82) hx hb dX12_closes_75 (by decide) (fun q => absurd rfl q) (fun _ => ?_)
      refine lv_iconst (v := 0) hx hb dX12_closes_78 (by decide) ?_
      refine lv_goto (tgt := 108) hx hb dX12_closes_79 (by decide) ?_
      refine va_iast (D := D) (i := (V 0 73)) (x := 0) hx hb hK hP hD hS 53 52 rfl rfl (i_in (a := ((V 0 73)).toInt) rfl (by first | omega | ((try (have i_rt := Imp.go rt (by omega))); omega))) dX12_closes_108 (fun H locs hP hD hS => ?_)
      obtain ⟨V35, hV35⟩ : ∃ z, z = up2 V34 75 (Int32.toNatClampNeg (V 0 73)) 0 := ⟨_, rfl⟩
      have hP : va_P D vwCl (mw ad kk ks.1 V35 L) H := by rw [hV35]; exact hP
      have hD : va_D A (mw ad kk ks.1 V35 L) := by rw [hV35]; exact hD
      have hMV35 : rgd bM V35 := hMV34.put hV35 (i_full _)
      have agV35 : agr [(0, 60), (0, 65), (0, 68), (0, 69), (0, 73), (0, 76), (0, 90), (0, 91), (0, 92), (0, 93), (0, 95), (0, 96), (0, 98)] [59, 61, 62, 63, 64, 66, 67, 74, 75, 77, 78, 79, 80, 94, 97] V V35 := agV34.up hV35 rfl
      refine lv_aload_n hx hb dX12_closes_109 rfl (lv_at hl 2 rfl) ?_
      refine lv_dup hx hb dX12_closes_110 rfl ?_
      refine va_get (D := D) (ci := 12) (v := .int (V35 0 73)) (C := RX12) (T := TX12) (N := 100) hx hb hg inX12 hown hK hP 0 rfl rfl 73 (by decide) (hg _ w1783) (fun _ h9 => h9) rfl dX12_closes_111 ?_
      refine g_top (v := (V 0 73)) ((up2_o hV35 (by decide)).trans (up2_o hV34 (by decide))) ?_
      refine lv_iconst (v := 1) hx hb dX12_closes_114 (by decide) ?_
      refine lv_iadd hx hb dX12_closes_115 ?_
      refine lv_topi (fun z36 ez36 => ?_)
      have hz36 : z36.toInt = ((V 0 73)).toInt + 1 := i_add ez36 rfl (by decide) (by omega)
      refine va_put (D := D) (ci := 12) (v := .int z36) (ty := tyX12 73) (C := RX12) (T := TX12) (N := 100) hx hb hg inX12 tyX12 tyX12_ok nmX12 hown hK hP hD hS 0 rfl rfl 73 (by decide) (hg _ w1783) (fun _ h9 => h9) rfl (tyX12_ok 73 (by decide)) rfl rfl (Nat.le_of_ble_eq_true rfl) dX12_closes_116 (fun H locs hP hD hS => ?_)
      obtain ⟨V37, hV37⟩ : ∃ z, z = up2 V35 0 73 z36 := ⟨_, rfl⟩
      have hP : va_P D vwCl (mw ad kk ks.1 V37 L) H := by rw [hV37]; exact hP
      have hD : va_D A (mw ad kk ks.1 V37 L) := by rw [hV37]; exact hD
      have hMV37 : rgd bM V37 := hMV35.put hV37 (show 0 ≤ z36.toInt ∧ z36.toInt ≤ 1000000 from by first | omega | ((try (have i_rt := Imp.go rt (by omega))); omega))
      have agV37 : agr [(0, 60), (0, 65), (0, 68), (0, 69), (0, 73), (0, 76), (0, 90), (0, 91), (0, 92), (0, 93), (0, 95), (0, 96), (0, 98)] [59, 61, 62, 63, 64, 66, 67, 74, 75, 77, 78, 79, 80, 94, 97] V V37 := agV35.up hV37 rfl
      have fm38 : FRM V V37 (-1) := ((FRM.ag (show agr [(0, 73)] [74, 75] V V37 from (agr.up (agr.up (agr.up agr.rf hV34 rfl) hV35 rfl) hV37 rfl)) ⟨⟨rfl, fun _ => rfl, fun _ => rfl, fun _ => rfl, fun _ => rfl, fun _ => rfl, fun _ => rfl⟩, by decide, by decide, rfl, rfl, fun _ => rfl, fun _ => rfl, fun _ => rfl, fun _ => rfl, fun _ => rfl, fun _ => rfl⟩) : FRM V V37 (-1))
      have ko2 := i_clamp (x := p0) rfl (by omega)
      have hst := (fm38.2.1 (Int32.toNatClampNeg p0) (by omega)).2.2.2 st1
      have rt39 : RT V37 := RT.ag rt hMV (show agr [(0, 73)] [74, 75] V V37 from (agr.up (agr.up (agr.up agr.rf hV34 rfl) hV35 rfl) hV37 rfl)) ⟨⟨rfl, fun _ => rfl, fun _ => rfl, fun _ => rfl, fun _ => rfl, fun _ => rfl, fun _ => rfl⟩, by decide, by decide, rfl, rfl, fun _ => rfl, fun _ => rfl, fun _ => rfl, fun _ => rfl, fun _ => rfl, fun _ => rfl⟩ (c0k.ag (show agr [(0, 73)] [74, 75] V V37 from (agr.up (agr.up (agr.up agr.rf hV34 rfl) hV35 rfl) hV37 rfl)) rfl)
      have hs2 : (V37 63 (Int32.toNatClampNeg p0)).toInt ≤ 2 := (hMV37 63 _).2
      refine lv_aload_n hx hb dX12_closes_119 rfl (lv_at hl 2 rfl) ?_
      refine va_get (D := D) (ci := 12) (v := .ref (ad 63)) (C := RX12) (T := TX12) (N := 100) hx hb hg inX12 hown hK hP 0 rfl rfl 63 (by decide) (hg _ w1773) (fun _ h9 => h9) rfl dX12_closes_120 ?_
      refine lv_iload_n hx hb dX12_closes_123 rfl (lv_at hl 3 rfl) ?_
      refine lv_iconst (v := 2) hx hb dX12_closes_124 (by decide) ?_
      refine va_iast (D := D) (i := p0) (x := 2) hx hb hK hP hD hS 48 47 rfl rfl (i_in (a := p0.toInt) rfl (by first | omega | ((try (have i_rt := Imp.go rt (by omega))); omega))) dX12_closes_125 (fun H locs hP hD hS => ?_)
      obtain ⟨V40, hV40⟩ : ∃ z, z = up2 V37 63 (Int32.toNatClampNeg p0) 2 := ⟨_, rfl⟩
      have hP : va_P D vwCl (mw ad kk ks.1 V40 L) H := by rw [hV40]; exact hP
      have hD : va_D A (mw ad kk ks.1 V40 L) := by rw [hV40]; exact hD
      have hMV40 : rgd bM V40 := hMV37.put hV40 (show 0 ≤ Int32.toInt 2 ∧ Int32.toInt 2 ≤ 2 from by decide)
      have agV40 : agr [(0, 60), (0, 65), (0, 68), (0, 69), (0, 73), (0, 76), (0, 90), (0, 91), (0, 92), (0, 93), (0, 95), (0, 96), (0, 98)] [59, 61, 62, 63, 64, 66, 67, 74, 75, 77, 78, 79, 80, 94, 97] V V40 := agV37.up hV40 rfl
      refine lv_iload_n hx hb dX12_closes_126 rfl (lv_at hl 0 rfl) ?_
      refine lv_iconst (v := 2) hx hb dX12_closes_127 (by decide) ?_
      refine lv_icmp_ne (tgt := 135) hx hb dX12_closes_128 (by decide) (fun _ => ?_) (fun q => absurd q (by decide))
      refine lv_iconst (v := 0) hx hb dX12_closes_135 (by decide) ?_
      have pq41 : (V40 0 93).toInt = ((V 0 93)).toInt := congrArg Int32.toInt ((up2_o hV40 (by decide)).trans ((up2_k hV37 (by decide)).trans ((up2_o hV35 (by decide)).trans (up2_o hV34 (by decide)))))
      have pq42 : (V40 0 98).toInt = ((V 0 98)).toInt := congrArg Int32.toInt ((up2_o hV40 (by decide)).trans ((up2_k hV37 (by decide)).trans ((up2_o hV35 (by decide)).trans (up2_o hV34 (by decide)))))
      have pq43 : (V40 0 60).toInt = ((V 0 60)).toInt := congrArg Int32.toInt ((up2_o hV40 (by decide)).trans ((up2_k hV37 (by decide)).trans ((up2_o hV35 (by decide)).trans (up2_o hV34 (by decide)))))
      have pq44 : (V40 0 65).toInt = ((V 0 65)).toInt := congrArg Int32.toInt ((up2_o hV40 (by decide)).trans ((up2_k hV37 (by decide)).trans ((up2_o hV35 (by decide)).trans (up2_o hV34 (by decide)))))
      have pq45 : (V40 0 73).toInt = z36.toInt := congrArg Int32.toInt ((up2_o hV40 (by decide)).trans (up2_s hV37))
      have pq46 : (V40 0 95).toInt = ((V 0 95)).toInt := congrArg Int32.toInt ((up2_o hV40 (by decide)).trans ((up2_k hV37 (by decide)).trans ((up2_o hV35 (by decide)).trans (up2_o hV34 (by decide)))))
      have pq47 : (V40 0 69).toInt = ((V 0 69)).toInt := congrArg Int32.toInt ((up2_o hV40 (by decide)).trans ((up2_k hV37 (by decide)).trans ((up2_o hV35 (by decide)).trans (up2_o hV34 (by decide)))))
      have pq48 : (V40 0 76).toInt = ((V 0 76)).toInt := congrArg Int32.toInt ((up2_o hV40 (by decide)).trans ((up2_k hV37 (by decide)).trans ((up2_o hV35 (by decide)).trans (up2_o hV34 (by decide)))))
      have pq49 : (V40 63 (Int32.toNatClampNeg p0)).toInt = 2 := (congrArg Int32.toInt (up2_s hV40)).trans (by decide)
      have pq50 : (V37 0 95).toInt = ((V 0 95)).toInt := congrArg Int32.toInt ((up2_k hV37 (by decide)).trans ((up2_o hV35 (by decide)).trans (up2_o hV34 (by decide))))
      exact W.zret (v := 0) hx hb hr rfl (fun t ht hW => ⟨⟨0, (V40, L), rfl, ⟨hMV40, agV40, rfl, (by decide), (show (V40 0 93).toInt = (V 0 93).toInt from by first | omega | ((try (have i_rt := Imp.go rt (by omega))); omega)), (show (V40 0 98).toInt = (V 0 98).toInt from by first | omega | ((try (have i_rt := Imp.go rt (by omega))); omega)), (show (V 0 60).toInt ≤ (V40 0 60).toInt from by first | omega | ((try (have i_rt := Imp.go rt (by omega))); omega)), (show (V 0 65).toInt ≤ (V40 0 65).toInt from by first | omega | ((try (have i_rt := Imp.go rt (by omega))); omega)), (show (V40 0 65).toInt - (V 0 65).toInt ≤ (V40 0 60).toInt - (V 0 60).toInt from by first | omega | ((try (have i_rt := Imp.go rt (by omega))); omega)), (show (V40 0 73).toInt + (V40 0 95).toInt - (V40 0 65).toInt ≤ (V 0 73).toInt + (V 0 95).toInt - (V 0 65).toInt + 1 from by first | omega | ((try (have i_rt := Imp.go rt (by omega))); omega)), (show (V 0 73).toInt ≤ (V40 0 73).toInt from by first | omega | ((try (have i_rt := Imp.go rt (by omega))); omega)), (show (V 0 69).toInt ≤ (V40 0 69).toInt from by first | omega | ((try (have i_rt := Imp.go rt (by omega))); omega)), (show (V40 0 95).toInt = (V 0 95).toInt from by first | omega | ((try (have i_rt := Imp.go rt (by omega))); omega)), (show (V40 0 76).toInt - (V40 0 69).toInt - (V40 0 73).toInt ≤ (V 0 76).toInt - (V 0 69).toInt - (V 0 73).toInt from by first | omega | ((try (have i_rt := Imp.go rt (by omega))); omega)), (show (V40 63 (Int32.toNatClampNeg p0)).toInt = 2 from by first | omega | ((try (have i_rt := Imp.go rt (by omega))); omega)), (RT.state rt39 hMV37 hV40 (by decide)), (FRM.tr fm38 (FRM.state hV40 (Or.inr ⟨by omega, by show _ ≤ (2 : Int32).toInt; have h9 : (2 : Int32).toInt = 2 := (by decide); omega⟩)) agV37 ⟨rfl, fun _ => rfl, fun _ => rfl, fun _ => rfl, fun _ => rfl, fun _ => rfl, fun _ => rfl⟩ (by omega))⟩, by rw [ht]; exact hP, va_K.moved hW.alike hK, hD⟩, hS.F ht⟩) hS.2.2 dX12_closes_136
  · skip
    have f51 : 0 ≤ ((V 33 (Int32.toNatClampNeg z13))).toInt := b_nlt rfl (by decide) c14
    refine lv_aload_n hx hb dX12_closes_26 rfl (lv_at hl 2 rfl) ?_
    refine lv_aload_n hx hb dX12_closes_27 rfl (lv_at hl 2 rfl) ?_
    refine va_get (D := D) (ci := 12) (v := .ref (ad 33)) (C := RX12) (T := TX12) (N := 100) hx hb hg inX12 hown hK hP 0 rfl rfl 33 (by decide) (hg _ w1743) (fun _ h9 => h9) rfl dX12_closes_28 ?_
    refine lv_iload_n hx hb dX12_closes_31 rfl (lv_at hl 1 rfl) ?_
    refine va_iald (D := D) (i := z13) hx hb hK hP 26 25 rfl rfl (i_in (a := z13.toInt) rfl (by first | omega | ((try (have i_rt := Imp.go rt (by omega))); omega))) dX12_closes_32 ?_
    have ko := i_clamp (x := p0) rfl (by omega)
    have kn : (nwh V : Int) = (V 0 11).toInt := i_clamp (x := V 0 11) rfl (by have h9 : 0 ≤ (V 0 11).toInt ∧ (V 0 11).toInt ≤ 1 := hMV 0 11; omega)
    have hO := rt.2.2.1 (Int32.toNatClampNeg p0) (by omega)
    have cok := TB.compE rt.1 hO
    have r61 : 0 ≤ (V 61 (Int32.toNatClampNeg p0)).toInt ∧ (V 61 (Int32.toNatClampNeg p0)).toInt ≤ 23 := hMV 61 _
    have k61 := i_clamp (x := V 61 (Int32.toNatClampNeg p0)) rfl r61.1
    have nb : (nwh V : Int) ≤ 1 := by have h9 : 0 ≤ (V 0 11).toInt ∧ (V 0 11).toInt ≤ 1 := hMV 0 11; omega
    have kz : Int32.toNatClampNeg z13 = 24 * nwh V + Int32.toNatClampNeg (V 61 (Int32.toNatClampNeg p0)) := by have h9 := i_clamp (x := z13) rfl (by omega); omega
    have q33 : V 33 (24 * nwh V + Int32.toNatClampNeg (V 61 (Int32.toNatClampNeg p0))) = V 33 (Int32.toNatClampNeg z13) := by rw [kz]
    have ce := cok.2.1
    rw [q33] at ce
    have ce2 := ce (by omega)
    have cl := ce2.lt
    refine lv_iload_n hx hb dX12_closes_33 rfl (lv_at hl 3 rfl) ?_
    refine lv_aload_n hx hb dX12_closes_34 rfl (lv_at hl 2 rfl) ?_
    refine va_get (D := D) (ci := 12) (v := .ref (ad 62)) (C := RX12) (T := TX12) (N := 100) hx hb hg inX12 hown hK hP 0 rfl rfl 62 (by decide) (hg _ w1772) (fun _ h9 => h9) rfl dX12_closes_35 ?_
    refine lv_iload_n hx hb dX12_closes_38 rfl (lv_at hl 3 rfl) ?_
    refine va_iald (D := D) (i := p0) hx hb hK hP 47 46 rfl rfl (i_in (a := p0.toInt) rfl (by first | omega | ((try (have i_rt := Imp.go rt (by omega))); omega))) dX12_closes_39 ?_
    have r52 : 0 ≤ ((V 62 (Int32.toNatClampNeg p0))).toInt ∧ ((V 62 (Int32.toNatClampNeg p0))).toInt ≤ 39 := hMV 62 (Int32.toNatClampNeg p0)
    refine lv_iconst (v := 0) hx hb dX12_closes_40 (by decide) ?_
    refine lv_iconst (v := (-1)) hx hb dX12_closes_41 (by decide) ?_
    have r53 : Int32.toInt 0 = 0 := by decide
    have r54 : Int32.toInt (-1) = (-1) := by decide
    refine gA_int (gA_runV (As := [.int (V 33 (Int32.toNatClampNeg z13)), .int p0, .int (V 62 (Int32.toNatClampNeg p0)), .int 0, .int (-1)]) (rest := []) (ci := 12) (q0 := 0) hx hb hml hown hg hP hD hK hS hA hnw hgk (hk_s_works H.size ad kk V L (V 33 (Int32.toNatClampNeg z13)) p0 (V 62 (Int32.toNatClampNeg p0)) 0 (-1) ((V 27 (24 * nwh V + Int32.toNatClampNeg (V 61 (Int32.toNatClampNeg p0)))).toInt) (10000 * nwh V) (10000 * nwh V + 10000) hMV (by first | omega | ((try (have i_rt := Imp.go rt (by omega))); omega)) (by first | omega | ((try (have i_rt := Imp.go rt (by omega))); omega)) (by first | omega | ((try (have i_rt := Imp.go rt (by omega))); omega)) rt (show (V 0 65).toInt ≤ (V 0 60).toInt from by first | omega | ((try (have i_rt := Imp.go rt (by omega))); omega)) (show (V 0 95).toInt ≤ (V 0 65).toInt from by first | omega | ((try (have i_rt := Imp.go rt (by omega))); omega)) (show (V 0 73).toInt + (V 0 95).toInt - (V 0 65).toInt ≤ 999000 from by first | omega | ((try (have i_rt := Imp.go rt (by omega))); omega)) (show (V 0 76).toInt - (V 0 69).toInt - (V 0 73).toInt ≤ 1000000001 from by first | omega | ((try (have i_rt := Imp.go rt (by omega))); omega)) (show 300 - (V 0 60).toInt ≤ ((d1 : Nat) : Int) from by first | omega | ((try (have i_rt := Imp.go rt (by omega))); omega)) (show 10 - (V 0 93).toInt ≤ ((d2 : Nat) : Int) from by first | omega | ((try (have i_rt := Imp.go rt (by omega))); omega)) (show p0.toInt < (V 0 60).toInt from by first | omega | ((try (have i_rt := Imp.go rt (by omega))); omega)) (show (V 0 98).toInt + 400 * ((d2 : Nat) : Int) + 30 ≤ 19000 from by first | omega | ((try (have i_rt := Imp.go rt (by omega))); omega)) ce2 (show ((10000 * nwh V + 10000) : Int) ≤ 20000 from by first | omega | ((try (have i_rt := Imp.go rt (by omega))); omega)) (Int.le_refl _)) w2272 w2274 w136 w172 w2275 rfl rfl hdV_yX12_works ⟨(by show (4 * (d1) + 40 * (d2) + 12) + 1 ≤ (4 * d1 + 40 * d2 + 13); omega), (by show 8 + (6 + 11) + (100 * (d1) + 1000 * (d2) + 460) ≤ (100 * d1 + 1000 * d2 + 500); omega)⟩ rfl hl.1 rfl (Nat.le_of_ble_eq_true rfl) dX12_closes_42 ⟨Nat.le_of_ble_eq_true rfl, Nat.le_of_ble_eq_true rfl⟩) hP hD hK hS hA (fun z55 u56 H locs w57 hP hD hK hS => ?_)
    obtain ⟨V71, L72⟩ := u56
    obtain ⟨hMV71, ajV71, axL72, rgz55, t58, t59, t60, t61, t62, t63, t64, t65, t66, t67, t68, t69, t70⟩ := w57
    have axL72 : L = L72 := Eq.symm axL72
    subst axL72
    have hP : va_P D vwCl (mw ad kk ks.1 V71 L) H := hP
    have hD : va_D A (mw ad kk ks.1 V71 L) := hD
    have hMV71 : rgd bM V71 := hMV71
    have ajV71 : agr [(0, 60), (0, 65), (0, 68), (0, 69), (0, 73), (0, 76), (0, 90), (0, 91), (0, 92), (0, 93), (0, 95), (0, 96), (0, 98)] [59, 61, 62, 63, 64, 66, 67, 74, 75, 77, 78, 79, 80, 94, 97] V V71 := ajV71
    have agV71 : agr [(0, 60), (0, 65), (0, 68), (0, 69), (0, 73), (0, 76), (0, 90), (0, 91), (0, 92), (0, 93), (0, 95), (0, 96), (0, 98)] [59, 61, 62, 63, 64, 66, 67, 74, 75, 77, 78, 79, 80, 94, 97] V V71 := agV.tr ajV71 (by decide) (by decide)
    have rgz55 : 0 ≤ z55.toInt ∧ z55.toInt ≤ 2 := rgz55
    have t58 : (V71 0 93).toInt = (V 0 93).toInt := t58
    have t59 : (V71 0 98).toInt = (V 0 98).toInt := t59
    have t60 : (V 0 60).toInt ≤ (V71 0 60).toInt := t60
    have t61 : (V 0 65).toInt ≤ (V71 0 65).toInt := t61
    have t62 : (V71 0 65).toInt - (V 0 65).toInt ≤ (V71 0 60).toInt - (V 0 60).toInt := t62
    have t63 : (V71 0 73).toInt + (V71 0 95).toInt - (V71 0 65).toInt ≤ (V 0 73).toInt + (V 0 95).toInt - (V 0 65).toInt := t63
    have t64 : (V 0 73).toInt ≤ (V71 0 73).toInt := t64
    have t65 : (V 0 69).toInt ≤ (V71 0 69).toInt := t65
    have t66 : (V71 0 95).toInt = (V 0 95).toInt := t66
    have t67 : (V71 0 76).toInt - (V71 0 69).toInt - (V71 0 73).toInt ≤ (V 0 76).toInt - (V 0 69).toInt - (V 0 73).toInt := t67
    have t68 : Imp (z55.toInt ≠ 2) ((V71 0 76).toInt - (V71 0 69).toInt - (V71 0 73).toInt + 1 ≤ (V 0 76).toInt - (V 0 69).toInt - (V 0 73).toInt) := t68
    have t69 : RT V71 := t69
    have t70 : FRM V V71 (-1) := t70
    have r73 : 0 ≤ ((V71 0 93)).toInt ∧ ((V71 0 93)).toInt ≤ 10 := hMV71 0 93
    have r74 : 0 ≤ ((V71 0 98)).toInt ∧ ((V71 0 98)).toInt ≤ 20000 := hMV71 0 98
    have r75 : 0 ≤ ((V71 0 60)).toInt ∧ ((V71 0 60)).toInt ≤ 300 := hMV71 0 60
    have r76 : 0 ≤ ((V71 0 65)).toInt ∧ ((V71 0 65)).toInt ≤ 1000000 := hMV71 0 65
    have r77 : 0 ≤ ((V71 0 73)).toInt ∧ ((V71 0 73)).toInt ≤ 1000000 := hMV71 0 73
    have r78 : 0 ≤ ((V71 0 95)).toInt ∧ ((V71 0 95)).toInt ≤ 300 := hMV71 0 95
    have r79 : 0 ≤ ((V71 0 69)).toInt ∧ ((V71 0 69)).toInt ≤ 3000 := hMV71 0 69
    have r80 : 0 ≤ ((V71 0 76)).toInt ∧ ((V71 0 76)).toInt ≤ 2000000000 := hMV71 0 76
    refine lv_istore_n (lv' := [(3, .int z55), (2, .int z13), (0, .ref (ad 0)), (1, .int p0)]) hx hb dX12_closes_45 rfl hl (by decide) rfl (fun ls hl => ?_)
    refine lv_aload_n hx hb dX12_closes_46 rfl (lv_at hl 2 rfl) ?_
    refine va_get (D := D) (ci := 12) (v := .int (V71 0 73)) (C := RX12) (T := TX12) (N := 100) hx hb hg inX12 hown hK hP 0 rfl rfl 73 (by decide) (hg _ w1783) (fun _ h9 => h9) rfl dX12_closes_47 ?_
    refine lv_sipush (v := 300) hx hb dX12_closes_50 (by decide) ?_
    refine lv_icmp_ge (tgt := 109) hx hb dX12_closes_53 (by decide) (fun c81 => ?_) (fun c81 => ?_)
    · skip
      have f82 : 300 ≤ ((V71 0 73)).toInt := b_le (by decide) rfl c81
      refine lv_aload_n hx hb dX12_closes_109 rfl (lv_at hl 2 rfl) ?_
      refine lv_dup hx hb dX12_closes_110 rfl ?_
      refine va_get (D := D) (ci := 12) (v := .int (V71 0 73)) (C := RX12) (T := TX12) (N := 100) hx hb hg inX12 hown hK hP 0 rfl rfl 73 (by decide) (hg _ w1783) (fun _ h9 => h9) rfl dX12_closes_111 ?_
      refine lv_iconst (v := 1) hx hb dX12_closes_114 (by decide) ?_
      refine lv_iadd hx hb dX12_closes_115 ?_
      refine lv_topi (fun z83 ez83 => ?_)
      have hz83 : z83.toInt = ((V71 0 73)).toInt + 1 := i_add ez83 rfl (by decide) (by omega)
      refine va_put (D := D) (ci := 12) (v := .int z83) (ty := tyX12 73) (C := RX12) (T := TX12) (N := 100) hx hb hg inX12 tyX12 tyX12_ok nmX12 hown hK hP hD hS 0 rfl rfl 73 (by decide) (hg _ w1783) (fun _ h9 => h9) rfl (tyX12_ok 73 (by decide)) rfl rfl (Nat.le_of_ble_eq_true rfl) dX12_closes_116 (fun H locs hP hD hS => ?_)
      obtain ⟨V84, hV84⟩ : ∃ z, z = up2 V71 0 73 z83 := ⟨_, rfl⟩
      have hP : va_P D vwCl (mw ad kk ks.1 V84 L) H := by rw [hV84]; exact hP
      have hD : va_D A (mw ad kk ks.1 V84 L) := by rw [hV84]; exact hD
      have hMV84 : rgd bM V84 := hMV71.put hV84 (show 0 ≤ z83.toInt ∧ z83.toInt ≤ 1000000 from by first | omega | ((try (have i_t68 := Imp.go t68 (by omega))); (try (have i_rt := Imp.go rt (by omega))); (try (have i_rt := Imp.go rt (by omega))); (try (have i_t68 := Imp.go t68 (by omega))); omega))
      have agV84 : agr [(0, 60), (0, 65), (0, 68), (0, 69), (0, 73), (0, 76), (0, 90), (0, 91), (0, 92), (0, 93), (0, 95), (0, 96), (0, 98)] [59, 61, 62, 63, 64, 66, 67, 74, 75, 77, 78, 79, 80, 94, 97] V V84 := agV71.up hV84 rfl
      have fm85 : FRM V V71 (-1) := (t70 : FRM V V71 (-1))
      have fm86 : FRM V V84 (-1) := (FRM.tr fm85 (FRM.ag (show agr [(0, 73)] [] V71 V84 from (agr.up agr.rf hV84 rfl)) ⟨⟨rfl, fun _ => rfl, fun _ => rfl, fun _ => rfl, fun _ => rfl, fun _ => rfl, fun _ => rfl⟩, by decide, by decide, rfl, rfl, fun _ => rfl, fun _ => rfl, fun _ => rfl, fun _ => rfl, fun _ => rfl, fun _ => rfl⟩) agV71 ⟨rfl, fun _ => rfl, fun _ => rfl, fun _ => rfl, fun _ => rfl, fun _ => rfl, fun _ => rfl⟩ (by omega))
      have ko2 := i_clamp (x := p0) rfl (by omega)
      have hst := (fm86.2.1 (Int32.toNatClampNeg p0) (by omega)).2.2.2 st1
      have rt87 : RT V84 := RT.ag t69 hMV71 (show agr [(0, 73)] [] V71 V84 from (agr.up agr.rf hV84 rfl)) ⟨⟨rfl, fun _ => rfl, fun _ => rfl, fun _ => rfl, fun _ => rfl, fun _ => rfl, fun _ => rfl⟩, by decide, by decide, rfl, rfl, fun _ => rfl, fun _ => rfl, fun _ => rfl, fun _ => rfl, fun _ => rfl, fun _ => rfl⟩ (c0k.ag (show agr [(0, 73)] [] V71 V84 from (agr.up agr.rf hV84 rfl)) rfl)
      have hs2 : (V84 63 (Int32.toNatClampNeg p0)).toInt ≤ 2 := (hMV84 63 _).2
      refine lv_aload_n hx hb dX12_closes_119 rfl (lv_at hl 2 rfl) ?_
      refine va_get (D := D) (ci := 12) (v := .ref (ad 63)) (C := RX12) (T := TX12) (N := 100) hx hb hg inX12 hown hK hP 0 rfl rfl 63 (by decide) (hg _ w1773) (fun _ h9 => h9) rfl dX12_closes_120 ?_
      refine lv_iload_n hx hb dX12_closes_123 rfl (lv_at hl 3 rfl) ?_
      refine lv_iconst (v := 2) hx hb dX12_closes_124 (by decide) ?_
      refine va_iast (D := D) (i := p0) (x := 2) hx hb hK hP hD hS 48 47 rfl rfl (i_in (a := p0.toInt) rfl (by first | omega | ((try (have i_t68 := Imp.go t68 (by omega))); (try (have i_rt := Imp.go rt (by omega))); (try (have i_rt := Imp.go rt (by omega))); (try (have i_t68 := Imp.go t68 (by omega))); omega))) dX12_closes_125 (fun H locs hP hD hS => ?_)
      obtain ⟨V88, hV88⟩ : ∃ z, z = up2 V84 63 (Int32.toNatClampNeg p0) 2 := ⟨_, rfl⟩
      have hP : va_P D vwCl (mw ad kk ks.1 V88 L) H := by rw [hV88]; exact hP
      have hD : va_D A (mw ad kk ks.1 V88 L) := by rw [hV88]; exact hD
      have hMV88 : rgd bM V88 := hMV84.put hV88 (show 0 ≤ Int32.toInt 2 ∧ Int32.toInt 2 ≤ 2 from by decide)
      have agV88 : agr [(0, 60), (0, 65), (0, 68), (0, 69), (0, 73), (0, 76), (0, 90), (0, 91), (0, 92), (0, 93), (0, 95), (0, 96), (0, 98)] [59, 61, 62, 63, 64, 66, 67, 74, 75, 77, 78, 79, 80, 94, 97] V V88 := agV84.up hV88 rfl
      refine lv_iload_n hx hb dX12_closes_126 rfl (lv_at hl 0 rfl) ?_
      refine lv_iconst (v := 2) hx hb dX12_closes_127 (by decide) ?_
      refine lv_icmp_ne (tgt := 135) hx hb dX12_closes_128 (by decide) (fun c89 => ?_) (fun c89 => ?_)
      · skip
        have f90 : z55.toInt ≠ 2 := b_neq rfl (by decide) c89
        refine lv_iconst (v := 0) hx hb dX12_closes_135 (by decide) ?_
        have pq91 : (V88 0 93).toInt = ((V71 0 93)).toInt := congrArg Int32.toInt ((up2_o hV88 (by decide)).trans (up2_k hV84 (by decide)))
        have pq92 : (V88 0 98).toInt = ((V71 0 98)).toInt := congrArg Int32.toInt ((up2_o hV88 (by decide)).trans (up2_k hV84 (by decide)))
        have pq93 : (V88 0 60).toInt = ((V71 0 60)).toInt := congrArg Int32.toInt ((up2_o hV88 (by decide)).trans (up2_k hV84 (by decide)))
        have pq94 : (V88 0 65).toInt = ((V71 0 65)).toInt := congrArg Int32.toInt ((up2_o hV88 (by decide)).trans (up2_k hV84 (by decide)))
        have pq95 : (V88 0 73).toInt = z83.toInt := congrArg Int32.toInt ((up2_o hV88 (by decide)).trans (up2_s hV84))
        have pq96 : (V88 0 95).toInt = ((V71 0 95)).toInt := congrArg Int32.toInt ((up2_o hV88 (by decide)).trans (up2_k hV84 (by decide)))
        have pq97 : (V88 0 69).toInt = ((V71 0 69)).toInt := congrArg Int32.toInt ((up2_o hV88 (by decide)).trans (up2_k hV84 (by decide)))
        have pq98 : (V88 0 76).toInt = ((V71 0 76)).toInt := congrArg Int32.toInt ((up2_o hV88 (by decide)).trans (up2_k hV84 (by decide)))
        have pq99 : (V88 63 (Int32.toNatClampNeg p0)).toInt = 2 := (congrArg Int32.toInt (up2_s hV88)).trans (by decide)
        have pq100 : (V84 0 95).toInt = ((V71 0 95)).toInt := congrArg Int32.toInt (up2_k hV84 (by decide))
        exact W.zret (v := 0) hx hb hr rfl (fun t ht hW => ⟨⟨0, (V88, L), rfl, ⟨hMV88, agV88, rfl, (by decide), (show (V88 0 93).toInt = (V 0 93).toInt from by first | omega | ((try (have i_t68 := Imp.go t68 (by omega))); (try (have i_rt := Imp.go rt (by omega))); (try (have i_rt := Imp.go rt (by omega))); (try (have i_t68 := Imp.go t68 (by omega))); omega)), (show (V88 0 98).toInt = (V 0 98).toInt from by first | omega | ((try (have i_t68 := Imp.go t68 (by omega))); (try (have i_rt := Imp.go rt (by omega))); (try (have i_rt := Imp.go rt (by omega))); (try (have i_t68 := Imp.go t68 (by omega))); omega)), (show (V 0 60).toInt ≤ (V88 0 60).toInt from by first | omega | ((try (have i_t68 := Imp.go t68 (by omega))); (try (have i_rt := Imp.go rt (by omega))); (try (have i_rt := Imp.go rt (by omega))); (try (have i_t68 := Imp.go t68 (by omega))); omega)), (show (V 0 65).toInt ≤ (V88 0 65).toInt from by first | omega | ((try (have i_t68 := Imp.go t68 (by omega))); (try (have i_rt := Imp.go rt (by omega))); (try (have i_rt := Imp.go rt (by omega))); (try (have i_t68 := Imp.go t68 (by omega))); omega)), (show (V88 0 65).toInt - (V 0 65).toInt ≤ (V88 0 60).toInt - (V 0 60).toInt from by first | omega | ((try (have i_t68 := Imp.go t68 (by omega))); (try (have i_rt := Imp.go rt (by omega))); (try (have i_rt := Imp.go rt (by omega))); (try (have i_t68 := Imp.go t68 (by omega))); omega)), (show (V88 0 73).toInt + (V88 0 95).toInt - (V88 0 65).toInt ≤ (V 0 73).toInt + (V 0 95).toInt - (V 0 65).toInt + 1 from by first | omega | ((try (have i_t68 := Imp.go t68 (by omega))); (try (have i_rt := Imp.go rt (by omega))); (try (have i_rt := Imp.go rt (by omega))); (try (have i_t68 := Imp.go t68 (by omega))); omega)), (show (V 0 73).toInt ≤ (V88 0 73).toInt from by first | omega | ((try (have i_t68 := Imp.go t68 (by omega))); (try (have i_rt := Imp.go rt (by omega))); (try (have i_rt := Imp.go rt (by omega))); (try (have i_t68 := Imp.go t68 (by omega))); omega)), (show (V 0 69).toInt ≤ (V88 0 69).toInt from by first | omega | ((try (have i_t68 := Imp.go t68 (by omega))); (try (have i_rt := Imp.go rt (by omega))); (try (have i_rt := Imp.go rt (by omega))); (try (have i_t68 := Imp.go t68 (by omega))); omega)), (show (V88 0 95).toInt = (V 0 95).toInt from by first | omega | ((try (have i_t68 := Imp.go t68 (by omega))); (try (have i_rt := Imp.go rt (by omega))); (try (have i_rt := Imp.go rt (by omega))); (try (have i_t68 := Imp.go t68 (by omega))); omega)), (show (V88 0 76).toInt - (V88 0 69).toInt - (V88 0 73).toInt ≤ (V 0 76).toInt - (V 0 69).toInt - (V 0 73).toInt from by first | omega | ((try (have i_t68 := Imp.go t68 (by omega))); (try (have i_rt := Imp.go rt (by omega))); (try (have i_rt := Imp.go rt (by omega))); (try (have i_t68 := Imp.go t68 (by omega))); omega)), (show (V88 63 (Int32.toNatClampNeg p0)).toInt = 2 from by first | omega | ((try (have i_t68 := Imp.go t68 (by omega))); (try (have i_rt := Imp.go rt (by omega))); (try (have i_rt := Imp.go rt (by omega))); (try (have i_t68 := Imp.go t68 (by omega))); omega)), (RT.state rt87 hMV84 hV88 (by decide)), (FRM.tr fm86 (FRM.state hV88 (Or.inr ⟨by omega, by show _ ≤ (2 : Int32).toInt; have h9 : (2 : Int32).toInt = 2 := (by decide); omega⟩)) agV84 ⟨rfl, fun _ => rfl, fun _ => rfl, fun _ => rfl, fun _ => rfl, fun _ => rfl, fun _ => rfl⟩ (by omega))⟩, by rw [ht]; exact hP, va_K.moved hW.alike hK, hD⟩, hS.F ht⟩) hS.2.2 dX12_closes_136
      · skip
        have f101 : z55.toInt = 2 := b_eq rfl (by decide) c89
        refine lv_iconst (v := 1) hx hb dX12_closes_131 (by decide) ?_
        refine lv_goto (tgt := 136) hx hb dX12_closes_132 (by decide) ?_
        have pq102 : (V88 0 93).toInt = ((V71 0 93)).toInt := congrArg Int32.toInt ((up2_o hV88 (by decide)).trans (up2_k hV84 (by decide)))
        have pq103 : (V88 0 98).toInt = ((V71 0 98)).toInt := congrArg Int32.toInt ((up2_o hV88 (by decide)).trans (up2_k hV84 (by decide)))
        have pq104 : (V88 0 60).toInt = ((V71 0 60)).toInt := congrArg Int32.toInt ((up2_o hV88 (by decide)).trans (up2_k hV84 (by decide)))
        have pq105 : (V88 0 65).toInt = ((V71 0 65)).toInt := congrArg Int32.toInt ((up2_o hV88 (by decide)).trans (up2_k hV84 (by decide)))
        have pq106 : (V88 0 73).toInt = z83.toInt := congrArg Int32.toInt ((up2_o hV88 (by decide)).trans (up2_s hV84))
        have pq107 : (V88 0 95).toInt = ((V71 0 95)).toInt := congrArg Int32.toInt ((up2_o hV88 (by decide)).trans (up2_k hV84 (by decide)))
        have pq108 : (V88 0 69).toInt = ((V71 0 69)).toInt := congrArg Int32.toInt ((up2_o hV88 (by decide)).trans (up2_k hV84 (by decide)))
        have pq109 : (V88 0 76).toInt = ((V71 0 76)).toInt := congrArg Int32.toInt ((up2_o hV88 (by decide)).trans (up2_k hV84 (by decide)))
        have pq110 : (V88 63 (Int32.toNatClampNeg p0)).toInt = 2 := (congrArg Int32.toInt (up2_s hV88)).trans (by decide)
        have pq111 : (V84 0 95).toInt = ((V71 0 95)).toInt := congrArg Int32.toInt (up2_k hV84 (by decide))
        exact W.zret (v := 1) hx hb hr rfl (fun t ht hW => ⟨⟨1, (V88, L), rfl, ⟨hMV88, agV88, rfl, (by decide), (show (V88 0 93).toInt = (V 0 93).toInt from by first | omega | ((try (have i_t68 := Imp.go t68 (by omega))); (try (have i_rt := Imp.go rt (by omega))); (try (have i_rt := Imp.go rt (by omega))); (try (have i_t68 := Imp.go t68 (by omega))); omega)), (show (V88 0 98).toInt = (V 0 98).toInt from by first | omega | ((try (have i_t68 := Imp.go t68 (by omega))); (try (have i_rt := Imp.go rt (by omega))); (try (have i_rt := Imp.go rt (by omega))); (try (have i_t68 := Imp.go t68 (by omega))); omega)), (show (V 0 60).toInt ≤ (V88 0 60).toInt from by first | omega | ((try (have i_t68 := Imp.go t68 (by omega))); (try (have i_rt := Imp.go rt (by omega))); (try (have i_rt := Imp.go rt (by omega))); (try (have i_t68 := Imp.go t68 (by omega))); omega)), (show (V 0 65).toInt ≤ (V88 0 65).toInt from by first | omega | ((try (have i_t68 := Imp.go t68 (by omega))); (try (have i_rt := Imp.go rt (by omega))); (try (have i_rt := Imp.go rt (by omega))); (try (have i_t68 := Imp.go t68 (by omega))); omega)), (show (V88 0 65).toInt - (V 0 65).toInt ≤ (V88 0 60).toInt - (V 0 60).toInt from by first | omega | ((try (have i_t68 := Imp.go t68 (by omega))); (try (have i_rt := Imp.go rt (by omega))); (try (have i_rt := Imp.go rt (by omega))); (try (have i_t68 := Imp.go t68 (by omega))); omega)), (show (V88 0 73).toInt + (V88 0 95).toInt - (V88 0 65).toInt ≤ (V 0 73).toInt + (V 0 95).toInt - (V 0 65).toInt + 1 from by first | omega | ((try (have i_t68 := Imp.go t68 (by omega))); (try (have i_rt := Imp.go rt (by omega))); (try (have i_rt := Imp.go rt (by omega))); (try (have i_t68 := Imp.go t68 (by omega))); omega)), (show (V 0 73).toInt ≤ (V88 0 73).toInt from by first | omega | ((try (have i_t68 := Imp.go t68 (by omega))); (try (have i_rt := Imp.go rt (by omega))); (try (have i_rt := Imp.go rt (by omega))); (try (have i_t68 := Imp.go t68 (by omega))); omega)), (show (V 0 69).toInt ≤ (V88 0 69).toInt from by first | omega | ((try (have i_t68 := Imp.go t68 (by omega))); (try (have i_rt := Imp.go rt (by omega))); (try (have i_rt := Imp.go rt (by omega))); (try (have i_t68 := Imp.go t68 (by omega))); omega)), (show (V88 0 95).toInt = (V 0 95).toInt from by first | omega | ((try (have i_t68 := Imp.go t68 (by omega))); (try (have i_rt := Imp.go rt (by omega))); (try (have i_rt := Imp.go rt (by omega))); (try (have i_t68 := Imp.go t68 (by omega))); omega)), (show (V88 0 76).toInt - (V88 0 69).toInt - (V88 0 73).toInt ≤ (V 0 76).toInt - (V 0 69).toInt - (V 0 73).toInt from by first | omega | ((try (have i_t68 := Imp.go t68 (by omega))); (try (have i_rt := Imp.go rt (by omega))); (try (have i_rt := Imp.go rt (by omega))); (try (have i_t68 := Imp.go t68 (by omega))); omega)), (show (V88 63 (Int32.toNatClampNeg p0)).toInt = 2 from by first | omega | ((try (have i_t68 := Imp.go t68 (by omega))); (try (have i_rt := Imp.go rt (by omega))); (try (have i_rt := Imp.go rt (by omega))); (try (have i_t68 := Imp.go t68 (by omega))); omega)), (RT.state rt87 hMV84 hV88 (by decide)), (FRM.tr fm86 (FRM.state hV88 (Or.inr ⟨by omega, by show _ ≤ (2 : Int32).toInt; have h9 : (2 : Int32).toInt = 2 := (by decide); omega⟩)) agV84 ⟨rfl, fun _ => rfl, fun _ => rfl, fun _ => rfl, fun _ => rfl, fun _ => rfl, fun _ => rfl⟩ (by omega))⟩, by rw [ht]; exact hP, va_K.moved hW.alike hK, hD⟩, hS.F ht⟩) hS.2.2 dX12_closes_136
    · skip
      have f112 : ((V71 0 73)).toInt < 300 := b_nle (by decide) rfl c81
      refine lv_aload_n hx hb dX12_closes_56 rfl (lv_at hl 2 rfl) ?_
      refine va_get (D := D) (ci := 12) (v := .ref (ad 74)) (C := RX12) (T := TX12) (N := 100) hx hb hg inX12 hown hK hP 0 rfl rfl 74 (by decide) (hg _ w1784) (fun _ h9 => h9) rfl dX12_closes_57 ?_
      refine lv_aload_n hx hb dX12_closes_60 rfl (lv_at hl 2 rfl) ?_
      refine va_get (D := D) (ci := 12) (v := .int (V71 0 73)) (C := RX12) (T := TX12) (N := 100) hx hb hg inX12 hown hK hP 0 rfl rfl 73 (by decide) (hg _ w1783) (fun _ h9 => h9) rfl dX12_closes_61 ?_
      refine lv_iload_n hx hb dX12_closes_64 rfl (lv_at hl 3 rfl) ?_
      refine va_iast (D := D) (i := (V71 0 73)) (x := p0) hx hb hK hP hD hS 52 51 rfl rfl (i_in (a := ((V71 0 73)).toInt) rfl (by first | omega | ((try (have i_t68 := Imp.go t68 (by omega))); (try (have i_rt := Imp.go rt (by omega))); (try (have i_rt := Imp.go rt (by omega))); (try (have i_t68 := Imp.go t68 (by omega))); omega))) dX12_closes_65 (fun H locs hP hD hS => ?_)
      obtain ⟨V113, hV113⟩ : ∃ z, z = up2 V71 74 (Int32.toNatClampNeg (V71 0 73)) p0 := ⟨_, rfl⟩
      have hP : va_P D vwCl (mw ad kk ks.1 V113 L) H := by rw [hV113]; exact hP
      have hD : va_D A (mw ad kk ks.1 V113 L) := by rw [hV113]; exact hD
      have hMV113 : rgd bM V113 := hMV71.put hV113 (i_full _)
      have agV113 : agr [(0, 60), (0, 65), (0, 68), (0, 69), (0, 73), (0, 76), (0, 90), (0, 91), (0, 92), (0, 93), (0, 95), (0, 96), (0, 98)] [59, 61, 62, 63, 64, 66, 67, 74, 75, 77, 78, 79, 80, 94, 97] V V113 := agV71.up hV113 rfl
      refine lv_aload_n hx hb dX12_closes_66 rfl (lv_at hl 2 rfl) ?_
      refine va_get (D := D) (ci := 12) (v := .ref (ad 75)) (C := RX12) (T := TX12) (N := 100) hx hb hg inX12 hown hK hP 0 rfl rfl 75 (by decide) (hg _ w1785) (fun _ h9 => h9) rfl dX12_closes_67 ?_
      refine lv_aload_n hx hb dX12_closes_70 rfl (lv_at hl 2 rfl) ?_
      refine va_get (D := D) (ci := 12) (v := .int (V113 0 73)) (C := RX12) (T := TX12) (N := 100) hx hb hg inX12 hown hK hP 0 rfl rfl 73 (by decide) (hg _ w1783) (fun _ h9 => h9) rfl dX12_closes_71 ?_
      refine g_top (v := (V71 0 73)) (up2_o hV113 (by decide)) ?_
      refine lv_iload_n hx hb dX12_closes_74 rfl (lv_at hl 0 rfl) ?_
      refine lv_if_ne (tgt := 82) hx hb dX12_closes_75 (by decide) (fun c114 => ?_) (fun c114 => ?_)
      · skip
        have f115 : z55.toInt ≠ 0 := b_neq rfl (by decide) c114
        refine lv_iload_n hx hb dX12_closes_82 rfl (lv_at hl 0 rfl) ?_
        refine lv_iconst (v := 2) hx hb dX12_closes_83 (by decide) ?_
        refine lv_icmp_ne (tgt := 92) hx hb dX12_closes_84 (by decide) (fun c116 => ?_) (fun c116 => ?_)
        · skip
          have f117 : z55.toInt ≠ 2 := b_neq rfl (by decide) c116
          refine lv_aload_n hx hb dX12_closes_92 rfl (lv_at hl 2 rfl) ?_
          refine va_get (D := D) (ci := 12) (v := .int (V113 0 90)) (C := RX12) (T := TX12) (N := 100) hx hb hg inX12 hown hK hP 0 rfl rfl 90 (by decide) (hg _ w1800) (fun _ h9 => h9) rfl dX12_closes_93 ?_
          refine g_top (v := (V71 0 90)) (up2_o hV113 (by decide)) ?_
          refine lv_if_le (tgt := 104) hx hb dX12_closes_96 (by decide) (fun c118 => ?_) (fun c118 => ?_)
          · skip
            have f119 : ((V71 0 90)).toInt ≤ 0 := b_le rfl (by decide) c118
            refine lv_aload_n hx hb dX12_closes_104 rfl (lv_at hl 2 rfl) ?_
            refine va_get (D := D) (ci := 12) (v := .int (V113 0 91)) (C := RX12) (T := TX12) (N := 100) hx hb hg inX12 hown hK hP 0 rfl rfl 91 (by decide) (hg _ w1801) (fun _ h9 => h9) rfl dX12_closes_105 ?_
            refine g_top (v := (V71 0 91)) (up2_o hV113 (by decide)) ?_
            refine va_iast (D := D) (i := (V71 0 73)) (x := (V71 0 91)) hx hb hK hP hD hS 53 52 rfl rfl (i_in (a := ((V71 0 73)).toInt) rfl (by first | omega | ((try (have i_t68 := Imp.go t68 (by omega))); (try (have i_rt := Imp.go rt (by omega))); (try (have i_rt := Imp.go rt (by omega))); (try (have i_t68 := Imp.go t68 (by omega))); omega))) dX12_closes_108 (fun H locs hP hD hS => ?_)
            obtain ⟨V120, hV120⟩ : ∃ z, z = up2 V113 75 (Int32.toNatClampNeg (V71 0 73)) (V71 0 91) := ⟨_, rfl⟩
            have hP : va_P D vwCl (mw ad kk ks.1 V120 L) H := by rw [hV120]; exact hP
            have hD : va_D A (mw ad kk ks.1 V120 L) := by rw [hV120]; exact hD
            have hMV120 : rgd bM V120 := hMV113.put hV120 (i_full _)
            have agV120 : agr [(0, 60), (0, 65), (0, 68), (0, 69), (0, 73), (0, 76), (0, 90), (0, 91), (0, 92), (0, 93), (0, 95), (0, 96), (0, 98)] [59, 61, 62, 63, 64, 66, 67, 74, 75, 77, 78, 79, 80, 94, 97] V V120 := agV113.up hV120 rfl
            refine lv_aload_n hx hb dX12_closes_109 rfl (lv_at hl 2 rfl) ?_
            refine lv_dup hx hb dX12_closes_110 rfl ?_
            refine va_get (D := D) (ci := 12) (v := .int (V120 0 73)) (C := RX12) (T := TX12) (N := 100) hx hb hg inX12 hown hK hP 0 rfl rfl 73 (by decide) (hg _ w1783) (fun _ h9 => h9) rfl dX12_closes_111 ?_
            refine g_top (v := (V71 0 73)) ((up2_o hV120 (by decide)).trans (up2_o hV113 (by decide))) ?_
            refine lv_iconst (v := 1) hx hb dX12_closes_114 (by decide) ?_
            refine lv_iadd hx hb dX12_closes_115 ?_
            refine lv_topi (fun z121 ez121 => ?_)
            have hz121 : z121.toInt = ((V71 0 73)).toInt + 1 := i_add ez121 rfl (by decide) (by omega)
            refine va_put (D := D) (ci := 12) (v := .int z121) (ty := tyX12 73) (C := RX12) (T := TX12) (N := 100) hx hb hg inX12 tyX12 tyX12_ok nmX12 hown hK hP hD hS 0 rfl rfl 73 (by decide) (hg _ w1783) (fun _ h9 => h9) rfl (tyX12_ok 73 (by decide)) rfl rfl (Nat.le_of_ble_eq_true rfl) dX12_closes_116 (fun H locs hP hD hS => ?_)
            obtain ⟨V122, hV122⟩ : ∃ z, z = up2 V120 0 73 z121 := ⟨_, rfl⟩
            have hP : va_P D vwCl (mw ad kk ks.1 V122 L) H := by rw [hV122]; exact hP
            have hD : va_D A (mw ad kk ks.1 V122 L) := by rw [hV122]; exact hD
            have hMV122 : rgd bM V122 := hMV120.put hV122 (show 0 ≤ z121.toInt ∧ z121.toInt ≤ 1000000 from by first | omega | ((try (have i_t68 := Imp.go t68 (by omega))); (try (have i_rt := Imp.go rt (by omega))); (try (have i_rt := Imp.go rt (by omega))); (try (have i_t68 := Imp.go t68 (by omega))); omega))
            have agV122 : agr [(0, 60), (0, 65), (0, 68), (0, 69), (0, 73), (0, 76), (0, 90), (0, 91), (0, 92), (0, 93), (0, 95), (0, 96), (0, 98)] [59, 61, 62, 63, 64, 66, 67, 74, 75, 77, 78, 79, 80, 94, 97] V V122 := agV120.up hV122 rfl
            have fm123 : FRM V V71 (-1) := (t70 : FRM V V71 (-1))
            have fm124 : FRM V V122 (-1) := (FRM.tr fm123 (FRM.ag (show agr [(0, 73)] [74, 75] V71 V122 from (agr.up (agr.up (agr.up agr.rf hV113 rfl) hV120 rfl) hV122 rfl)) ⟨⟨rfl, fun _ => rfl, fun _ => rfl, fun _ => rfl, fun _ => rfl, fun _ => rfl, fun _ => rfl⟩, by decide, by decide, rfl, rfl, fun _ => rfl, fun _ => rfl, fun _ => rfl, fun _ => rfl, fun _ => rfl, fun _ => rfl⟩) agV71 ⟨rfl, fun _ => rfl, fun _ => rfl, fun _ => rfl, fun _ => rfl, fun _ => rfl, fun _ => rfl⟩ (by omega))
            have ko2 := i_clamp (x := p0) rfl (by omega)
            have hst := (fm124.2.1 (Int32.toNatClampNeg p0) (by omega)).2.2.2 st1
            have rt125 : RT V122 := RT.ag t69 hMV71 (show agr [(0, 73)] [74, 75] V71 V122 from (agr.up (agr.up (agr.up agr.rf hV113 rfl) hV120 rfl) hV122 rfl)) ⟨⟨rfl, fun _ => rfl, fun _ => rfl, fun _ => rfl, fun _ => rfl, fun _ => rfl, fun _ => rfl⟩, by decide, by decide, rfl, rfl, fun _ => rfl, fun _ => rfl, fun _ => rfl, fun _ => rfl, fun _ => rfl, fun _ => rfl⟩ (c0k.ag (show agr [(0, 73)] [74, 75] V71 V122 from (agr.up (agr.up (agr.up agr.rf hV113 rfl) hV120 rfl) hV122 rfl)) rfl)
            have hs2 : (V122 63 (Int32.toNatClampNeg p0)).toInt ≤ 2 := (hMV122 63 _).2
            refine lv_aload_n hx hb dX12_closes_119 rfl (lv_at hl 2 rfl) ?_
            refine va_get (D := D) (ci := 12) (v := .ref (ad 63)) (C := RX12) (T := TX12) (N := 100) hx hb hg inX12 hown hK hP 0 rfl rfl 63 (by decide) (hg _ w1773) (fun _ h9 => h9) rfl dX12_closes_120 ?_
            refine lv_iload_n hx hb dX12_closes_123 rfl (lv_at hl 3 rfl) ?_
            refine lv_iconst (v := 2) hx hb dX12_closes_124 (by decide) ?_
            refine va_iast (D := D) (i := p0) (x := 2) hx hb hK hP hD hS 48 47 rfl rfl (i_in (a := p0.toInt) rfl (by first | omega | ((try (have i_t68 := Imp.go t68 (by omega))); (try (have i_rt := Imp.go rt (by omega))); (try (have i_rt := Imp.go rt (by omega))); (try (have i_t68 := Imp.go t68 (by omega))); omega))) dX12_closes_125 (fun H locs hP hD hS => ?_)
            obtain ⟨V126, hV126⟩ : ∃ z, z = up2 V122 63 (Int32.toNatClampNeg p0) 2 := ⟨_, rfl⟩
            have hP : va_P D vwCl (mw ad kk ks.1 V126 L) H := by rw [hV126]; exact hP
            have hD : va_D A (mw ad kk ks.1 V126 L) := by rw [hV126]; exact hD
            have hMV126 : rgd bM V126 := hMV122.put hV126 (show 0 ≤ Int32.toInt 2 ∧ Int32.toInt 2 ≤ 2 from by decide)
            have agV126 : agr [(0, 60), (0, 65), (0, 68), (0, 69), (0, 73), (0, 76), (0, 90), (0, 91), (0, 92), (0, 93), (0, 95), (0, 96), (0, 98)] [59, 61, 62, 63, 64, 66, 67, 74, 75, 77, 78, 79, 80, 94, 97] V V126 := agV122.up hV126 rfl
            refine lv_iload_n hx hb dX12_closes_126 rfl (lv_at hl 0 rfl) ?_
            refine lv_iconst (v := 2) hx hb dX12_closes_127 (by decide) ?_
            refine lv_icmp_ne (tgt := 135) hx hb dX12_closes_128 (by decide) (fun c127 => ?_) (fun c127 => ?_)
            · skip
              have f128 : z55.toInt ≠ 2 := b_neq rfl (by decide) c127
              refine lv_iconst (v := 0) hx hb dX12_closes_135 (by decide) ?_
              have pq129 : (V126 0 93).toInt = ((V71 0 93)).toInt := congrArg Int32.toInt ((up2_o hV126 (by decide)).trans ((up2_k hV122 (by decide)).trans ((up2_o hV120 (by decide)).trans (up2_o hV113 (by decide)))))
              have pq130 : (V126 0 98).toInt = ((V71 0 98)).toInt := congrArg Int32.toInt ((up2_o hV126 (by decide)).trans ((up2_k hV122 (by decide)).trans ((up2_o hV120 (by decide)).trans (up2_o hV113 (by decide)))))
              have pq131 : (V126 0 60).toInt = ((V71 0 60)).toInt := congrArg Int32.toInt ((up2_o hV126 (by decide)).trans ((up2_k hV122 (by decide)).trans ((up2_o hV120 (by decide)).trans (up2_o hV113 (by decide)))))
              have pq132 : (V126 0 65).toInt = ((V71 0 65)).toInt := congrArg Int32.toInt ((up2_o hV126 (by decide)).trans ((up2_k hV122 (by decide)).trans ((up2_o hV120 (by decide)).trans (up2_o hV113 (by decide)))))
              have pq133 : (V126 0 73).toInt = z121.toInt := congrArg Int32.toInt ((up2_o hV126 (by decide)).trans (up2_s hV122))
              have pq134 : (V126 0 95).toInt = ((V71 0 95)).toInt := congrArg Int32.toInt ((up2_o hV126 (by decide)).trans ((up2_k hV122 (by decide)).trans ((up2_o hV120 (by decide)).trans (up2_o hV113 (by decide)))))
              have pq135 : (V126 0 69).toInt = ((V71 0 69)).toInt := congrArg Int32.toInt ((up2_o hV126 (by decide)).trans ((up2_k hV122 (by decide)).trans ((up2_o hV120 (by decide)).trans (up2_o hV113 (by decide)))))
              have pq136 : (V126 0 76).toInt = ((V71 0 76)).toInt := congrArg Int32.toInt ((up2_o hV126 (by decide)).trans ((up2_k hV122 (by decide)).trans ((up2_o hV120 (by decide)).trans (up2_o hV113 (by decide)))))
              have pq137 : (V126 63 (Int32.toNatClampNeg p0)).toInt = 2 := (congrArg Int32.toInt (up2_s hV126)).trans (by decide)
              have pq138 : (V122 0 95).toInt = ((V71 0 95)).toInt := congrArg Int32.toInt ((up2_k hV122 (by decide)).trans ((up2_o hV120 (by decide)).trans (up2_o hV113 (by decide))))
              exact W.zret (v := 0) hx hb hr rfl (fun t ht hW => ⟨⟨0, (V126, L), rfl, ⟨hMV126, agV126, rfl, (by decide), (show (V126 0 93).toInt = (V 0 93).toInt from by first | omega | ((try (have i_t68 := Imp.go t68 (by omega))); (try (have i_rt := Imp.go rt (by omega))); (try (have i_rt := Imp.go rt (by omega))); (try (have i_t68 := Imp.go t68 (by omega))); omega)), (show (V126 0 98).toInt = (V 0 98).toInt from by first | omega | ((try (have i_t68 := Imp.go t68 (by omega))); (try (have i_rt := Imp.go rt (by omega))); (try (have i_rt := Imp.go rt (by omega))); (try (have i_t68 := Imp.go t68 (by omega))); omega)), (show (V 0 60).toInt ≤ (V126 0 60).toInt from by first | omega | ((try (have i_t68 := Imp.go t68 (by omega))); (try (have i_rt := Imp.go rt (by omega))); (try (have i_rt := Imp.go rt (by omega))); (try (have i_t68 := Imp.go t68 (by omega))); omega)), (show (V 0 65).toInt ≤ (V126 0 65).toInt from by first | omega | ((try (have i_t68 := Imp.go t68 (by omega))); (try (have i_rt := Imp.go rt (by omega))); (try (have i_rt := Imp.go rt (by omega))); (try (have i_t68 := Imp.go t68 (by omega))); omega)), (show (V126 0 65).toInt - (V 0 65).toInt ≤ (V126 0 60).toInt - (V 0 60).toInt from by first | omega | ((try (have i_t68 := Imp.go t68 (by omega))); (try (have i_rt := Imp.go rt (by omega))); (try (have i_rt := Imp.go rt (by omega))); (try (have i_t68 := Imp.go t68 (by omega))); omega)), (show (V126 0 73).toInt + (V126 0 95).toInt - (V126 0 65).toInt ≤ (V 0 73).toInt + (V 0 95).toInt - (V 0 65).toInt + 1 from by first | omega | ((try (have i_t68 := Imp.go t68 (by omega))); (try (have i_rt := Imp.go rt (by omega))); (try (have i_rt := Imp.go rt (by omega))); (try (have i_t68 := Imp.go t68 (by omega))); omega)), (show (V 0 73).toInt ≤ (V126 0 73).toInt from by first | omega | ((try (have i_t68 := Imp.go t68 (by omega))); (try (have i_rt := Imp.go rt (by omega))); (try (have i_rt := Imp.go rt (by omega))); (try (have i_t68 := Imp.go t68 (by omega))); omega)), (show (V 0 69).toInt ≤ (V126 0 69).toInt from by first | omega | ((try (have i_t68 := Imp.go t68 (by omega))); (try (have i_rt := Imp.go rt (by omega))); (try (have i_rt := Imp.go rt (by omega))); (try (have i_t68 := Imp.go t68 (by omega))); omega)), (show (V126 0 95).toInt = (V 0 95).toInt from by first | omega | ((try (have i_t68 := Imp.go t68 (by omega))); (try (have i_rt := Imp.go rt (by omega))); (try (have i_rt := Imp.go rt (by omega))); (try (have i_t68 := Imp.go t68 (by omega))); omega)), (show (V126 0 76).toInt - (V126 0 69).toInt - (V126 0 73).toInt ≤ (V 0 76).toInt - (V 0 69).toInt - (V 0 73).toInt from by first | omega | ((try (have i_t68 := Imp.go t68 (by omega))); (try (have i_rt := Imp.go rt (by omega))); (try (have i_rt := Imp.go rt (by omega))); (try (have i_t68 := Imp.go t68 (by omega))); omega)), (show (V126 63 (Int32.toNatClampNeg p0)).toInt = 2 from by first | omega | ((try (have i_t68 := Imp.go t68 (by omega))); (try (have i_rt := Imp.go rt (by omega))); (try (have i_rt := Imp.go rt (by omega))); (try (have i_t68 := Imp.go t68 (by omega))); omega)), (RT.state rt125 hMV122 hV126 (by decide)), (FRM.tr fm124 (FRM.state hV126 (Or.inr ⟨by omega, by show _ ≤ (2 : Int32).toInt; have h9 : (2 : Int32).toInt = 2 := (by decide); omega⟩)) agV122 ⟨rfl, fun _ => rfl, fun _ => rfl, fun _ => rfl, fun _ => rfl, fun _ => rfl, fun _ => rfl⟩ (by omega))⟩, by rw [ht]; exact hP, va_K.moved hW.alike hK, hD⟩, hS.F ht⟩) hS.2.2 dX12_closes_136
            · skip
              have f139 : z55.toInt = 2 := b_eq rfl (by decide) c127
              exfalso; first | omega | ((try (have i_t68 := Imp.go t68 (by omega))); (try (have i_rt := Imp.go rt (by omega))); (try (have i_rt := Imp.go rt (by omega))); (try (have i_t68 := Imp.go t68 (by omega))); omega)
          · skip
            have f140 : 0 < ((V71 0 90)).toInt := b_nle rfl (by decide) c118
            refine lv_bipush (v := 20) hx hb dX12_closes_99 (by decide) ?_
            refine lv_goto (tgt := 108) hx hb dX12_closes_101 (by decide) ?_
            refine va_iast (D := D) (i := (V71 0 73)) (x := 20) hx hb hK hP hD hS 53 52 rfl rfl (i_in (a := ((V71 0 73)).toInt) rfl (by first | omega | ((try (have i_t68 := Imp.go t68 (by omega))); (try (have i_rt := Imp.go rt (by omega))); (try (have i_rt := Imp.go rt (by omega))); (try (have i_t68 := Imp.go t68 (by omega))); omega))) dX12_closes_108 (fun H locs hP hD hS => ?_)
            obtain ⟨V141, hV141⟩ : ∃ z, z = up2 V113 75 (Int32.toNatClampNeg (V71 0 73)) 20 := ⟨_, rfl⟩
            have hP : va_P D vwCl (mw ad kk ks.1 V141 L) H := by rw [hV141]; exact hP
            have hD : va_D A (mw ad kk ks.1 V141 L) := by rw [hV141]; exact hD
            have hMV141 : rgd bM V141 := hMV113.put hV141 (i_full _)
            have agV141 : agr [(0, 60), (0, 65), (0, 68), (0, 69), (0, 73), (0, 76), (0, 90), (0, 91), (0, 92), (0, 93), (0, 95), (0, 96), (0, 98)] [59, 61, 62, 63, 64, 66, 67, 74, 75, 77, 78, 79, 80, 94, 97] V V141 := agV113.up hV141 rfl
            refine lv_aload_n hx hb dX12_closes_109 rfl (lv_at hl 2 rfl) ?_
            refine lv_dup hx hb dX12_closes_110 rfl ?_
            refine va_get (D := D) (ci := 12) (v := .int (V141 0 73)) (C := RX12) (T := TX12) (N := 100) hx hb hg inX12 hown hK hP 0 rfl rfl 73 (by decide) (hg _ w1783) (fun _ h9 => h9) rfl dX12_closes_111 ?_
            refine g_top (v := (V71 0 73)) ((up2_o hV141 (by decide)).trans (up2_o hV113 (by decide))) ?_
            refine lv_iconst (v := 1) hx hb dX12_closes_114 (by decide) ?_
            refine lv_iadd hx hb dX12_closes_115 ?_
            refine lv_topi (fun z142 ez142 => ?_)
            have hz142 : z142.toInt = ((V71 0 73)).toInt + 1 := i_add ez142 rfl (by decide) (by omega)
            refine va_put (D := D) (ci := 12) (v := .int z142) (ty := tyX12 73) (C := RX12) (T := TX12) (N := 100) hx hb hg inX12 tyX12 tyX12_ok nmX12 hown hK hP hD hS 0 rfl rfl 73 (by decide) (hg _ w1783) (fun _ h9 => h9) rfl (tyX12_ok 73 (by decide)) rfl rfl (Nat.le_of_ble_eq_true rfl) dX12_closes_116 (fun H locs hP hD hS => ?_)
            obtain ⟨V143, hV143⟩ : ∃ z, z = up2 V141 0 73 z142 := ⟨_, rfl⟩
            have hP : va_P D vwCl (mw ad kk ks.1 V143 L) H := by rw [hV143]; exact hP
            have hD : va_D A (mw ad kk ks.1 V143 L) := by rw [hV143]; exact hD
            have hMV143 : rgd bM V143 := hMV141.put hV143 (show 0 ≤ z142.toInt ∧ z142.toInt ≤ 1000000 from by first | omega | ((try (have i_t68 := Imp.go t68 (by omega))); (try (have i_rt := Imp.go rt (by omega))); (try (have i_rt := Imp.go rt (by omega))); (try (have i_t68 := Imp.go t68 (by omega))); omega))
            have agV143 : agr [(0, 60), (0, 65), (0, 68), (0, 69), (0, 73), (0, 76), (0, 90), (0, 91), (0, 92), (0, 93), (0, 95), (0, 96), (0, 98)] [59, 61, 62, 63, 64, 66, 67, 74, 75, 77, 78, 79, 80, 94, 97] V V143 := agV141.up hV143 rfl
            have fm144 : FRM V V71 (-1) := (t70 : FRM V V71 (-1))
            have fm145 : FRM V V143 (-1) := (FRM.tr fm144 (FRM.ag (show agr [(0, 73)] [74, 75] V71 V143 from (agr.up (agr.up (agr.up agr.rf hV113 rfl) hV141 rfl) hV143 rfl)) ⟨⟨rfl, fun _ => rfl, fun _ => rfl, fun _ => rfl, fun _ => rfl, fun _ => rfl, fun _ => rfl⟩, by decide, by decide, rfl, rfl, fun _ => rfl, fun _ => rfl, fun _ => rfl, fun _ => rfl, fun _ => rfl, fun _ => rfl⟩) agV71 ⟨rfl, fun _ => rfl, fun _ => rfl, fun _ => rfl, fun _ => rfl, fun _ => rfl, fun _ => rfl⟩ (by omega))
            have ko2 := i_clamp (x := p0) rfl (by omega)
            have hst := (fm145.2.1 (Int32.toNatClampNeg p0) (by omega)).2.2.2 st1
            have rt146 : RT V143 := RT.ag t69 hMV71 (show agr [(0, 73)] [74, 75] V71 V143 from (agr.up (agr.up (agr.up agr.rf hV113 rfl) hV141 rfl) hV143 rfl)) ⟨⟨rfl, fun _ => rfl, fun _ => rfl, fun _ => rfl, fun _ => rfl, fun _ => rfl, fun _ => rfl⟩, by decide, by decide, rfl, rfl, fun _ => rfl, fun _ => rfl, fun _ => rfl, fun _ => rfl, fun _ => rfl, fun _ => rfl⟩ (c0k.ag (show agr [(0, 73)] [74, 75] V71 V143 from (agr.up (agr.up (agr.up agr.rf hV113 rfl) hV141 rfl) hV143 rfl)) rfl)
            have hs2 : (V143 63 (Int32.toNatClampNeg p0)).toInt ≤ 2 := (hMV143 63 _).2
            refine lv_aload_n hx hb dX12_closes_119 rfl (lv_at hl 2 rfl) ?_
            refine va_get (D := D) (ci := 12) (v := .ref (ad 63)) (C := RX12) (T := TX12) (N := 100) hx hb hg inX12 hown hK hP 0 rfl rfl 63 (by decide) (hg _ w1773) (fun _ h9 => h9) rfl dX12_closes_120 ?_
            refine lv_iload_n hx hb dX12_closes_123 rfl (lv_at hl 3 rfl) ?_
            refine lv_iconst (v := 2) hx hb dX12_closes_124 (by decide) ?_
            refine va_iast (D := D) (i := p0) (x := 2) hx hb hK hP hD hS 48 47 rfl rfl (i_in (a := p0.toInt) rfl (by first | omega | ((try (have i_t68 := Imp.go t68 (by omega))); (try (have i_rt := Imp.go rt (by omega))); (try (have i_rt := Imp.go rt (by omega))); (try (have i_t68 := Imp.go t68 (by omega))); omega))) dX12_closes_125 (fun H locs hP hD hS => ?_)
            obtain ⟨V147, hV147⟩ : ∃ z, z = up2 V143 63 (Int32.toNatClampNeg p0) 2 := ⟨_, rfl⟩
            have hP : va_P D vwCl (mw ad kk ks.1 V147 L) H := by rw [hV147]; exact hP
            have hD : va_D A (mw ad kk ks.1 V147 L) := by rw [hV147]; exact hD
            have hMV147 : rgd bM V147 := hMV143.put hV147 (show 0 ≤ Int32.toInt 2 ∧ Int32.toInt 2 ≤ 2 from by decide)
            have agV147 : agr [(0, 60), (0, 65), (0, 68), (0, 69), (0, 73), (0, 76), (0, 90), (0, 91), (0, 92), (0, 93), (0, 95), (0, 96), (0, 98)] [59, 61, 62, 63, 64, 66, 67, 74, 75, 77, 78, 79, 80, 94, 97] V V147 := agV143.up hV147 rfl
            refine lv_iload_n hx hb dX12_closes_126 rfl (lv_at hl 0 rfl) ?_
            refine lv_iconst (v := 2) hx hb dX12_closes_127 (by decide) ?_
            refine lv_icmp_ne (tgt := 135) hx hb dX12_closes_128 (by decide) (fun c148 => ?_) (fun c148 => ?_)
            · skip
              have f149 : z55.toInt ≠ 2 := b_neq rfl (by decide) c148
              refine lv_iconst (v := 0) hx hb dX12_closes_135 (by decide) ?_
              have pq150 : (V147 0 93).toInt = ((V71 0 93)).toInt := congrArg Int32.toInt ((up2_o hV147 (by decide)).trans ((up2_k hV143 (by decide)).trans ((up2_o hV141 (by decide)).trans (up2_o hV113 (by decide)))))
              have pq151 : (V147 0 98).toInt = ((V71 0 98)).toInt := congrArg Int32.toInt ((up2_o hV147 (by decide)).trans ((up2_k hV143 (by decide)).trans ((up2_o hV141 (by decide)).trans (up2_o hV113 (by decide)))))
              have pq152 : (V147 0 60).toInt = ((V71 0 60)).toInt := congrArg Int32.toInt ((up2_o hV147 (by decide)).trans ((up2_k hV143 (by decide)).trans ((up2_o hV141 (by decide)).trans (up2_o hV113 (by decide)))))
              have pq153 : (V147 0 65).toInt = ((V71 0 65)).toInt := congrArg Int32.toInt ((up2_o hV147 (by decide)).trans ((up2_k hV143 (by decide)).trans ((up2_o hV141 (by decide)).trans (up2_o hV113 (by decide)))))
              have pq154 : (V147 0 73).toInt = z142.toInt := congrArg Int32.toInt ((up2_o hV147 (by decide)).trans (up2_s hV143))
              have pq155 : (V147 0 95).toInt = ((V71 0 95)).toInt := congrArg Int32.toInt ((up2_o hV147 (by decide)).trans ((up2_k hV143 (by decide)).trans ((up2_o hV141 (by decide)).trans (up2_o hV113 (by decide)))))
              have pq156 : (V147 0 69).toInt = ((V71 0 69)).toInt := congrArg Int32.toInt ((up2_o hV147 (by decide)).trans ((up2_k hV143 (by decide)).trans ((up2_o hV141 (by decide)).trans (up2_o hV113 (by decide)))))
              have pq157 : (V147 0 76).toInt = ((V71 0 76)).toInt := congrArg Int32.toInt ((up2_o hV147 (by decide)).trans ((up2_k hV143 (by decide)).trans ((up2_o hV141 (by decide)).trans (up2_o hV113 (by decide)))))
              have pq158 : (V147 63 (Int32.toNatClampNeg p0)).toInt = 2 := (congrArg Int32.toInt (up2_s hV147)).trans (by decide)
              have pq159 : (V143 0 95).toInt = ((V71 0 95)).toInt := congrArg Int32.toInt ((up2_k hV143 (by decide)).trans ((up2_o hV141 (by decide)).trans (up2_o hV113 (by decide))))
              exact W.zret (v := 0) hx hb hr rfl (fun t ht hW => ⟨⟨0, (V147, L), rfl, ⟨hMV147, agV147, rfl, (by decide), (show (V147 0 93).toInt = (V 0 93).toInt from by first | omega | ((try (have i_t68 := Imp.go t68 (by omega))); (try (have i_rt := Imp.go rt (by omega))); (try (have i_rt := Imp.go rt (by omega))); (try (have i_t68 := Imp.go t68 (by omega))); omega)), (show (V147 0 98).toInt = (V 0 98).toInt from by first | omega | ((try (have i_t68 := Imp.go t68 (by omega))); (try (have i_rt := Imp.go rt (by omega))); (try (have i_rt := Imp.go rt (by omega))); (try (have i_t68 := Imp.go t68 (by omega))); omega)), (show (V 0 60).toInt ≤ (V147 0 60).toInt from by first | omega | ((try (have i_t68 := Imp.go t68 (by omega))); (try (have i_rt := Imp.go rt (by omega))); (try (have i_rt := Imp.go rt (by omega))); (try (have i_t68 := Imp.go t68 (by omega))); omega)), (show (V 0 65).toInt ≤ (V147 0 65).toInt from by first | omega | ((try (have i_t68 := Imp.go t68 (by omega))); (try (have i_rt := Imp.go rt (by omega))); (try (have i_rt := Imp.go rt (by omega))); (try (have i_t68 := Imp.go t68 (by omega))); omega)), (show (V147 0 65).toInt - (V 0 65).toInt ≤ (V147 0 60).toInt - (V 0 60).toInt from by first | omega | ((try (have i_t68 := Imp.go t68 (by omega))); (try (have i_rt := Imp.go rt (by omega))); (try (have i_rt := Imp.go rt (by omega))); (try (have i_t68 := Imp.go t68 (by omega))); omega)), (show (V147 0 73).toInt + (V147 0 95).toInt - (V147 0 65).toInt ≤ (V 0 73).toInt + (V 0 95).toInt - (V 0 65).toInt + 1 from by first | omega | ((try (have i_t68 := Imp.go t68 (by omega))); (try (have i_rt := Imp.go rt (by omega))); (try (have i_rt := Imp.go rt (by omega))); (try (have i_t68 := Imp.go t68 (by omega))); omega)), (show (V 0 73).toInt ≤ (V147 0 73).toInt from by first | omega | ((try (have i_t68 := Imp.go t68 (by omega))); (try (have i_rt := Imp.go rt (by omega))); (try (have i_rt := Imp.go rt (by omega))); (try (have i_t68 := Imp.go t68 (by omega))); omega)), (show (V 0 69).toInt ≤ (V147 0 69).toInt from by first | omega | ((try (have i_t68 := Imp.go t68 (by omega))); (try (have i_rt := Imp.go rt (by omega))); (try (have i_rt := Imp.go rt (by omega))); (try (have i_t68 := Imp.go t68 (by omega))); omega)), (show (V147 0 95).toInt = (V 0 95).toInt from by first | omega | ((try (have i_t68 := Imp.go t68 (by omega))); (try (have i_rt := Imp.go rt (by omega))); (try (have i_rt := Imp.go rt (by omega))); (try (have i_t68 := Imp.go t68 (by omega))); omega)), (show (V147 0 76).toInt - (V147 0 69).toInt - (V147 0 73).toInt ≤ (V 0 76).toInt - (V 0 69).toInt - (V 0 73).toInt from by first | omega | ((try (have i_t68 := Imp.go t68 (by omega))); (try (have i_rt := Imp.go rt (by omega))); (try (have i_rt := Imp.go rt (by omega))); (try (have i_t68 := Imp.go t68 (by omega))); omega)), (show (V147 63 (Int32.toNatClampNeg p0)).toInt = 2 from by first | omega | ((try (have i_t68 := Imp.go t68 (by omega))); (try (have i_rt := Imp.go rt (by omega))); (try (have i_rt := Imp.go rt (by omega))); (try (have i_t68 := Imp.go t68 (by omega))); omega)), (RT.state rt146 hMV143 hV147 (by decide)), (FRM.tr fm145 (FRM.state hV147 (Or.inr ⟨by omega, by show _ ≤ (2 : Int32).toInt; have h9 : (2 : Int32).toInt = 2 := (by decide); omega⟩)) agV143 ⟨rfl, fun _ => rfl, fun _ => rfl, fun _ => rfl, fun _ => rfl, fun _ => rfl, fun _ => rfl⟩ (by omega))⟩, by rw [ht]; exact hP, va_K.moved hW.alike hK, hD⟩, hS.F ht⟩) hS.2.2 dX12_closes_136
            · skip
              have f160 : z55.toInt = 2 := b_eq rfl (by decide) c148
              exfalso; first | omega | ((try (have i_t68 := Imp.go t68 (by omega))); (try (have i_rt := Imp.go rt (by omega))); (try (have i_rt := Imp.go rt (by omega))); (try (have i_t68 := Imp.go t68 (by omega))); omega)
        · skip
          have f161 : z55.toInt = 2 := b_eq rfl (by decide) c116
          refine lv_bipush (v := 18) hx hb dX12_closes_87 (by decide) ?_
          refine lv_goto (tgt := 108) hx hb dX12_closes_89 (by decide) ?_
          refine va_iast (D := D) (i := (V71 0 73)) (x := 18) hx hb hK hP hD hS 53 52 rfl rfl (i_in (a := ((V71 0 73)).toInt) rfl (by first | omega | ((try (have i_t68 := Imp.go t68 (by omega))); (try (have i_rt := Imp.go rt (by omega))); (try (have i_rt := Imp.go rt (by omega))); (try (have i_t68 := Imp.go t68 (by omega))); omega))) dX12_closes_108 (fun H locs hP hD hS => ?_)
          obtain ⟨V162, hV162⟩ : ∃ z, z = up2 V113 75 (Int32.toNatClampNeg (V71 0 73)) 18 := ⟨_, rfl⟩
          have hP : va_P D vwCl (mw ad kk ks.1 V162 L) H := by rw [hV162]; exact hP
          have hD : va_D A (mw ad kk ks.1 V162 L) := by rw [hV162]; exact hD
          have hMV162 : rgd bM V162 := hMV113.put hV162 (i_full _)
          have agV162 : agr [(0, 60), (0, 65), (0, 68), (0, 69), (0, 73), (0, 76), (0, 90), (0, 91), (0, 92), (0, 93), (0, 95), (0, 96), (0, 98)] [59, 61, 62, 63, 64, 66, 67, 74, 75, 77, 78, 79, 80, 94, 97] V V162 := agV113.up hV162 rfl
          refine lv_aload_n hx hb dX12_closes_109 rfl (lv_at hl 2 rfl) ?_
          refine lv_dup hx hb dX12_closes_110 rfl ?_
          refine va_get (D := D) (ci := 12) (v := .int (V162 0 73)) (C := RX12) (T := TX12) (N := 100) hx hb hg inX12 hown hK hP 0 rfl rfl 73 (by decide) (hg _ w1783) (fun _ h9 => h9) rfl dX12_closes_111 ?_
          refine g_top (v := (V71 0 73)) ((up2_o hV162 (by decide)).trans (up2_o hV113 (by decide))) ?_
          refine lv_iconst (v := 1) hx hb dX12_closes_114 (by decide) ?_
          refine lv_iadd hx hb dX12_closes_115 ?_
          refine lv_topi (fun z163 ez163 => ?_)
          have hz163 : z163.toInt = ((V71 0 73)).toInt + 1 := i_add ez163 rfl (by decide) (by omega)
          refine va_put (D := D) (ci := 12) (v := .int z163) (ty := tyX12 73) (C := RX12) (T := TX12) (N := 100) hx hb hg inX12 tyX12 tyX12_ok nmX12 hown hK hP hD hS 0 rfl rfl 73 (by decide) (hg _ w1783) (fun _ h9 => h9) rfl (tyX12_ok 73 (by decide)) rfl rfl (Nat.le_of_ble_eq_true rfl) dX12_closes_116 (fun H locs hP hD hS => ?_)
          obtain ⟨V164, hV164⟩ : ∃ z, z = up2 V162 0 73 z163 := ⟨_, rfl⟩
          have hP : va_P D vwCl (mw ad kk ks.1 V164 L) H := by rw [hV164]; exact hP
          have hD : va_D A (mw ad kk ks.1 V164 L) := by rw [hV164]; exact hD
          have hMV164 : rgd bM V164 := hMV162.put hV164 (show 0 ≤ z163.toInt ∧ z163.toInt ≤ 1000000 from by first | omega | ((try (have i_t68 := Imp.go t68 (by omega))); (try (have i_rt := Imp.go rt (by omega))); (try (have i_rt := Imp.go rt (by omega))); (try (have i_t68 := Imp.go t68 (by omega))); omega))
          have agV164 : agr [(0, 60), (0, 65), (0, 68), (0, 69), (0, 73), (0, 76), (0, 90), (0, 91), (0, 92), (0, 93), (0, 95), (0, 96), (0, 98)] [59, 61, 62, 63, 64, 66, 67, 74, 75, 77, 78, 79, 80, 94, 97] V V164 := agV162.up hV164 rfl
          have fm165 : FRM V V71 (-1) := (t70 : FRM V V71 (-1))
          have fm166 : FRM V V164 (-1) := (FRM.tr fm165 (FRM.ag (show agr [(0, 73)] [74, 75] V71 V164 from (agr.up (agr.up (agr.up agr.rf hV113 rfl) hV162 rfl) hV164 rfl)) ⟨⟨rfl, fun _ => rfl, fun _ => rfl, fun _ => rfl, fun _ => rfl, fun _ => rfl, fun _ => rfl⟩, by decide, by decide, rfl, rfl, fun _ => rfl, fun _ => rfl, fun _ => rfl, fun _ => rfl, fun _ => rfl, fun _ => rfl⟩) agV71 ⟨rfl, fun _ => rfl, fun _ => rfl, fun _ => rfl, fun _ => rfl, fun _ => rfl, fun _ => rfl⟩ (by omega))
          have ko2 := i_clamp (x := p0) rfl (by omega)
          have hst := (fm166.2.1 (Int32.toNatClampNeg p0) (by omega)).2.2.2 st1
          have rt167 : RT V164 := RT.ag t69 hMV71 (show agr [(0, 73)] [74, 75] V71 V164 from (agr.up (agr.up (agr.up agr.rf hV113 rfl) hV162 rfl) hV164 rfl)) ⟨⟨rfl, fun _ => rfl, fun _ => rfl, fun _ => rfl, fun _ => rfl, fun _ => rfl, fun _ => rfl⟩, by decide, by decide, rfl, rfl, fun _ => rfl, fun _ => rfl, fun _ => rfl, fun _ => rfl, fun _ => rfl, fun _ => rfl⟩ (c0k.ag (show agr [(0, 73)] [74, 75] V71 V164 from (agr.up (agr.up (agr.up agr.rf hV113 rfl) hV162 rfl) hV164 rfl)) rfl)
          have hs2 : (V164 63 (Int32.toNatClampNeg p0)).toInt ≤ 2 := (hMV164 63 _).2
          refine lv_aload_n hx hb dX12_closes_119 rfl (lv_at hl 2 rfl) ?_
          refine va_get (D := D) (ci := 12) (v := .ref (ad 63)) (C := RX12) (T := TX12) (N := 100) hx hb hg inX12 hown hK hP 0 rfl rfl 63 (by decide) (hg _ w1773) (fun _ h9 => h9) rfl dX12_closes_120 ?_
          refine lv_iload_n hx hb dX12_closes_123 rfl (lv_at hl 3 rfl) ?_
          refine lv_iconst (v := 2) hx hb dX12_closes_124 (by decide) ?_
          refine va_iast (D := D) (i := p0) (x := 2) hx hb hK hP hD hS 48 47 rfl rfl (i_in (a := p0.toInt) rfl (by first | omega | ((try (have i_t68 := Imp.go t68 (by omega))); (try (have i_rt := Imp.go rt (by omega))); (try (have i_rt := Imp.go rt (by omega))); (try (have i_t68 := Imp.go t68 (by omega))); omega))) dX12_closes_125 (fun H locs hP hD hS => ?_)
          obtain ⟨V168, hV168⟩ : ∃ z, z = up2 V164 63 (Int32.toNatClampNeg p0) 2 := ⟨_, rfl⟩
          have hP : va_P D vwCl (mw ad kk ks.1 V168 L) H := by rw [hV168]; exact hP
          have hD : va_D A (mw ad kk ks.1 V168 L) := by rw [hV168]; exact hD
          have hMV168 : rgd bM V168 := hMV164.put hV168 (show 0 ≤ Int32.toInt 2 ∧ Int32.toInt 2 ≤ 2 from by decide)
          have agV168 : agr [(0, 60), (0, 65), (0, 68), (0, 69), (0, 73), (0, 76), (0, 90), (0, 91), (0, 92), (0, 93), (0, 95), (0, 96), (0, 98)] [59, 61, 62, 63, 64, 66, 67, 74, 75, 77, 78, 79, 80, 94, 97] V V168 := agV164.up hV168 rfl
          refine lv_iload_n hx hb dX12_closes_126 rfl (lv_at hl 0 rfl) ?_
          refine lv_iconst (v := 2) hx hb dX12_closes_127 (by decide) ?_
          refine lv_icmp_ne (tgt := 135) hx hb dX12_closes_128 (by decide) (fun c169 => ?_) (fun c169 => ?_)
          · skip
            have f170 : z55.toInt ≠ 2 := b_neq rfl (by decide) c169
            exfalso; first | omega | ((try (have i_t68 := Imp.go t68 (by omega))); (try (have i_rt := Imp.go rt (by omega))); (try (have i_rt := Imp.go rt (by omega))); (try (have i_t68 := Imp.go t68 (by omega))); omega)
          · skip
            have f171 : z55.toInt = 2 := b_eq rfl (by decide) c169
            refine lv_iconst (v := 1) hx hb dX12_closes_131 (by decide) ?_
            refine lv_goto (tgt := 136) hx hb dX12_closes_132 (by decide) ?_
            have pq172 : (V168 0 93).toInt = ((V71 0 93)).toInt := congrArg Int32.toInt ((up2_o hV168 (by decide)).trans ((up2_k hV164 (by decide)).trans ((up2_o hV162 (by decide)).trans (up2_o hV113 (by decide)))))
            have pq173 : (V168 0 98).toInt = ((V71 0 98)).toInt := congrArg Int32.toInt ((up2_o hV168 (by decide)).trans ((up2_k hV164 (by decide)).trans ((up2_o hV162 (by decide)).trans (up2_o hV113 (by decide)))))
            have pq174 : (V168 0 60).toInt = ((V71 0 60)).toInt := congrArg Int32.toInt ((up2_o hV168 (by decide)).trans ((up2_k hV164 (by decide)).trans ((up2_o hV162 (by decide)).trans (up2_o hV113 (by decide)))))
            have pq175 : (V168 0 65).toInt = ((V71 0 65)).toInt := congrArg Int32.toInt ((up2_o hV168 (by decide)).trans ((up2_k hV164 (by decide)).trans ((up2_o hV162 (by decide)).trans (up2_o hV113 (by decide)))))
            have pq176 : (V168 0 73).toInt = z163.toInt := congrArg Int32.toInt ((up2_o hV168 (by decide)).trans (up2_s hV164))
            have pq177 : (V168 0 95).toInt = ((V71 0 95)).toInt := congrArg Int32.toInt ((up2_o hV168 (by decide)).trans ((up2_k hV164 (by decide)).trans ((up2_o hV162 (by decide)).trans (up2_o hV113 (by decide)))))
            have pq178 : (V168 0 69).toInt = ((V71 0 69)).toInt := congrArg Int32.toInt ((up2_o hV168 (by decide)).trans ((up2_k hV164 (by decide)).trans ((up2_o hV162 (by decide)).trans (up2_o hV113 (by decide)))))
            have pq179 : (V168 0 76).toInt = ((V71 0 76)).toInt := congrArg Int32.toInt ((up2_o hV168 (by decide)).trans ((up2_k hV164 (by decide)).trans ((up2_o hV162 (by decide)).trans (up2_o hV113 (by decide)))))
            have pq180 : (V168 63 (Int32.toNatClampNeg p0)).toInt = 2 := (congrArg Int32.toInt (up2_s hV168)).trans (by decide)
            have pq181 : (V164 0 95).toInt = ((V71 0 95)).toInt := congrArg Int32.toInt ((up2_k hV164 (by decide)).trans ((up2_o hV162 (by decide)).trans (up2_o hV113 (by decide))))
            exact W.zret (v := 1) hx hb hr rfl (fun t ht hW => ⟨⟨1, (V168, L), rfl, ⟨hMV168, agV168, rfl, (by decide), (show (V168 0 93).toInt = (V 0 93).toInt from by first | omega | ((try (have i_t68 := Imp.go t68 (by omega))); (try (have i_rt := Imp.go rt (by omega))); (try (have i_rt := Imp.go rt (by omega))); (try (have i_t68 := Imp.go t68 (by omega))); omega)), (show (V168 0 98).toInt = (V 0 98).toInt from by first | omega | ((try (have i_t68 := Imp.go t68 (by omega))); (try (have i_rt := Imp.go rt (by omega))); (try (have i_rt := Imp.go rt (by omega))); (try (have i_t68 := Imp.go t68 (by omega))); omega)), (show (V 0 60).toInt ≤ (V168 0 60).toInt from by first | omega | ((try (have i_t68 := Imp.go t68 (by omega))); (try (have i_rt := Imp.go rt (by omega))); (try (have i_rt := Imp.go rt (by omega))); (try (have i_t68 := Imp.go t68 (by omega))); omega)), (show (V 0 65).toInt ≤ (V168 0 65).toInt from by first | omega | ((try (have i_t68 := Imp.go t68 (by omega))); (try (have i_rt := Imp.go rt (by omega))); (try (have i_rt := Imp.go rt (by omega))); (try (have i_t68 := Imp.go t68 (by omega))); omega)), (show (V168 0 65).toInt - (V 0 65).toInt ≤ (V168 0 60).toInt - (V 0 60).toInt from by first | omega | ((try (have i_t68 := Imp.go t68 (by omega))); (try (have i_rt := Imp.go rt (by omega))); (try (have i_rt := Imp.go rt (by omega))); (try (have i_t68 := Imp.go t68 (by omega))); omega)), (show (V168 0 73).toInt + (V168 0 95).toInt - (V168 0 65).toInt ≤ (V 0 73).toInt + (V 0 95).toInt - (V 0 65).toInt + 1 from by first | omega | ((try (have i_t68 := Imp.go t68 (by omega))); (try (have i_rt := Imp.go rt (by omega))); (try (have i_rt := Imp.go rt (by omega))); (try (have i_t68 := Imp.go t68 (by omega))); omega)), (show (V 0 73).toInt ≤ (V168 0 73).toInt from by first | omega | ((try (have i_t68 := Imp.go t68 (by omega))); (try (have i_rt := Imp.go rt (by omega))); (try (have i_rt := Imp.go rt (by omega))); (try (have i_t68 := Imp.go t68 (by omega))); omega)), (show (V 0 69).toInt ≤ (V168 0 69).toInt from by first | omega | ((try (have i_t68 := Imp.go t68 (by omega))); (try (have i_rt := Imp.go rt (by omega))); (try (have i_rt := Imp.go rt (by omega))); (try (have i_t68 := Imp.go t68 (by omega))); omega)), (show (V168 0 95).toInt = (V 0 95).toInt from by first | omega | ((try (have i_t68 := Imp.go t68 (by omega))); (try (have i_rt := Imp.go rt (by omega))); (try (have i_rt := Imp.go rt (by omega))); (try (have i_t68 := Imp.go t68 (by omega))); omega)), (show (V168 0 76).toInt - (V168 0 69).toInt - (V168 0 73).toInt ≤ (V 0 76).toInt - (V 0 69).toInt - (V 0 73).toInt from by first | omega | ((try (have i_t68 := Imp.go t68 (by omega))); (try (have i_rt := Imp.go rt (by omega))); (try (have i_rt := Imp.go rt (by omega))); (try (have i_t68 := Imp.go t68 (by omega))); omega)), (show (V168 63 (Int32.toNatClampNeg p0)).toInt = 2 from by first | omega | ((try (have i_t68 := Imp.go t68 (by omega))); (try (have i_rt := Imp.go rt (by omega))); (try (have i_rt := Imp.go rt (by omega))); (try (have i_t68 := Imp.go t68 (by omega))); omega)), (RT.state rt167 hMV164 hV168 (by decide)), (FRM.tr fm166 (FRM.state hV168 (Or.inr ⟨by omega, by show _ ≤ (2 : Int32).toInt; have h9 : (2 : Int32).toInt = 2 := (by decide); omega⟩)) agV164 ⟨rfl, fun _ => rfl, fun _ => rfl, fun _ => rfl, fun _ => rfl, fun _ => rfl, fun _ => rfl⟩ (by omega))⟩, by rw [ht]; exact hP, va_K.moved hW.alike hK, hD⟩, hS.F ht⟩) hS.2.2 dX12_closes_136
      · skip
        have f182 : z55.toInt = 0 := b_eq rfl (by decide) c114
        refine lv_iconst (v := 0) hx hb dX12_closes_78 (by decide) ?_
        refine lv_goto (tgt := 108) hx hb dX12_closes_79 (by decide) ?_
        refine va_iast (D := D) (i := (V71 0 73)) (x := 0) hx hb hK hP hD hS 53 52 rfl rfl (i_in (a := ((V71 0 73)).toInt) rfl (by first | omega | ((try (have i_t68 := Imp.go t68 (by omega))); (try (have i_rt := Imp.go rt (by omega))); (try (have i_rt := Imp.go rt (by omega))); (try (have i_t68 := Imp.go t68 (by omega))); omega))) dX12_closes_108 (fun H locs hP hD hS => ?_)
        obtain ⟨V183, hV183⟩ : ∃ z, z = up2 V113 75 (Int32.toNatClampNeg (V71 0 73)) 0 := ⟨_, rfl⟩
        have hP : va_P D vwCl (mw ad kk ks.1 V183 L) H := by rw [hV183]; exact hP
        have hD : va_D A (mw ad kk ks.1 V183 L) := by rw [hV183]; exact hD
        have hMV183 : rgd bM V183 := hMV113.put hV183 (i_full _)
        have agV183 : agr [(0, 60), (0, 65), (0, 68), (0, 69), (0, 73), (0, 76), (0, 90), (0, 91), (0, 92), (0, 93), (0, 95), (0, 96), (0, 98)] [59, 61, 62, 63, 64, 66, 67, 74, 75, 77, 78, 79, 80, 94, 97] V V183 := agV113.up hV183 rfl
        refine lv_aload_n hx hb dX12_closes_109 rfl (lv_at hl 2 rfl) ?_
        refine lv_dup hx hb dX12_closes_110 rfl ?_
        refine va_get (D := D) (ci := 12) (v := .int (V183 0 73)) (C := RX12) (T := TX12) (N := 100) hx hb hg inX12 hown hK hP 0 rfl rfl 73 (by decide) (hg _ w1783) (fun _ h9 => h9) rfl dX12_closes_111 ?_
        refine g_top (v := (V71 0 73)) ((up2_o hV183 (by decide)).trans (up2_o hV113 (by decide))) ?_
        refine lv_iconst (v := 1) hx hb dX12_closes_114 (by decide) ?_
        refine lv_iadd hx hb dX12_closes_115 ?_
        refine lv_topi (fun z184 ez184 => ?_)
        have hz184 : z184.toInt = ((V71 0 73)).toInt + 1 := i_add ez184 rfl (by decide) (by omega)
        refine va_put (D := D) (ci := 12) (v := .int z184) (ty := tyX12 73) (C := RX12) (T := TX12) (N := 100) hx hb hg inX12 tyX12 tyX12_ok nmX12 hown hK hP hD hS 0 rfl rfl 73 (by decide) (hg _ w1783) (fun _ h9 => h9) rfl (tyX12_ok 73 (by decide)) rfl rfl (Nat.le_of_ble_eq_true rfl) dX12_closes_116 (fun H locs hP hD hS => ?_)
        obtain ⟨V185, hV185⟩ : ∃ z, z = up2 V183 0 73 z184 := ⟨_, rfl⟩
        have hP : va_P D vwCl (mw ad kk ks.1 V185 L) H := by rw [hV185]; exact hP
        have hD : va_D A (mw ad kk ks.1 V185 L) := by rw [hV185]; exact hD
        have hMV185 : rgd bM V185 := hMV183.put hV185 (show 0 ≤ z184.toInt ∧ z184.toInt ≤ 1000000 from by first | omega | ((try (have i_t68 := Imp.go t68 (by omega))); (try (have i_rt := Imp.go rt (by omega))); (try (have i_rt := Imp.go rt (by omega))); (try (have i_t68 := Imp.go t68 (by omega))); omega))
        have agV185 : agr [(0, 60), (0, 65), (0, 68), (0, 69), (0, 73), (0, 76), (0, 90), (0, 91), (0, 92), (0, 93), (0, 95), (0, 96), (0, 98)] [59, 61, 62, 63, 64, 66, 67, 74, 75, 77, 78, 79, 80, 94, 97] V V185 := agV183.up hV185 rfl
        have fm186 : FRM V V71 (-1) := (t70 : FRM V V71 (-1))
        have fm187 : FRM V V185 (-1) := (FRM.tr fm186 (FRM.ag (show agr [(0, 73)] [74, 75] V71 V185 from (agr.up (agr.up (agr.up agr.rf hV113 rfl) hV183 rfl) hV185 rfl)) ⟨⟨rfl, fun _ => rfl, fun _ => rfl, fun _ => rfl, fun _ => rfl, fun _ => rfl, fun _ => rfl⟩, by decide, by decide, rfl, rfl, fun _ => rfl, fun _ => rfl, fun _ => rfl, fun _ => rfl, fun _ => rfl, fun _ => rfl⟩) agV71 ⟨rfl, fun _ => rfl, fun _ => rfl, fun _ => rfl, fun _ => rfl, fun _ => rfl, fun _ => rfl⟩ (by omega))
        have ko2 := i_clamp (x := p0) rfl (by omega)
        have hst := (fm187.2.1 (Int32.toNatClampNeg p0) (by omega)).2.2.2 st1
        have rt188 : RT V185 := RT.ag t69 hMV71 (show agr [(0, 73)] [74, 75] V71 V185 from (agr.up (agr.up (agr.up agr.rf hV113 rfl) hV183 rfl) hV185 rfl)) ⟨⟨rfl, fun _ => rfl, fun _ => rfl, fun _ => rfl, fun _ => rfl, fun _ => rfl, fun _ => rfl⟩, by decide, by decide, rfl, rfl, fun _ => rfl, fun _ => rfl, fun _ => rfl, fun _ => rfl, fun _ => rfl, fun _ => rfl⟩ (c0k.ag (show agr [(0, 73)] [74, 75] V71 V185 from (agr.up (agr.up (agr.up agr.rf hV113 rfl) hV183 rfl) hV185 rfl)) rfl)
        have hs2 : (V185 63 (Int32.toNatClampNeg p0)).toInt ≤ 2 := (hMV185 63 _).2
        refine lv_aload_n hx hb dX12_closes_119 rfl (lv_at hl 2 rfl) ?_
        refine va_get (D := D) (ci := 12) (v := .ref (ad 63)) (C := RX12) (T := TX12) (N := 100) hx hb hg inX12 hown hK hP 0 rfl rfl 63 (by decide) (hg _ w1773) (fun _ h9 => h9) rfl dX12_closes_120 ?_
        refine lv_iload_n hx hb dX12_closes_123 rfl (lv_at hl 3 rfl) ?_
        refine lv_iconst (v := 2) hx hb dX12_closes_124 (by decide) ?_
        refine va_iast (D := D) (i := p0) (x := 2) hx hb hK hP hD hS 48 47 rfl rfl (i_in (a := p0.toInt) rfl (by first | omega | ((try (have i_t68 := Imp.go t68 (by omega))); (try (have i_rt := Imp.go rt (by omega))); (try (have i_rt := Imp.go rt (by omega))); (try (have i_t68 := Imp.go t68 (by omega))); omega))) dX12_closes_125 (fun H locs hP hD hS => ?_)
        obtain ⟨V189, hV189⟩ : ∃ z, z = up2 V185 63 (Int32.toNatClampNeg p0) 2 := ⟨_, rfl⟩
        have hP : va_P D vwCl (mw ad kk ks.1 V189 L) H := by rw [hV189]; exact hP
        have hD : va_D A (mw ad kk ks.1 V189 L) := by rw [hV189]; exact hD
        have hMV189 : rgd bM V189 := hMV185.put hV189 (show 0 ≤ Int32.toInt 2 ∧ Int32.toInt 2 ≤ 2 from by decide)
        have agV189 : agr [(0, 60), (0, 65), (0, 68), (0, 69), (0, 73), (0, 76), (0, 90), (0, 91), (0, 92), (0, 93), (0, 95), (0, 96), (0, 98)] [59, 61, 62, 63, 64, 66, 67, 74, 75, 77, 78, 79, 80, 94, 97] V V189 := agV185.up hV189 rfl
        refine lv_iload_n hx hb dX12_closes_126 rfl (lv_at hl 0 rfl) ?_
        refine lv_iconst (v := 2) hx hb dX12_closes_127 (by decide) ?_
        refine lv_icmp_ne (tgt := 135) hx hb dX12_closes_128 (by decide) (fun c190 => ?_) (fun c190 => ?_)
        · skip
          have f191 : z55.toInt ≠ 2 := b_neq rfl (by decide) c190
          refine lv_iconst (v := 0) hx hb dX12_closes_135 (by decide) ?_
          have pq192 : (V189 0 93).toInt = ((V71 0 93)).toInt := congrArg Int32.toInt ((up2_o hV189 (by decide)).trans ((up2_k hV185 (by decide)).trans ((up2_o hV183 (by decide)).trans (up2_o hV113 (by decide)))))
          have pq193 : (V189 0 98).toInt = ((V71 0 98)).toInt := congrArg Int32.toInt ((up2_o hV189 (by decide)).trans ((up2_k hV185 (by decide)).trans ((up2_o hV183 (by decide)).trans (up2_o hV113 (by decide)))))
          have pq194 : (V189 0 60).toInt = ((V71 0 60)).toInt := congrArg Int32.toInt ((up2_o hV189 (by decide)).trans ((up2_k hV185 (by decide)).trans ((up2_o hV183 (by decide)).trans (up2_o hV113 (by decide)))))
          have pq195 : (V189 0 65).toInt = ((V71 0 65)).toInt := congrArg Int32.toInt ((up2_o hV189 (by decide)).trans ((up2_k hV185 (by decide)).trans ((up2_o hV183 (by decide)).trans (up2_o hV113 (by decide)))))
          have pq196 : (V189 0 73).toInt = z184.toInt := congrArg Int32.toInt ((up2_o hV189 (by decide)).trans (up2_s hV185))
          have pq197 : (V189 0 95).toInt = ((V71 0 95)).toInt := congrArg Int32.toInt ((up2_o hV189 (by decide)).trans ((up2_k hV185 (by decide)).trans ((up2_o hV183 (by decide)).trans (up2_o hV113 (by decide)))))
          have pq198 : (V189 0 69).toInt = ((V71 0 69)).toInt := congrArg Int32.toInt ((up2_o hV189 (by decide)).trans ((up2_k hV185 (by decide)).trans ((up2_o hV183 (by decide)).trans (up2_o hV113 (by decide)))))
          have pq199 : (V189 0 76).toInt = ((V71 0 76)).toInt := congrArg Int32.toInt ((up2_o hV189 (by decide)).trans ((up2_k hV185 (by decide)).trans ((up2_o hV183 (by decide)).trans (up2_o hV113 (by decide)))))
          have pq200 : (V189 63 (Int32.toNatClampNeg p0)).toInt = 2 := (congrArg Int32.toInt (up2_s hV189)).trans (by decide)
          have pq201 : (V185 0 95).toInt = ((V71 0 95)).toInt := congrArg Int32.toInt ((up2_k hV185 (by decide)).trans ((up2_o hV183 (by decide)).trans (up2_o hV113 (by decide))))
          exact W.zret (v := 0) hx hb hr rfl (fun t ht hW => ⟨⟨0, (V189, L), rfl, ⟨hMV189, agV189, rfl, (by decide), (show (V189 0 93).toInt = (V 0 93).toInt from by first | omega | ((try (have i_t68 := Imp.go t68 (by omega))); (try (have i_rt := Imp.go rt (by omega))); (try (have i_rt := Imp.go rt (by omega))); (try (have i_t68 := Imp.go t68 (by omega))); omega)), (show (V189 0 98).toInt = (V 0 98).toInt from by first | omega | ((try (have i_t68 := Imp.go t68 (by omega))); (try (have i_rt := Imp.go rt (by omega))); (try (have i_rt := Imp.go rt (by omega))); (try (have i_t68 := Imp.go t68 (by omega))); omega)), (show (V 0 60).toInt ≤ (V189 0 60).toInt from by first | omega | ((try (have i_t68 := Imp.go t68 (by omega))); (try (have i_rt := Imp.go rt (by omega))); (try (have i_rt := Imp.go rt (by omega))); (try (have i_t68 := Imp.go t68 (by omega))); omega)), (show (V 0 65).toInt ≤ (V189 0 65).toInt from by first | omega | ((try (have i_t68 := Imp.go t68 (by omega))); (try (have i_rt := Imp.go rt (by omega))); (try (have i_rt := Imp.go rt (by omega))); (try (have i_t68 := Imp.go t68 (by omega))); omega)), (show (V189 0 65).toInt - (V 0 65).toInt ≤ (V189 0 60).toInt - (V 0 60).toInt from by first | omega | ((try (have i_t68 := Imp.go t68 (by omega))); (try (have i_rt := Imp.go rt (by omega))); (try (have i_rt := Imp.go rt (by omega))); (try (have i_t68 := Imp.go t68 (by omega))); omega)), (show (V189 0 73).toInt + (V189 0 95).toInt - (V189 0 65).toInt ≤ (V 0 73).toInt + (V 0 95).toInt - (V 0 65).toInt + 1 from by first | omega | ((try (have i_t68 := Imp.go t68 (by omega))); (try (have i_rt := Imp.go rt (by omega))); (try (have i_rt := Imp.go rt (by omega))); (try (have i_t68 := Imp.go t68 (by omega))); omega)), (show (V 0 73).toInt ≤ (V189 0 73).toInt from by first | omega | ((try (have i_t68 := Imp.go t68 (by omega))); (try (have i_rt := Imp.go rt (by omega))); (try (have i_rt := Imp.go rt (by omega))); (try (have i_t68 := Imp.go t68 (by omega))); omega)), (show (V 0 69).toInt ≤ (V189 0 69).toInt from by first | omega | ((try (have i_t68 := Imp.go t68 (by omega))); (try (have i_rt := Imp.go rt (by omega))); (try (have i_rt := Imp.go rt (by omega))); (try (have i_t68 := Imp.go t68 (by omega))); omega)), (show (V189 0 95).toInt = (V 0 95).toInt from by first | omega | ((try (have i_t68 := Imp.go t68 (by omega))); (try (have i_rt := Imp.go rt (by omega))); (try (have i_rt := Imp.go rt (by omega))); (try (have i_t68 := Imp.go t68 (by omega))); omega)), (show (V189 0 76).toInt - (V189 0 69).toInt - (V189 0 73).toInt ≤ (V 0 76).toInt - (V 0 69).toInt - (V 0 73).toInt from by first | omega | ((try (have i_t68 := Imp.go t68 (by omega))); (try (have i_rt := Imp.go rt (by omega))); (try (have i_rt := Imp.go rt (by omega))); (try (have i_t68 := Imp.go t68 (by omega))); omega)), (show (V189 63 (Int32.toNatClampNeg p0)).toInt = 2 from by first | omega | ((try (have i_t68 := Imp.go t68 (by omega))); (try (have i_rt := Imp.go rt (by omega))); (try (have i_rt := Imp.go rt (by omega))); (try (have i_t68 := Imp.go t68 (by omega))); omega)), (RT.state rt188 hMV185 hV189 (by decide)), (FRM.tr fm187 (FRM.state hV189 (Or.inr ⟨by omega, by show _ ≤ (2 : Int32).toInt; have h9 : (2 : Int32).toInt = 2 := (by decide); omega⟩)) agV185 ⟨rfl, fun _ => rfl, fun _ => rfl, fun _ => rfl, fun _ => rfl, fun _ => rfl, fun _ => rfl⟩ (by omega))⟩, by rw [ht]; exact hP, va_K.moved hW.alike hK, hD⟩, hS.F ht⟩) hS.2.2 dX12_closes_136
        · skip
          have f202 : z55.toInt = 2 := b_eq rfl (by decide) c190
          exfalso; first | omega | ((try (have i_t68 := Imp.go t68 (by omega))); (try (have i_rt := Imp.go rt (by omega))); (try (have i_rt := Imp.go rt (by omega))); (try (have i_t68 := Imp.go t68 (by omega))); omega)
