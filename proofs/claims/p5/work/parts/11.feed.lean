/-! how the tape grows: its length, eight signs of a long (the class shifts by >>>, the reference by >>) -/
def shv (n : Nat) : Int32 := Int32.ofInt (8 * (n : Int) - 8)
def sgc (v : Int64) (y : Int32) : Int32 := ((v.toUInt64 >>> (y.toInt64.toUInt64 &&& Int64.toUInt64 63)).toInt64).toInt32 &&& 255
def sgm (v : Int64) (y : Int32) : Int32 := (v >>> (y.toInt64 &&& 63)).toInt32 &&& 255
def stp (s : Int32) (k : Nat) : Nat := if (s = 10 ∨ (32 ≤ s ∧ s ≤ 126)) ∧ k < 4000 then k + 1 else k
def apk : Nat → Int64 → Nat → Nat
  | 0, _, k => k
  | n + 1, v, k => apk n v (stp (sgc v (shv (n + 1))) k)
def apm : Nat → Int64 → Nat → Nat
  | 0, _, k => k
  | n + 1, v, k => apm n v (stp (sgm v (shv (n + 1))) k)
theorem stp_le {s : Int32} {k : Nat} (h : k ≤ 4000) : stp s k ≤ 4000 := by
  unfold stp
  split
  · omega
  · exact h
theorem apk_le : ∀ (n : Nat) (v : Int64) (k : Nat), k ≤ 4000 → apk n v k ≤ 4000
  | 0, _, _, h => h
  | n + 1, v, _, h => apk_le n v _ (stp_le h)
theorem apm_le : ∀ (n : Nat) (v : Int64) (k : Nat), k ≤ 4000 → apm n v k ≤ 4000
  | 0, _, _, h => h
  | n + 1, v, _, h => apm_le n v _ (stp_le h)
theorem stp_y1 {s : Int32} {k : Nat} (h : s = 10) (hk : k < 4000) : stp s k = k + 1 := if_pos ⟨Or.inl h, hk⟩
theorem stp_y2 {s : Int32} {k : Nat} (h1 : ¬ s < 32) (h2 : ¬ 126 < s) (hk : k < 4000) : stp s k = k + 1 := if_pos ⟨Or.inr ⟨Int32.not_lt.mp h1, Int32.not_lt.mp h2⟩, hk⟩
theorem stp_n1 {s : Int32} {k : Nat} (h0 : ¬ s = 10) (h1 : s < 32) : stp s k = k := if_neg (fun h => h.1.elim h0 (fun z => absurd z.1 (Int32.not_le.mpr h1)))
theorem stp_n2 {s : Int32} {k : Nat} (h0 : ¬ s = 10) (h1 : 126 < s) : stp s k = k := if_neg (fun h => h.1.elim h0 (fun z => absurd z.2 (Int32.not_le.mpr h1)))
theorem stp_f {s : Int32} {k : Nat} (h : 4000 ≤ k) : stp s k = k := if_neg (fun z => absurd z.2 (by omega))
theorem shv_lt : ∀ n, n < 8 → ¬ shv (n + 1) < 0 := by decide +kernel
theorem shv_ge : ∀ n, n < 8 → 0 ≤ shv (n + 1) := by decide +kernel
theorem shv_dec : ∀ n, n < 8 → shv (n + 1) + Int32.ofInt (-8) = shv n := by decide +kernel
/-! the eight signs of a long: >>> and >> give the same low bytes -/
theorem sg_bits (v z w : BitVec 64) (k : Nat) (hz : z.toNat = k) (hw : w.toNat = k) (hk : k ≤ 56) : ((v >>> z).signExtend 32 &&& (255 : Int32).toBitVec) = ((v.sshiftRight' w).signExtend 32 &&& (255 : Int32).toBitVec) := by
  apply BitVec.eq_of_getLsbD_eq
  intro i hi
  rw [BitVec.getLsbD_and, BitVec.getLsbD_and]
  by_cases h8 : i < 8
  · have h1 : k + i < 64 := by omega
    have h2 : ¬ 64 ≤ i := by omega
    have h3 : i < 64 := by omega
    have e : ((v >>> z).signExtend 32).getLsbD i = ((v.sshiftRight' w).signExtend 32).getLsbD i := by
      rw [BitVec.getLsbD_signExtend, BitVec.getLsbD_signExtend, BitVec.getLsbD_sshiftRight', hw, BitVec.ushiftRight_eq', hz, BitVec.getLsbD_ushiftRight, if_pos h3, if_pos h3, if_pos h1]
      simp [h2]
    rw [e]
  · have h4 : ∀ j, j < 32 → ¬ j < 8 → ((255 : Int32).toBitVec).getLsbD j = false := by decide +kernel
    rw [h4 i hi h8, Bool.and_false, Bool.and_false]
theorem sg_z : ∀ n, n < 8 → ((((shv (n + 1)).toInt64.toUInt64 &&& Int64.toUInt64 63) % 64).toBitVec).toNat = 8 * n := by decide +kernel
theorem sg_w : ∀ n, n < 8 → (((shv (n + 1)).toInt64 &&& 63).toBitVec.smod 64).toNat = 8 * n := by decide +kernel
theorem sgc_bv (v : Int64) (y : Int32) : (sgc v y).toBitVec = ((v.toBitVec >>> ((y.toInt64.toUInt64 &&& Int64.toUInt64 63) % 64).toBitVec).signExtend 32 &&& (255 : Int32).toBitVec) := rfl
theorem sgm_bv (v : Int64) (y : Int32) : (sgm v y).toBitVec = ((v.toBitVec.sshiftRight' ((y.toInt64 &&& 63).toBitVec.smod 64)).signExtend 32 &&& (255 : Int32).toBitVec) := rfl
theorem sgc_sgm (v : Int64) (n : Nat) (hn : n < 8) : sgc v (shv (n + 1)) = sgm v (shv (n + 1)) :=
  Int32.toBitVec_inj.mp (by rw [sgc_bv, sgm_bv]; exact sg_bits v.toBitVec _ _ (8 * n) (sg_z n hn) (sg_w n hn) (by omega))
theorem apk_apm : ∀ (n : Nat) (v : Int64) (k : Nat), n ≤ 8 → apk n v k = apm n v k
  | 0, _, _, _ => rfl
  | n + 1, v, k, h => by
    show apk n v (stp (sgc v (shv (n + 1))) k) = apm n v (stp (sgm v (shv (n + 1))) k)
    rw [sgc_sgm v n (by omega)]
    exact apk_apm n v _ (by omega)
theorem apk_apm8 (v : Int64) (k : Nat) : apk 8 v k = apm 8 v k := apk_apm 8 v k (Nat.le_refl 8)
theorem shv_toInt : ∀ n, n < 9 → (shv n).toInt = 8 * (n : Int) - 8 := by decide +kernel
theorem stp_i {z : Int32} {k : Nat} (h : z.toInt = 10 ∨ (32 ≤ z.toInt ∧ z.toInt ≤ 126)) (hk : k < 4000) : stp z k = k + 1 := if_pos ⟨h.elim (fun q => Or.inl (Int32.toInt_inj.mp q)) (fun q => Or.inr ⟨Int32.le_iff_toInt_le.mpr q.1, Int32.le_iff_toInt_le.mpr q.2⟩), hk⟩
theorem stp_j {z : Int32} {k : Nat} (h : (z.toInt ≠ 10 ∧ (z.toInt < 32 ∨ 126 < z.toInt)) ∨ 4000 ≤ k) : stp z k = k := if_neg (fun q => by
  rcases h with h | h
  · rcases q.1 with r | r
    · exact h.1 (by rw [r]; rfl)
    · have r1 := Int32.le_iff_toInt_le.mp r.1
      have r2 := Int32.le_iff_toInt_le.mp r.2
      have e1 : (32 : Int32).toInt = 32 := rfl
      have e2 : (126 : Int32).toInt = 126 := rfl
      omega
  · exact absurd q.2 (by omega))

theorem w1689 : Cond.code yX12_lay cX12_lay 5 none ∈ GW := gw_mem 1689 (by decide +kernel) rfl
theorem w1685 : Cond.methodLink RX12 7 yX12_lay ∈ GW := gw_mem 1685 (by decide +kernel) rfl
theorem w1687 : Cond.instanceMethod yX12_lay ∈ GW := gw_mem 1687 (by decide +kernel) rfl
theorem w81 : Cond.selects RX12 yX12_lay yX12_lay ∈ GW := gw_mem 81 (by decide +kernel) rfl
theorem hdV_yX12_lay : yX12_lay.cls = RX12 ∧ yX12_lay.cls ≠ "java/lang/invoke/MethodHandle" ∧ yX12_lay.cls ≠ "java/lang/invoke/VarHandle" ∧ (parseMethodDescriptor yX12_lay.desc).map (fun d => d.parameters.length) = some 1 := by decide +kernel
theorem dX12_lay_0 : decode cX12_lay 0 = .ok (.bipush 56, 2) := by decide +kernel
theorem dX12_lay_2 : decode cX12_lay 2 = .ok (.istore_n 3, 1) := by decide +kernel
theorem dX12_lay_3 : decode cX12_lay 3 = .ok (.iload_n 3, 1) := by decide +kernel
theorem dX12_lay_4 : decode cX12_lay 4 = .ok (.ifCond .lt 71, 3) := by decide +kernel
theorem dX12_lay_75 : decode cX12_lay 75 = .ok (.return_, 1) := by decide +kernel
theorem dX12_lay_7 : decode cX12_lay 7 = .ok (.lload_n 1, 1) := by decide +kernel
theorem dX12_lay_8 : decode cX12_lay 8 = .ok (.iload_n 3, 1) := by decide +kernel
theorem dX12_lay_9 : decode cX12_lay 9 = .ok (.lshr, 1) := by decide +kernel
theorem dX12_lay_10 : decode cX12_lay 10 = .ok (.l2i, 1) := by decide +kernel
theorem dX12_lay_11 : decode cX12_lay 11 = .ok (.sipush 255, 3) := by decide +kernel
theorem dX12_lay_14 : decode cX12_lay 14 = .ok (.iand, 1) := by decide +kernel
theorem dX12_lay_15 : decode cX12_lay 15 = .ok (.istore 4, 2) := by decide +kernel
theorem dX12_lay_17 : decode cX12_lay 17 = .ok (.iload 4, 2) := by decide +kernel
theorem dX12_lay_19 : decode cX12_lay 19 = .ok (.bipush 10, 2) := by decide +kernel
theorem dX12_lay_21 : decode cX12_lay 21 = .ok (.if_icmp .eq 17, 3) := by decide +kernel
theorem dX12_lay_38 : decode cX12_lay 38 = .ok (.aload_n 0, 1) := by decide +kernel
theorem dX12_lay_39 : decode cX12_lay 39 = .ok (.getfield 11, 3) := by decide +kernel
theorem dX12_lay_42 : decode cX12_lay 42 = .ok (.sipush 4000, 3) := by decide +kernel
theorem dX12_lay_45 : decode cX12_lay 45 = .ok (.if_icmp .ge 24, 3) := by decide +kernel
theorem dX12_lay_69 : decode cX12_lay 69 = .ok (.iinc 3 (-8), 3) := by decide +kernel
theorem dX12_lay_72 : decode cX12_lay 72 = .ok (.goto (-69), 3) := by decide +kernel
theorem dX12_lay_48 : decode cX12_lay 48 = .ok (.aload_n 0, 1) := by decide +kernel
theorem dX12_lay_49 : decode cX12_lay 49 = .ok (.getfield 14, 3) := by decide +kernel
theorem dX12_lay_52 : decode cX12_lay 52 = .ok (.aload_n 0, 1) := by decide +kernel
theorem dX12_lay_53 : decode cX12_lay 53 = .ok (.getfield 11, 3) := by decide +kernel
theorem dX12_lay_56 : decode cX12_lay 56 = .ok (.iload 4, 2) := by decide +kernel
theorem dX12_lay_58 : decode cX12_lay 58 = .ok (.iastore, 1) := by decide +kernel
theorem dX12_lay_59 : decode cX12_lay 59 = .ok (.aload_n 0, 1) := by decide +kernel
theorem dX12_lay_60 : decode cX12_lay 60 = .ok (.dup, 1) := by decide +kernel
theorem dX12_lay_61 : decode cX12_lay 61 = .ok (.getfield 11, 3) := by decide +kernel
theorem dX12_lay_64 : decode cX12_lay 64 = .ok (.iconst 1, 1) := by decide +kernel
theorem dX12_lay_65 : decode cX12_lay 65 = .ok (.iadd, 1) := by decide +kernel
theorem dX12_lay_66 : decode cX12_lay 66 = .ok (.putfield 11, 3) := by decide +kernel
theorem dX12_lay_24 : decode cX12_lay 24 = .ok (.iload 4, 2) := by decide +kernel
theorem dX12_lay_26 : decode cX12_lay 26 = .ok (.bipush 32, 2) := by decide +kernel
theorem dX12_lay_28 : decode cX12_lay 28 = .ok (.if_icmp .lt 41, 3) := by decide +kernel
theorem dX12_lay_31 : decode cX12_lay 31 = .ok (.iload 4, 2) := by decide +kernel
theorem dX12_lay_33 : decode cX12_lay 33 = .ok (.bipush 126, 2) := by decide +kernel
theorem dX12_lay_35 : decode cX12_lay 35 = .ok (.if_icmp .gt 34, 3) := by decide +kernel
theorem dX12_feed_0 : decode cX12_feed 0 = .ok (.aload_n 0, 1) := by decide +kernel
theorem dX12_feed_1 : decode cX12_feed 1 = .ok (.iconst 0, 1) := by decide +kernel
theorem dX12_feed_2 : decode cX12_feed 2 = .ok (.putfield 1, 3) := by decide +kernel
theorem dX12_feed_5 : decode cX12_feed 5 = .ok (.aload_n 0, 1) := by decide +kernel
theorem dX12_feed_6 : decode cX12_feed 6 = .ok (.lload_n 1, 1) := by decide +kernel
theorem dX12_feed_7 : decode cX12_feed 7 = .ok (.invokevirtual 7, 3) := by decide +kernel
theorem dX12_feed_10 : decode cX12_feed 10 = .ok (.aload_n 0, 1) := by decide +kernel
theorem dX12_feed_11 : decode cX12_feed 11 = .ok (.lload_n 3, 1) := by decide +kernel
theorem dX12_feed_12 : decode cX12_feed 12 = .ok (.invokevirtual 7, 3) := by decide +kernel
theorem dX12_feed_15 : decode cX12_feed 15 = .ok (.aload_n 0, 1) := by decide +kernel
theorem dX12_feed_16 : decode cX12_feed 16 = .ok (.lload 5, 2) := by decide +kernel
theorem dX12_feed_18 : decode cX12_feed 18 = .ok (.invokevirtual 7, 3) := by decide +kernel
theorem dX12_feed_21 : decode cX12_feed 21 = .ok (.aload_n 0, 1) := by decide +kernel
theorem dX12_feed_22 : decode cX12_feed 22 = .ok (.getfield 11, 3) := by decide +kernel
theorem dX12_feed_25 : decode cX12_feed 25 = .ok (.ireturn, 1) := by decide +kernel
abbrev r_s_lay : Room := { frames := 0, cells := 0, slots := 0, locals := 0 }
abbrev q_s_lay (D : va_G) (ks : KS) (ad : Nat → Nat) (kk : Nat → ClassId) (V : Vf) (L : Lf) (p0 : Int64) (k0 : Nat) (A : Nat → Prop) : Array Value → State → Outcome → State → Prop := va_Qv (fun (u : Vf × Lf) => rgd bM u.1 ∧ agr [(0, 2)] [1] V u.1 ∧ u.2 = L ∧ ((u.1 0 2).toInt = ((apm 8 p0 k0 : Nat) : Int))) (fun u t => gq D A (mw ad kk ks.1 u.1 u.2) (mty kk) t) A
set_option maxHeartbeats 4000000 in
set_option maxRecDepth 100000 in
theorem s_lay (l : Launch) (D : va_G) (ks : KS) (sz : Nat) (ad : Nat → Nat) (kk : Nat → ClassId) (V : Vf) (L : Lf) (p0 : Int64) (k0 : Nat) (hMV : rgd bM V) (y1 : (V 0 2).toInt = (k0 : Int))  : Met l yX12_lay (Cond.code yX12_lay cX12_lay 5 none :: GW) r_s_lay (va_Pc [.ref (ad 0), .long p0] (gp D ks (mw ad kk ks.1 V L) (mty kk) sz)) (q_s_lay D ks ad kk V L p0 k0 (va_A (mw ad kk ks.1 V L) sz)) 0 0 (va_A (mw ad kk ks.1 V L) sz) := by
  refine g_met (q_s_lay D ks ad kk V L p0 k0) (by decide) (Nat.le_of_ble_eq_true rfl) ?_
  intro p e s m below meth c A ls H locs hx hb hr hml hown hg hlocks hin hnw hgk hP hK hD hS hA hl
  have hown : s.vm.findClass RX12 = some m.cls := hown
  have hl : lv_has ls 5 [(0, .ref (ad 0)), (1, .long p0)] := hl
  have hP : va_P D vwCl (mw ad kk ks.1 V L) H := hP
  have hD : va_D A (mw ad kk ks.1 V L) := hD
  have hK : va_K D vwCl (mty kk) s := hK
  have agV : agr [(0, 2)] [1] V V := agr.rf
  have r1 : 0 ≤ ((V 0 2)).toInt ∧ ((V 0 2)).toInt ≤ 4000 := hMV 0 2
  refine lv_bipush (v := 56) hx hb dX12_lay_0 (by decide) ?_
  refine lv_istore_n (lv' := [(3, .int 56), (0, .ref (ad 0)), (1, .long p0)]) hx hb dX12_lay_2 rfl hl (by decide) rfl (fun ls hl => ?_)
  have lp4 : ∀ (fulp4 : Nat) (jg : Nat) (kg : Nat) (y2 : Int32) (V3 : Vf) (H : Heap) (locs : List Loc) (ls : Array Slot), (-8) ≤ y2.toInt ∧ y2.toInt ≤ 56 → y2.toInt = 8 * ((jg : Nat) : Int) - 8 → jg ≤ 8 → (V3 0 2).toInt = ((kg : Nat) : Int) → kg ≤ 4000 → apm jg p0 kg = apm 8 p0 k0 → y2.toInt + 8 < (fulp4 : Int) → agr [(0, 2)] [1] V V3 → rgd bM V3 → va_P D vwCl (mw ad kk ks.1 V3 L) H → va_D A (mw ad kk ks.1 V3 L) → va_S A s.heap H locs → lv_has ls 5 [(3, .int y2), (0, .ref (ad 0)), (1, .long p0)] → W p l e r_s_lay s m ([.ref (ad 0), .long p0] : List Value).toArray below meth c H locs 0 0 (MQ below (q_s_lay D ks ad kk V L p0 k0 A) ([.ref (ad 0), .long p0] : List Value).toArray s 0 0 A) (F0 m 3 ls []) := by
    intro fulp4
    induction fulp4 with
    | zero =>
      intro jg kg y2 V3 H locs ls klp4_0 xlp4_0 xlp4_1 xlp4_2 xlp4_3 xlp4_4 hn ajV3 hMV3 hP hD hS hl
      exfalso; omega
    | succ fulp4 ihlp4 =>
      intro jg kg y2 V3 H locs ls klp4_0 xlp4_0 xlp4_1 xlp4_2 xlp4_3 xlp4_4 hn ajV3 hMV3 hP hD hS hl
      have agV3 : agr [(0, 2)] [1] V V3 := agV.tr ajV3 (by decide) (by decide)
      have r5 : 0 ≤ ((V3 0 2)).toInt ∧ ((V3 0 2)).toInt ≤ 4000 := hMV3 0 2
      refine lv_iload_n hx hb dX12_lay_3 rfl (lv_at hl 0 rfl) ?_
      refine lv_if_lt (tgt := 75) hx hb dX12_lay_4 (by decide) (fun c6 => ?_) (fun c6 => ?_)
      · skip
        have f7 : y2.toInt < 0 := b_lt rfl (by decide) c6
        exact W.vret hx hb hr (fun t ht hW => ⟨⟨(V3, L), rfl, ⟨hMV3, agV3, rfl, (by have hz : jg = 0 := (by omega); subst hz; have hz2 : kg = apm 8 p0 k0 := xlp4_4; show (V3 0 2).toInt = _; rw [← hz2]; omega)⟩, by rw [ht]; exact hP, va_K.moved hW.alike hK, hD⟩, hS.F ht⟩) hS.2.2 dX12_lay_75
      · skip
        have f8 : 0 ≤ y2.toInt := b_nlt rfl (by decide) c6
        obtain ⟨j, rfl⟩ : ∃ j, jg = j + 1 := ⟨jg - 1, by omega⟩
        refine lv_lload_n hx hb dX12_lay_7 rfl (lv_at hl 2 rfl) ?_
        refine lv_iload_n hx hb dX12_lay_8 rfl (lv_at hl 0 rfl) ?_
        refine lv_lshr hx hb dX12_lay_9 rfl ?_
        refine lv_topl (fun w9 ew9 => ?_)
        refine lv_l2i hx hb dX12_lay_10 rfl ?_
        refine lv_topi (fun z10 ez10 => ?_)
        refine lv_sipush (v := 255) hx hb dX12_lay_11 (by decide) ?_
        refine lv_iand hx hb dX12_lay_14 ?_
        refine lv_topi (fun z11 ez11 => ?_)
        have hz11 : 0 ≤ z11.toInt ∧ z11.toInt ≤ 255 := and_m ez11 (by decide)
        have es : z11 = sgm p0 y2 := by rw [ez11, ez10, ew9]; rfl
        have ey : y2 = shv (j + 1) := Int32.toInt_inj.mp (by rw [shv_toInt (j + 1) (by omega)]; omega)
        refine lv_istore (lv' := [(4, .int z11), (3, .int y2), (0, .ref (ad 0)), (1, .long p0)]) hx hb dX12_lay_15 hl (by decide) rfl (fun ls hl => ?_)
        refine lv_iload hx hb dX12_lay_17 (lv_at hl 0 rfl) ?_
        refine lv_bipush (v := 10) hx hb dX12_lay_19 (by decide) ?_
        refine lv_icmp_eq (tgt := 38) hx hb dX12_lay_21 (by decide) (fun c12 => ?_) (fun c12 => ?_)
        · skip
          have f13 : z11.toInt = 10 := b_eq rfl (by decide) c12
          refine lv_aload_n hx hb dX12_lay_38 rfl (lv_at hl 2 rfl) ?_
          refine va_get (D := D) (ci := 12) (v := .int (V3 0 2)) (C := RX12) (T := TX12) (N := 100) hx hb hg inX12 hown hK hP 0 rfl rfl 2 (by decide) (hg _ w1708) (fun _ h9 => h9) rfl dX12_lay_39 ?_
          refine lv_sipush (v := 4000) hx hb dX12_lay_42 (by decide) ?_
          refine lv_icmp_ge (tgt := 69) hx hb dX12_lay_45 (by decide) (fun c14 => ?_) (fun c14 => ?_)
          · skip
            have f15 : 4000 ≤ ((V3 0 2)).toInt := b_le (by decide) rfl c14
            obtain ⟨z16, ez16⟩ : ∃ y : Int32, y = y2 + (-8) := ⟨_, rfl⟩
            have hz16 : z16.toInt = y2.toInt + (-8) := i_add ez16 rfl (by decide) (by omega)
            refine lv_iinc (v := z16) (lv' := [(3, .int z16), (4, .int z11), (0, .ref (ad 0)), (1, .long p0)]) hx hb dX12_lay_69 hl (k := 1) rfl (by rw [ez16]; rfl) (by decide) rfl (fun ls hl => ?_)
            refine lv_goto (tgt := 3) hx hb dX12_lay_72 (by decide) ?_
            exact ihlp4 (j) (kg) z16 V3 H locs ls (by omega) (show z16.toInt = 8 * ((j : Nat) : Int) - 8 from by omega) (show j ≤ 8 from by omega) (show (V3 0 2).toInt = ((kg : Nat) : Int) from by omega) (show kg ≤ 4000 from by omega) (by rw [← xlp4_4]; show _ = apm j p0 (stp (sgm p0 (shv (j + 1))) kg); rw [← ey, ← es, stp_j (by omega)]) (by omega) (agr.tr agr.rf ajV3 (by decide) (by decide)) hMV3 hP hD hS (lv_sub hl [0, 2, 3] rfl)
          · skip
            have f17 : ((V3 0 2)).toInt < 4000 := b_nle (by decide) rfl c14
            refine lv_aload_n hx hb dX12_lay_48 rfl (lv_at hl 2 rfl) ?_
            refine va_get (D := D) (ci := 12) (v := .ref (ad 1)) (C := RX12) (T := TX12) (N := 100) hx hb hg inX12 hown hK hP 0 rfl rfl 1 (by decide) (hg _ w1707) (fun _ h9 => h9) rfl dX12_lay_49 ?_
            refine lv_aload_n hx hb dX12_lay_52 rfl (lv_at hl 2 rfl) ?_
            refine va_get (D := D) (ci := 12) (v := .int (V3 0 2)) (C := RX12) (T := TX12) (N := 100) hx hb hg inX12 hown hK hP 0 rfl rfl 2 (by decide) (hg _ w1708) (fun _ h9 => h9) rfl dX12_lay_53 ?_
            refine lv_iload hx hb dX12_lay_56 (lv_at hl 0 rfl) ?_
            refine va_iast (D := D) (i := (V3 0 2)) (x := z11) hx hb hK hP hD hS 1 0 rfl rfl (i_in (a := ((V3 0 2)).toInt) rfl (by omega)) dX12_lay_58 (fun H locs hP hD hS => ?_)
            obtain ⟨V18, hV18⟩ : ∃ z, z = up2 V3 1 (Int32.toNatClampNeg (V3 0 2)) z11 := ⟨_, rfl⟩
            have hP : va_P D vwCl (mw ad kk ks.1 V18 L) H := by rw [hV18]; exact hP
            have hD : va_D A (mw ad kk ks.1 V18 L) := by rw [hV18]; exact hD
            have hMV18 : rgd bM V18 := hMV3.put hV18 (i_full _)
            have agV18 : agr [(0, 2)] [1] V V18 := agV3.up hV18 rfl
            refine lv_aload_n hx hb dX12_lay_59 rfl (lv_at hl 2 rfl) ?_
            refine lv_dup hx hb dX12_lay_60 rfl ?_
            refine va_get (D := D) (ci := 12) (v := .int (V18 0 2)) (C := RX12) (T := TX12) (N := 100) hx hb hg inX12 hown hK hP 0 rfl rfl 2 (by decide) (hg _ w1708) (fun _ h9 => h9) rfl dX12_lay_61 ?_
            refine g_top (v := (V3 0 2)) (up2_o hV18 (by decide)) ?_
            refine lv_iconst (v := 1) hx hb dX12_lay_64 (by decide) ?_
            refine lv_iadd hx hb dX12_lay_65 ?_
            refine lv_topi (fun z19 ez19 => ?_)
            have hz19 : z19.toInt = ((V3 0 2)).toInt + 1 := i_add ez19 rfl (by decide) (by omega)
            refine va_put (D := D) (ci := 12) (v := .int z19) (ty := tyX12 2) (C := RX12) (T := TX12) (N := 100) hx hb hg inX12 tyX12 tyX12_ok nmX12 hown hK hP hD hS 0 rfl rfl 2 (by decide) (hg _ w1708) (fun _ h9 => h9) rfl (tyX12_ok 2 (by decide)) rfl rfl (Nat.le_of_ble_eq_true rfl) dX12_lay_66 (fun H locs hP hD hS => ?_)
            obtain ⟨V20, hV20⟩ : ∃ z, z = up2 V18 0 2 z19 := ⟨_, rfl⟩
            have hP : va_P D vwCl (mw ad kk ks.1 V20 L) H := by rw [hV20]; exact hP
            have hD : va_D A (mw ad kk ks.1 V20 L) := by rw [hV20]; exact hD
            have hMV20 : rgd bM V20 := hMV18.put hV20 (show 0 ≤ z19.toInt ∧ z19.toInt ≤ 4000 from by omega)
            have agV20 : agr [(0, 2)] [1] V V20 := agV18.up hV20 rfl
            obtain ⟨z21, ez21⟩ : ∃ y : Int32, y = y2 + (-8) := ⟨_, rfl⟩
            have hz21 : z21.toInt = y2.toInt + (-8) := i_add ez21 rfl (by decide) (by omega)
            refine lv_iinc (v := z21) (lv' := [(3, .int z21), (4, .int z11), (0, .ref (ad 0)), (1, .long p0)]) hx hb dX12_lay_69 hl (k := 1) rfl (by rw [ez21]; rfl) (by decide) rfl (fun ls hl => ?_)
            refine lv_goto (tgt := 3) hx hb dX12_lay_72 (by decide) ?_
            have pq22 : (V20 0 2).toInt = z19.toInt := congrArg Int32.toInt (up2_s hV20)
            exact ihlp4 (j) (kg + 1) z21 V20 H locs ls (by omega) (show z21.toInt = 8 * ((j : Nat) : Int) - 8 from by omega) (show j ≤ 8 from by omega) (show (V20 0 2).toInt = ((kg + 1 : Nat) : Int) from by omega) (show kg + 1 ≤ 4000 from by omega) (by rw [← xlp4_4]; show _ = apm j p0 (stp (sgm p0 (shv (j + 1))) kg); rw [← ey, ← es, stp_i (by omega) (by omega)]) (by omega) (agr.up (agr.up (agr.tr agr.rf ajV3 (by decide) (by decide)) hV18 rfl) hV20 rfl) hMV20 hP hD hS (lv_sub hl [0, 2, 3] rfl)
        · skip
          have f23 : z11.toInt ≠ 10 := b_neq rfl (by decide) c12
          refine lv_iload hx hb dX12_lay_24 (lv_at hl 0 rfl) ?_
          refine lv_bipush (v := 32) hx hb dX12_lay_26 (by decide) ?_
          refine lv_icmp_lt (tgt := 69) hx hb dX12_lay_28 (by decide) (fun c24 => ?_) (fun c24 => ?_)
          · skip
            have f25 : z11.toInt < 32 := b_lt rfl (by decide) c24
            obtain ⟨z26, ez26⟩ : ∃ y : Int32, y = y2 + (-8) := ⟨_, rfl⟩
            have hz26 : z26.toInt = y2.toInt + (-8) := i_add ez26 rfl (by decide) (by omega)
            refine lv_iinc (v := z26) (lv' := [(3, .int z26), (4, .int z11), (0, .ref (ad 0)), (1, .long p0)]) hx hb dX12_lay_69 hl (k := 1) rfl (by rw [ez26]; rfl) (by decide) rfl (fun ls hl => ?_)
            refine lv_goto (tgt := 3) hx hb dX12_lay_72 (by decide) ?_
            exact ihlp4 (j) (kg) z26 V3 H locs ls (by omega) (show z26.toInt = 8 * ((j : Nat) : Int) - 8 from by omega) (show j ≤ 8 from by omega) (show (V3 0 2).toInt = ((kg : Nat) : Int) from by omega) (show kg ≤ 4000 from by omega) (by rw [← xlp4_4]; show _ = apm j p0 (stp (sgm p0 (shv (j + 1))) kg); rw [← ey, ← es, stp_j (by omega)]) (by omega) (agr.tr agr.rf ajV3 (by decide) (by decide)) hMV3 hP hD hS (lv_sub hl [0, 2, 3] rfl)
          · skip
            have f27 : 32 ≤ z11.toInt := b_nlt rfl (by decide) c24
            refine lv_iload hx hb dX12_lay_31 (lv_at hl 0 rfl) ?_
            refine lv_bipush (v := 126) hx hb dX12_lay_33 (by decide) ?_
            refine lv_icmp_gt (tgt := 69) hx hb dX12_lay_35 (by decide) (fun c28 => ?_) (fun c28 => ?_)
            · skip
              have f29 : 126 < z11.toInt := b_lt (by decide) rfl c28
              obtain ⟨z30, ez30⟩ : ∃ y : Int32, y = y2 + (-8) := ⟨_, rfl⟩
              have hz30 : z30.toInt = y2.toInt + (-8) := i_add ez30 rfl (by decide) (by omega)
              refine lv_iinc (v := z30) (lv' := [(3, .int z30), (4, .int z11), (0, .ref (ad 0)), (1, .long p0)]) hx hb dX12_lay_69 hl (k := 1) rfl (by rw [ez30]; rfl) (by decide) rfl (fun ls hl => ?_)
              refine lv_goto (tgt := 3) hx hb dX12_lay_72 (by decide) ?_
              exact ihlp4 (j) (kg) z30 V3 H locs ls (by omega) (show z30.toInt = 8 * ((j : Nat) : Int) - 8 from by omega) (show j ≤ 8 from by omega) (show (V3 0 2).toInt = ((kg : Nat) : Int) from by omega) (show kg ≤ 4000 from by omega) (by rw [← xlp4_4]; show _ = apm j p0 (stp (sgm p0 (shv (j + 1))) kg); rw [← ey, ← es, stp_j (by omega)]) (by omega) (agr.tr agr.rf ajV3 (by decide) (by decide)) hMV3 hP hD hS (lv_sub hl [0, 2, 3] rfl)
            · skip
              have f31 : z11.toInt ≤ 126 := b_nlt (by decide) rfl c28
              refine lv_aload_n hx hb dX12_lay_38 rfl (lv_at hl 2 rfl) ?_
              refine va_get (D := D) (ci := 12) (v := .int (V3 0 2)) (C := RX12) (T := TX12) (N := 100) hx hb hg inX12 hown hK hP 0 rfl rfl 2 (by decide) (hg _ w1708) (fun _ h9 => h9) rfl dX12_lay_39 ?_
              refine lv_sipush (v := 4000) hx hb dX12_lay_42 (by decide) ?_
              refine lv_icmp_ge (tgt := 69) hx hb dX12_lay_45 (by decide) (fun c32 => ?_) (fun c32 => ?_)
              · skip
                have f33 : 4000 ≤ ((V3 0 2)).toInt := b_le (by decide) rfl c32
                obtain ⟨z34, ez34⟩ : ∃ y : Int32, y = y2 + (-8) := ⟨_, rfl⟩
                have hz34 : z34.toInt = y2.toInt + (-8) := i_add ez34 rfl (by decide) (by omega)
                refine lv_iinc (v := z34) (lv' := [(3, .int z34), (4, .int z11), (0, .ref (ad 0)), (1, .long p0)]) hx hb dX12_lay_69 hl (k := 1) rfl (by rw [ez34]; rfl) (by decide) rfl (fun ls hl => ?_)
                refine lv_goto (tgt := 3) hx hb dX12_lay_72 (by decide) ?_
                exact ihlp4 (j) (kg) z34 V3 H locs ls (by omega) (show z34.toInt = 8 * ((j : Nat) : Int) - 8 from by omega) (show j ≤ 8 from by omega) (show (V3 0 2).toInt = ((kg : Nat) : Int) from by omega) (show kg ≤ 4000 from by omega) (by rw [← xlp4_4]; show _ = apm j p0 (stp (sgm p0 (shv (j + 1))) kg); rw [← ey, ← es, stp_j (by omega)]) (by omega) (agr.tr agr.rf ajV3 (by decide) (by decide)) hMV3 hP hD hS (lv_sub hl [0, 2, 3] rfl)
              · skip
                have f35 : ((V3 0 2)).toInt < 4000 := b_nle (by decide) rfl c32
                refine lv_aload_n hx hb dX12_lay_48 rfl (lv_at hl 2 rfl) ?_
                refine va_get (D := D) (ci := 12) (v := .ref (ad 1)) (C := RX12) (T := TX12) (N := 100) hx hb hg inX12 hown hK hP 0 rfl rfl 1 (by decide) (hg _ w1707) (fun _ h9 => h9) rfl dX12_lay_49 ?_
                refine lv_aload_n hx hb dX12_lay_52 rfl (lv_at hl 2 rfl) ?_
                refine va_get (D := D) (ci := 12) (v := .int (V3 0 2)) (C := RX12) (T := TX12) (N := 100) hx hb hg inX12 hown hK hP 0 rfl rfl 2 (by decide) (hg _ w1708) (fun _ h9 => h9) rfl dX12_lay_53 ?_
                refine lv_iload hx hb dX12_lay_56 (lv_at hl 0 rfl) ?_
                refine va_iast (D := D) (i := (V3 0 2)) (x := z11) hx hb hK hP hD hS 1 0 rfl rfl (i_in (a := ((V3 0 2)).toInt) rfl (by omega)) dX12_lay_58 (fun H locs hP hD hS => ?_)
                obtain ⟨V36, hV36⟩ : ∃ z, z = up2 V3 1 (Int32.toNatClampNeg (V3 0 2)) z11 := ⟨_, rfl⟩
                have hP : va_P D vwCl (mw ad kk ks.1 V36 L) H := by rw [hV36]; exact hP
                have hD : va_D A (mw ad kk ks.1 V36 L) := by rw [hV36]; exact hD
                have hMV36 : rgd bM V36 := hMV3.put hV36 (i_full _)
                have agV36 : agr [(0, 2)] [1] V V36 := agV3.up hV36 rfl
                refine lv_aload_n hx hb dX12_lay_59 rfl (lv_at hl 2 rfl) ?_
                refine lv_dup hx hb dX12_lay_60 rfl ?_
                refine va_get (D := D) (ci := 12) (v := .int (V36 0 2)) (C := RX12) (T := TX12) (N := 100) hx hb hg inX12 hown hK hP 0 rfl rfl 2 (by decide) (hg _ w1708) (fun _ h9 => h9) rfl dX12_lay_61 ?_
                refine g_top (v := (V3 0 2)) (up2_o hV36 (by decide)) ?_
                refine lv_iconst (v := 1) hx hb dX12_lay_64 (by decide) ?_
                refine lv_iadd hx hb dX12_lay_65 ?_
                refine lv_topi (fun z37 ez37 => ?_)
                have hz37 : z37.toInt = ((V3 0 2)).toInt + 1 := i_add ez37 rfl (by decide) (by omega)
                refine va_put (D := D) (ci := 12) (v := .int z37) (ty := tyX12 2) (C := RX12) (T := TX12) (N := 100) hx hb hg inX12 tyX12 tyX12_ok nmX12 hown hK hP hD hS 0 rfl rfl 2 (by decide) (hg _ w1708) (fun _ h9 => h9) rfl (tyX12_ok 2 (by decide)) rfl rfl (Nat.le_of_ble_eq_true rfl) dX12_lay_66 (fun H locs hP hD hS => ?_)
                obtain ⟨V38, hV38⟩ : ∃ z, z = up2 V36 0 2 z37 := ⟨_, rfl⟩
                have hP : va_P D vwCl (mw ad kk ks.1 V38 L) H := by rw [hV38]; exact hP
                have hD : va_D A (mw ad kk ks.1 V38 L) := by rw [hV38]; exact hD
                have hMV38 : rgd bM V38 := hMV36.put hV38 (show 0 ≤ z37.toInt ∧ z37.toInt ≤ 4000 from by omega)
                have agV38 : agr [(0, 2)] [1] V V38 := agV36.up hV38 rfl
                obtain ⟨z39, ez39⟩ : ∃ y : Int32, y = y2 + (-8) := ⟨_, rfl⟩
                have hz39 : z39.toInt = y2.toInt + (-8) := i_add ez39 rfl (by decide) (by omega)
                refine lv_iinc (v := z39) (lv' := [(3, .int z39), (4, .int z11), (0, .ref (ad 0)), (1, .long p0)]) hx hb dX12_lay_69 hl (k := 1) rfl (by rw [ez39]; rfl) (by decide) rfl (fun ls hl => ?_)
                refine lv_goto (tgt := 3) hx hb dX12_lay_72 (by decide) ?_
                have pq40 : (V38 0 2).toInt = z37.toInt := congrArg Int32.toInt (up2_s hV38)
                exact ihlp4 (j) (kg + 1) z39 V38 H locs ls (by omega) (show z39.toInt = 8 * ((j : Nat) : Int) - 8 from by omega) (show j ≤ 8 from by omega) (show (V38 0 2).toInt = ((kg + 1 : Nat) : Int) from by omega) (show kg + 1 ≤ 4000 from by omega) (by rw [← xlp4_4]; show _ = apm j p0 (stp (sgm p0 (shv (j + 1))) kg); rw [← ey, ← es, stp_i (by omega) (by omega)]) (by omega) (agr.up (agr.up (agr.tr agr.rf ajV3 (by decide) (by decide)) hV36 rfl) hV38 rfl) hMV38 hP hD hS (lv_sub hl [0, 2, 3] rfl)
  have r41 : Int32.toInt 56 = 56 := by decide
  exact lp4 (((Int32.toInt 56) + 8 + 1 : Int).toNat) (8) (k0) 56 V H locs ls (by decide) (show (Int32.toInt 56) = 8 * ((8 : Nat) : Int) - 8 from by omega) (show 8 ≤ 8 from by omega) (show (V 0 2).toInt = ((k0 : Nat) : Int) from by omega) (show k0 ≤ 4000 from by omega) rfl (by omega) agr.rf hMV hP hD hS (lv_sub hl [0, 1, 2] rfl)
abbrev r_s_feed : Room := { frames := 1, cells := 0, slots := 0, locals := 24 }
abbrev q_s_feed (D : va_G) (ks : KS) (ad : Nat → Nat) (kk : Nat → ClassId) (V : Vf) (L : Lf) (p0 : Int64) (p1 : Int64) (p2 : Int64) (k0 : Nat) (A : Nat → Prop) : Array Value → State → Outcome → State → Prop := va_Qi (fun (r : Int32) (u : Vf × Lf) => rgd bM u.1 ∧ agr [(0, 0), (0, 2)] [1] V u.1 ∧ u.2 = L ∧ (r.toInt = ((apm 8 p2 (apm 8 p1 (apm 8 p0 k0)) : Nat) : Int)) ∧ ((u.1 0 2).toInt = ((apm 8 p2 (apm 8 p1 (apm 8 p0 k0)) : Nat) : Int))) (fun u t => gq D A (mw ad kk ks.1 u.1 u.2) (mty kk) t) A
set_option maxHeartbeats 4000000 in
set_option maxRecDepth 100000 in
theorem s_feed (l : Launch) (D : va_G) (ks : KS) (sz : Nat) (ad : Nat → Nat) (kk : Nat → ClassId) (V : Vf) (L : Lf) (p0 : Int64) (p1 : Int64) (p2 : Int64) (k0 : Nat) (hMV : rgd bM V) (y1 : (V 0 2).toInt = (k0 : Int))  : Met l yX12_feed (Cond.code yX12_feed cX12_feed 7 (some .int) :: GW) r_s_feed (va_Pc [.ref (ad 0), .long p0, .long p1, .long p2] (gp D ks (mw ad kk ks.1 V L) (mty kk) sz)) (q_s_feed D ks ad kk V L p0 p1 p2 k0 (va_A (mw ad kk ks.1 V L) sz)) 0 0 (va_A (mw ad kk ks.1 V L) sz) := by
  refine g_met (q_s_feed D ks ad kk V L p0 p1 p2 k0) (by decide) (Nat.le_of_ble_eq_true rfl) ?_
  intro p e s m below meth c A ls H locs hx hb hr hml hown hg hlocks hin hnw hgk hP hK hD hS hA hl
  have hown : s.vm.findClass RX12 = some m.cls := hown
  have hl : lv_has ls 7 [(0, .ref (ad 0)), (1, .long p0), (3, .long p1), (5, .long p2)] := hl
  have hP : va_P D vwCl (mw ad kk ks.1 V L) H := hP
  have hD : va_D A (mw ad kk ks.1 V L) := hD
  have hK : va_K D vwCl (mty kk) s := hK
  have agV : agr [(0, 0), (0, 2)] [1] V V := agr.rf
  have r1 : 0 ≤ ((V 0 2)).toInt ∧ ((V 0 2)).toInt ≤ 4000 := hMV 0 2
  refine lv_aload_n hx hb dX12_feed_0 rfl (lv_at hl 0 rfl) ?_
  refine lv_iconst (v := 0) hx hb dX12_feed_1 (by decide) ?_
  refine va_put (D := D) (ci := 12) (v := .int 0) (ty := tyX12 0) (C := RX12) (T := TX12) (N := 100) hx hb hg inX12 tyX12 tyX12_ok nmX12 hown hK hP hD hS 0 rfl rfl 0 (by decide) (hg _ w1706) (fun _ h9 => h9) rfl (tyX12_ok 0 (by decide)) rfl rfl (Nat.le_of_ble_eq_true rfl) dX12_feed_2 (fun H locs hP hD hS => ?_)
  obtain ⟨V2, hV2⟩ : ∃ z, z = up2 V 0 0 0 := ⟨_, rfl⟩
  have hP : va_P D vwCl (mw ad kk ks.1 V2 L) H := by rw [hV2]; exact hP
  have hD : va_D A (mw ad kk ks.1 V2 L) := by rw [hV2]; exact hD
  have hMV2 : rgd bM V2 := hMV.put hV2 (i_full _)
  have agV2 : agr [(0, 0), (0, 2)] [1] V V2 := agV.up hV2 rfl
  refine lv_aload_n hx hb dX12_feed_5 rfl (lv_at hl 0 rfl) ?_
  refine lv_lload_n hx hb dX12_feed_6 rfl (lv_at hl 1 rfl) ?_
  have pq3 : (V2 0 2).toInt = ((V 0 2)).toInt := congrArg Int32.toInt (up2_k hV2 (by decide))
  refine gA_void (gA_runV (As := [.long p0]) (rest := []) (ci := 12) (q0 := 0) hx hb hml hown hg hP hD hK hS hA hnw hgk (s_lay l D ks H.size ad kk V2 L p0 (k0) hMV2 (show (V2 0 2).toInt = ((k0) : Int) from by omega)) w1685 w1687 w81 w172 w1689 rfl rfl hdV_yX12_lay ⟨Nat.le_of_ble_eq_true rfl, Nat.le_of_ble_eq_true rfl⟩ rfl hl.1 rfl (Nat.le_of_ble_eq_true rfl) dX12_feed_7 ⟨Nat.le_of_ble_eq_true rfl, Nat.le_of_ble_eq_true rfl⟩) hP hD hK hS hA (fun u5 H locs w6 hP hD hK hS => ?_)
  obtain ⟨V8, L9⟩ := u5
  obtain ⟨hMV8, ajV8, axL9, t7⟩ := w6
  have axL9 : L = L9 := Eq.symm axL9
  subst axL9
  have hP : va_P D vwCl (mw ad kk ks.1 V8 L) H := hP
  have hD : va_D A (mw ad kk ks.1 V8 L) := hD
  have hMV8 : rgd bM V8 := hMV8
  have ajV8 : agr [(0, 2)] [1] V2 V8 := ajV8
  have agV8 : agr [(0, 0), (0, 2)] [1] V V8 := agV2.tr ajV8 (by decide) (by decide)
  have t7 : (V8 0 2).toInt = ((apm 8 (p0) (k0) : Nat) : Int) := t7
  have r10 : 0 ≤ ((V8 0 2)).toInt ∧ ((V8 0 2)).toInt ≤ 4000 := hMV8 0 2
  refine lv_aload_n hx hb dX12_feed_10 rfl (lv_at hl 0 rfl) ?_
  refine lv_lload_n hx hb dX12_feed_11 rfl (lv_at hl 2 rfl) ?_
  refine gA_void (gA_runV (As := [.long p1]) (rest := []) (ci := 12) (q0 := 0) hx hb hml hown hg hP hD hK hS hA hnw hgk (s_lay l D ks H.size ad kk V8 L p1 (apm 8 p0 k0) hMV8 (show (V8 0 2).toInt = ((apm 8 p0 k0) : Int) from by omega)) w1685 w1687 w81 w172 w1689 rfl rfl hdV_yX12_lay ⟨Nat.le_of_ble_eq_true rfl, Nat.le_of_ble_eq_true rfl⟩ rfl hl.1 rfl (Nat.le_of_ble_eq_true rfl) dX12_feed_12 ⟨Nat.le_of_ble_eq_true rfl, Nat.le_of_ble_eq_true rfl⟩) hP hD hK hS hA (fun u12 H locs w13 hP hD hK hS => ?_)
  obtain ⟨V15, L16⟩ := u12
  obtain ⟨hMV15, ajV15, axL16, t14⟩ := w13
  have axL16 : L = L16 := Eq.symm axL16
  subst axL16
  have hP : va_P D vwCl (mw ad kk ks.1 V15 L) H := hP
  have hD : va_D A (mw ad kk ks.1 V15 L) := hD
  have hMV15 : rgd bM V15 := hMV15
  have ajV15 : agr [(0, 2)] [1] V8 V15 := ajV15
  have agV15 : agr [(0, 0), (0, 2)] [1] V V15 := agV8.tr ajV15 (by decide) (by decide)
  have t14 : (V15 0 2).toInt = ((apm 8 (p1) (apm 8 p0 k0) : Nat) : Int) := t14
  have r17 : 0 ≤ ((V15 0 2)).toInt ∧ ((V15 0 2)).toInt ≤ 4000 := hMV15 0 2
  refine lv_aload_n hx hb dX12_feed_15 rfl (lv_at hl 0 rfl) ?_
  refine lv_lload hx hb dX12_feed_16 (lv_at hl 3 rfl) ?_
  refine gA_void (gA_runV (As := [.long p2]) (rest := []) (ci := 12) (q0 := 0) hx hb hml hown hg hP hD hK hS hA hnw hgk (s_lay l D ks H.size ad kk V15 L p2 (apm 8 p1 (apm 8 p0 k0)) hMV15 (show (V15 0 2).toInt = ((apm 8 p1 (apm 8 p0 k0)) : Int) from by omega)) w1685 w1687 w81 w172 w1689 rfl rfl hdV_yX12_lay ⟨Nat.le_of_ble_eq_true rfl, Nat.le_of_ble_eq_true rfl⟩ rfl hl.1 rfl (Nat.le_of_ble_eq_true rfl) dX12_feed_18 ⟨Nat.le_of_ble_eq_true rfl, Nat.le_of_ble_eq_true rfl⟩) hP hD hK hS hA (fun u19 H locs w20 hP hD hK hS => ?_)
  obtain ⟨V22, L23⟩ := u19
  obtain ⟨hMV22, ajV22, axL23, t21⟩ := w20
  have axL23 : L = L23 := Eq.symm axL23
  subst axL23
  have hP : va_P D vwCl (mw ad kk ks.1 V22 L) H := hP
  have hD : va_D A (mw ad kk ks.1 V22 L) := hD
  have hMV22 : rgd bM V22 := hMV22
  have ajV22 : agr [(0, 2)] [1] V15 V22 := ajV22
  have agV22 : agr [(0, 0), (0, 2)] [1] V V22 := agV15.tr ajV22 (by decide) (by decide)
  have t21 : (V22 0 2).toInt = ((apm 8 (p2) (apm 8 p1 (apm 8 p0 k0)) : Nat) : Int) := t21
  have r24 : 0 ≤ ((V22 0 2)).toInt ∧ ((V22 0 2)).toInt ≤ 4000 := hMV22 0 2
  refine lv_aload_n hx hb dX12_feed_21 rfl (lv_at hl 0 rfl) ?_
  refine va_get (D := D) (ci := 12) (v := .int (V22 0 2)) (C := RX12) (T := TX12) (N := 100) hx hb hg inX12 hown hK hP 0 rfl rfl 2 (by decide) (hg _ w1708) (fun _ h9 => h9) rfl dX12_feed_22 ?_
  exact W.iret (v := (V22 0 2)) hx hb hr (fun t ht hW => ⟨⟨(V22 0 2), (V22, L), rfl, ⟨hMV22, agV22, rfl, (show ((V22 0 2)).toInt = ((apm 8 p2 (apm 8 p1 (apm 8 p0 k0)) : Nat) : Int) from by omega), (show (V22 0 2).toInt = ((apm 8 p2 (apm 8 p1 (apm 8 p0 k0)) : Nat) : Int) from by omega)⟩, by rw [ht]; exact hP, va_K.moved hW.alike hK, hD⟩, hS.F ht⟩) hS.2.2 dX12_feed_25
