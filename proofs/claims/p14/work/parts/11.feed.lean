/-! how the tape grows: its length, eight signs of a long (the class shifts by >>>, the reference by >>) -/
def shv (n : Nat) : Int32 := Int32.ofInt (8 * (n : Int) - 8)
def sgc (v : Int64) (y : Int32) : Int32 := ((v.toUInt64 >>> (y.toInt64.toUInt64 &&& Int64.toUInt64 63)).toInt64).toInt32 &&& 255
def sgm (v : Int64) (y : Int32) : Int32 := (v >>> (y.toInt64 &&& 63)).toInt32 &&& 255
def stp (s : Int32) (k : Nat) : Nat := if (s = 10 ∨ (32 ≤ s ∧ s ≤ 126)) ∧ k < 4000 then k + 1 else k
def apk : Nat → Int64 → Nat → Nat
  | 0, _, k => k
  | n + 1, v, k => apk n v (stp (sgc v (shv (n + 1))) k)
def apm : Nat → Int64 → Nat → Nat
  | 0, _, k => k
  | n + 1, v, k => apm n v (stp (sgm v (shv (n + 1))) k)
/-! the eight signs of a long: >>> and >> give the same low bytes -/
theorem sg_bits (v z w : BitVec 64) (k : Nat) (hz : z.toNat = k) (hw : w.toNat = k) (hk : k ≤ 56) : ((v >>> z).signExtend 32 &&& (255 : Int32).toBitVec) = ((v.sshiftRight' w).signExtend 32 &&& (255 : Int32).toBitVec) := by
  apply BitVec.eq_of_getLsbD_eq
  intro i hi
  rw [BitVec.getLsbD_and, BitVec.getLsbD_and]
  by_cases h8 : i < 8
  · have h1 : k + i < 64 := by omega
    have h2 : ¬ 64 ≤ i := by omega
    have h3 : i < 64 := by omega
    have e : ((v >>> z).signExtend 32).getLsbD i = ((v.sshiftRight' w).signExtend 32).getLsbD i := by
      rw [BitVec.getLsbD_signExtend, BitVec.getLsbD_signExtend, BitVec.getLsbD_sshiftRight', hw, BitVec.ushiftRight_eq', hz, BitVec.getLsbD_ushiftRight, if_pos h3, if_pos h3, if_pos h1]
      simp [h2]
    rw [e]
  · have h4 : ∀ j, j < 32 → ¬ j < 8 → ((255 : Int32).toBitVec).getLsbD j = false := by decide +kernel
    rw [h4 i hi h8, Bool.and_false, Bool.and_false]
theorem sg_z : ∀ n, n < 8 → ((((shv (n + 1)).toInt64.toUInt64 &&& Int64.toUInt64 63) % 64).toBitVec).toNat = 8 * n := by decide +kernel
theorem sg_w : ∀ n, n < 8 → (((shv (n + 1)).toInt64 &&& 63).toBitVec.smod 64).toNat = 8 * n := by decide +kernel
theorem sgc_bv (v : Int64) (y : Int32) : (sgc v y).toBitVec = ((v.toBitVec >>> ((y.toInt64.toUInt64 &&& Int64.toUInt64 63) % 64).toBitVec).signExtend 32 &&& (255 : Int32).toBitVec) := rfl
theorem sgm_bv (v : Int64) (y : Int32) : (sgm v y).toBitVec = ((v.toBitVec.sshiftRight' ((y.toInt64 &&& 63).toBitVec.smod 64)).signExtend 32 &&& (255 : Int32).toBitVec) := rfl
theorem sgc_sgm (v : Int64) (n : Nat) (hn : n < 8) : sgc v (shv (n + 1)) = sgm v (shv (n + 1)) :=
  Int32.toBitVec_inj.mp (by rw [sgc_bv, sgm_bv]; exact sg_bits v.toBitVec _ _ (8 * n) (sg_z n hn) (sg_w n hn) (by omega))
theorem apk_apm : ∀ (n : Nat) (v : Int64) (k : Nat), n ≤ 8 → apk n v k = apm n v k
  | 0, _, _, _ => rfl
  | n + 1, v, k, h => by
    show apk n v (stp (sgc v (shv (n + 1))) k) = apm n v (stp (sgm v (shv (n + 1))) k)
    rw [sgc_sgm v n (by omega)]
    exact apk_apm n v _ (by omega)
theorem apk_apm8 (v : Int64) (k : Nat) : apk 8 v k = apm 8 v k := apk_apm 8 v k (Nat.le_refl 8)
theorem shv_toInt : ∀ n, n < 9 → (shv n).toInt = 8 * (n : Int) - 8 := by decide +kernel
theorem stp_i {z : Int32} {k : Nat} (h : z.toInt = 10 ∨ (32 ≤ z.toInt ∧ z.toInt ≤ 126)) (hk : k < 4000) : stp z k = k + 1 := if_pos ⟨h.elim (fun q => Or.inl (Int32.toInt_inj.mp q)) (fun q => Or.inr ⟨Int32.le_iff_toInt_le.mpr q.1, Int32.le_iff_toInt_le.mpr q.2⟩), hk⟩
theorem stp_j {z : Int32} {k : Nat} (h : (z.toInt ≠ 10 ∧ (z.toInt < 32 ∨ 126 < z.toInt)) ∨ 4000 ≤ k) : stp z k = k := if_neg (fun q => by
  rcases h with h | h
  · rcases q.1 with r | r
    · exact h.1 (by rw [r]; rfl)
    · have r1 := Int32.le_iff_toInt_le.mp r.1
      have r2 := Int32.le_iff_toInt_le.mp r.2
      have e1 : (32 : Int32).toInt = 32 := rfl
      have e2 : (126 : Int32).toInt = 126 := rfl
      omega
  · exact absurd q.2 (by omega))

theorem w1689 : Cond.code yX12_lay cX12_lay 5 none ∈ GW := gw_k tk9_7 94 (rfl) rfl
theorem w1685 : Cond.methodLink RX12 7 yX12_lay ∈ GW := gw_k tk9_7 90 (by decide +kernel) rfl
theorem w1687 : Cond.instanceMethod yX12_lay ∈ GW := gw_k tk9_7 92 (by decide +kernel) rfl
theorem w81 : Cond.selects RX12 yX12_lay yX12_lay ∈ GW := gw_mem 81 (by decide +kernel) rfl
theorem hdV_yX12_lay : yX12_lay.cls = RX12 ∧ yX12_lay.cls ≠ "java/lang/invoke/MethodHandle" ∧ yX12_lay.cls ≠ "java/lang/invoke/VarHandle" ∧ (parseMethodDescriptor yX12_lay.desc).map (fun d => d.parameters.length) = some 1 := by decide +kernel
theorem dk9_dX12_lay_0_0 : dOk cX12_lay [(0, .bipush 56, 2), (2, .istore_n 3, 1), (3, .iload_n 3, 1), (4, .ifCond .lt 71, 3), (75, .return_, 1), (7, .lload_n 1, 1), (8, .iload_n 3, 1), (9, .lshr, 1), (10, .l2i, 1), (11, .sipush 255, 3), (14, .iand, 1), (15, .istore 4, 2), (17, .iload 4, 2), (19, .bipush 10, 2), (21, .if_icmp .eq 17, 3), (38, .aload_n 0, 1), (39, .getfield 11, 3), (42, .sipush 4000, 3), (45, .if_icmp .ge 24, 3), (69, .iinc 3 (-8), 3), (72, .goto (-69), 3), (48, .aload_n 0, 1), (49, .getfield 14, 3), (52, .aload_n 0, 1)] = true ∧ dOk cX12_lay [(53, .getfield 11, 3), (56, .iload 4, 2), (58, .iastore, 1), (59, .aload_n 0, 1), (60, .dup, 1), (61, .getfield 11, 3), (64, .iconst 1, 1), (65, .iadd, 1), (66, .putfield 11, 3), (24, .iload 4, 2), (26, .bipush 32, 2), (28, .if_icmp .lt 41, 3), (31, .iload 4, 2), (33, .bipush 126, 2), (35, .if_icmp .gt 34, 3)] = true := by decide +kernel
theorem dX12_lay_0 : decode cX12_lay 0 = .ok (.bipush 56, 2) := dr9 dk9_dX12_lay_0_0.1 0 (0, .bipush 56, 2) rfl
theorem dX12_lay_2 : decode cX12_lay 2 = .ok (.istore_n 3, 1) := dr9 dk9_dX12_lay_0_0.1 1 (2, .istore_n 3, 1) rfl
theorem dX12_lay_3 : decode cX12_lay 3 = .ok (.iload_n 3, 1) := dr9 dk9_dX12_lay_0_0.1 2 (3, .iload_n 3, 1) rfl
theorem dX12_lay_4 : decode cX12_lay 4 = .ok (.ifCond .lt 71, 3) := dr9 dk9_dX12_lay_0_0.1 3 (4, .ifCond .lt 71, 3) rfl
theorem dX12_lay_75 : decode cX12_lay 75 = .ok (.return_, 1) := dr9 dk9_dX12_lay_0_0.1 4 (75, .return_, 1) rfl
theorem dX12_lay_7 : decode cX12_lay 7 = .ok (.lload_n 1, 1) := dr9 dk9_dX12_lay_0_0.1 5 (7, .lload_n 1, 1) rfl
theorem dX12_lay_8 : decode cX12_lay 8 = .ok (.iload_n 3, 1) := dr9 dk9_dX12_lay_0_0.1 6 (8, .iload_n 3, 1) rfl
theorem dX12_lay_9 : decode cX12_lay 9 = .ok (.lshr, 1) := dr9 dk9_dX12_lay_0_0.1 7 (9, .lshr, 1) rfl
theorem dX12_lay_10 : decode cX12_lay 10 = .ok (.l2i, 1) := dr9 dk9_dX12_lay_0_0.1 8 (10, .l2i, 1) rfl
theorem dX12_lay_11 : decode cX12_lay 11 = .ok (.sipush 255, 3) := dr9 dk9_dX12_lay_0_0.1 9 (11, .sipush 255, 3) rfl
theorem dX12_lay_14 : decode cX12_lay 14 = .ok (.iand, 1) := dr9 dk9_dX12_lay_0_0.1 10 (14, .iand, 1) rfl
theorem dX12_lay_15 : decode cX12_lay 15 = .ok (.istore 4, 2) := dr9 dk9_dX12_lay_0_0.1 11 (15, .istore 4, 2) rfl
theorem dX12_lay_17 : decode cX12_lay 17 = .ok (.iload 4, 2) := dr9 dk9_dX12_lay_0_0.1 12 (17, .iload 4, 2) rfl
theorem dX12_lay_19 : decode cX12_lay 19 = .ok (.bipush 10, 2) := dr9 dk9_dX12_lay_0_0.1 13 (19, .bipush 10, 2) rfl
theorem dX12_lay_21 : decode cX12_lay 21 = .ok (.if_icmp .eq 17, 3) := dr9 dk9_dX12_lay_0_0.1 14 (21, .if_icmp .eq 17, 3) rfl
theorem dX12_lay_38 : decode cX12_lay 38 = .ok (.aload_n 0, 1) := dr9 dk9_dX12_lay_0_0.1 15 (38, .aload_n 0, 1) rfl
theorem dX12_lay_39 : decode cX12_lay 39 = .ok (.getfield 11, 3) := dr9 dk9_dX12_lay_0_0.1 16 (39, .getfield 11, 3) rfl
theorem dX12_lay_42 : decode cX12_lay 42 = .ok (.sipush 4000, 3) := dr9 dk9_dX12_lay_0_0.1 17 (42, .sipush 4000, 3) rfl
theorem dX12_lay_45 : decode cX12_lay 45 = .ok (.if_icmp .ge 24, 3) := dr9 dk9_dX12_lay_0_0.1 18 (45, .if_icmp .ge 24, 3) rfl
theorem dX12_lay_69 : decode cX12_lay 69 = .ok (.iinc 3 (-8), 3) := dr9 dk9_dX12_lay_0_0.1 19 (69, .iinc 3 (-8), 3) rfl
theorem dX12_lay_72 : decode cX12_lay 72 = .ok (.goto (-69), 3) := dr9 dk9_dX12_lay_0_0.1 20 (72, .goto (-69), 3) rfl
theorem dX12_lay_48 : decode cX12_lay 48 = .ok (.aload_n 0, 1) := dr9 dk9_dX12_lay_0_0.1 21 (48, .aload_n 0, 1) rfl
theorem dX12_lay_49 : decode cX12_lay 49 = .ok (.getfield 14, 3) := dr9 dk9_dX12_lay_0_0.1 22 (49, .getfield 14, 3) rfl
theorem dX12_lay_52 : decode cX12_lay 52 = .ok (.aload_n 0, 1) := dr9 dk9_dX12_lay_0_0.1 23 (52, .aload_n 0, 1) rfl
theorem dX12_lay_53 : decode cX12_lay 53 = .ok (.getfield 11, 3) := dr9 dk9_dX12_lay_0_0.2 0 (53, .getfield 11, 3) rfl
theorem dX12_lay_56 : decode cX12_lay 56 = .ok (.iload 4, 2) := dr9 dk9_dX12_lay_0_0.2 1 (56, .iload 4, 2) rfl
theorem dX12_lay_58 : decode cX12_lay 58 = .ok (.iastore, 1) := dr9 dk9_dX12_lay_0_0.2 2 (58, .iastore, 1) rfl
theorem dX12_lay_59 : decode cX12_lay 59 = .ok (.aload_n 0, 1) := dr9 dk9_dX12_lay_0_0.2 3 (59, .aload_n 0, 1) rfl
theorem dX12_lay_60 : decode cX12_lay 60 = .ok (.dup, 1) := dr9 dk9_dX12_lay_0_0.2 4 (60, .dup, 1) rfl
theorem dX12_lay_61 : decode cX12_lay 61 = .ok (.getfield 11, 3) := dr9 dk9_dX12_lay_0_0.2 5 (61, .getfield 11, 3) rfl
theorem dX12_lay_64 : decode cX12_lay 64 = .ok (.iconst 1, 1) := dr9 dk9_dX12_lay_0_0.2 6 (64, .iconst 1, 1) rfl
theorem dX12_lay_65 : decode cX12_lay 65 = .ok (.iadd, 1) := dr9 dk9_dX12_lay_0_0.2 7 (65, .iadd, 1) rfl
theorem dX12_lay_66 : decode cX12_lay 66 = .ok (.putfield 11, 3) := dr9 dk9_dX12_lay_0_0.2 8 (66, .putfield 11, 3) rfl
theorem dX12_lay_24 : decode cX12_lay 24 = .ok (.iload 4, 2) := dr9 dk9_dX12_lay_0_0.2 9 (24, .iload 4, 2) rfl
theorem dX12_lay_26 : decode cX12_lay 26 = .ok (.bipush 32, 2) := dr9 dk9_dX12_lay_0_0.2 10 (26, .bipush 32, 2) rfl
theorem dX12_lay_28 : decode cX12_lay 28 = .ok (.if_icmp .lt 41, 3) := dr9 dk9_dX12_lay_0_0.2 11 (28, .if_icmp .lt 41, 3) rfl
theorem dX12_lay_31 : decode cX12_lay 31 = .ok (.iload 4, 2) := dr9 dk9_dX12_lay_0_0.2 12 (31, .iload 4, 2) rfl
theorem dX12_lay_33 : decode cX12_lay 33 = .ok (.bipush 126, 2) := dr9 dk9_dX12_lay_0_0.2 13 (33, .bipush 126, 2) rfl
theorem dX12_lay_35 : decode cX12_lay 35 = .ok (.if_icmp .gt 34, 3) := dr9 dk9_dX12_lay_0_0.2 14 (35, .if_icmp .gt 34, 3) rfl
theorem dk9_dX12_feed_0_0 : dOk cX12_feed [(0, .aload_n 0, 1), (1, .iconst 0, 1), (2, .putfield 1, 3), (5, .aload_n 0, 1), (6, .lload_n 1, 1), (7, .invokevirtual 7, 3), (10, .aload_n 0, 1), (11, .lload_n 3, 1), (12, .invokevirtual 7, 3), (15, .aload_n 0, 1), (16, .lload 5, 2), (18, .invokevirtual 7, 3), (21, .aload_n 0, 1), (22, .getfield 11, 3), (25, .ireturn, 1)] = true := by decide +kernel
theorem dX12_feed_0 : decode cX12_feed 0 = .ok (.aload_n 0, 1) := dr9 dk9_dX12_feed_0_0 0 (0, .aload_n 0, 1) rfl
theorem dX12_feed_1 : decode cX12_feed 1 = .ok (.iconst 0, 1) := dr9 dk9_dX12_feed_0_0 1 (1, .iconst 0, 1) rfl
theorem dX12_feed_2 : decode cX12_feed 2 = .ok (.putfield 1, 3) := dr9 dk9_dX12_feed_0_0 2 (2, .putfield 1, 3) rfl
theorem dX12_feed_5 : decode cX12_feed 5 = .ok (.aload_n 0, 1) := dr9 dk9_dX12_feed_0_0 3 (5, .aload_n 0, 1) rfl
theorem dX12_feed_6 : decode cX12_feed 6 = .ok (.lload_n 1, 1) := dr9 dk9_dX12_feed_0_0 4 (6, .lload_n 1, 1) rfl
theorem dX12_feed_7 : decode cX12_feed 7 = .ok (.invokevirtual 7, 3) := dr9 dk9_dX12_feed_0_0 5 (7, .invokevirtual 7, 3) rfl
theorem dX12_feed_10 : decode cX12_feed 10 = .ok (.aload_n 0, 1) := dr9 dk9_dX12_feed_0_0 6 (10, .aload_n 0, 1) rfl
theorem dX12_feed_11 : decode cX12_feed 11 = .ok (.lload_n 3, 1) := dr9 dk9_dX12_feed_0_0 7 (11, .lload_n 3, 1) rfl
theorem dX12_feed_12 : decode cX12_feed 12 = .ok (.invokevirtual 7, 3) := dr9 dk9_dX12_feed_0_0 8 (12, .invokevirtual 7, 3) rfl
theorem dX12_feed_15 : decode cX12_feed 15 = .ok (.aload_n 0, 1) := dr9 dk9_dX12_feed_0_0 9 (15, .aload_n 0, 1) rfl
theorem dX12_feed_16 : decode cX12_feed 16 = .ok (.lload 5, 2) := dr9 dk9_dX12_feed_0_0 10 (16, .lload 5, 2) rfl
theorem dX12_feed_18 : decode cX12_feed 18 = .ok (.invokevirtual 7, 3) := dr9 dk9_dX12_feed_0_0 11 (18, .invokevirtual 7, 3) rfl
theorem dX12_feed_21 : decode cX12_feed 21 = .ok (.aload_n 0, 1) := dr9 dk9_dX12_feed_0_0 12 (21, .aload_n 0, 1) rfl
theorem dX12_feed_22 : decode cX12_feed 22 = .ok (.getfield 11, 3) := dr9 dk9_dX12_feed_0_0 13 (22, .getfield 11, 3) rfl
theorem dX12_feed_25 : decode cX12_feed 25 = .ok (.ireturn, 1) := dr9 dk9_dX12_feed_0_0 14 (25, .ireturn, 1) rfl
abbrev r_s_lay : Room := { frames := 0, cells := 0, slots := 0, locals := 0 }
abbrev q_s_lay (D : va_G) (ks : KS) (ad : Nat → Nat) (kk : Nat → ClassId) (V : Vf) (L : Lf) (p0 : Int64) (k0 : Nat) (A : Nat → Prop) : Array Value → State → Outcome → State → Prop := va_Qv (fun (u : Vf × Lf) => rgd bM u.1 ∧ agr [(0, 2)] [1] V u.1 ∧ u.2 = L ∧ ((u.1 0 2).toInt = ((apm 8 p0 k0 : Nat) : Int))) (fun u t => gq D A (mw ad kk ks.1 u.1 u.2) (mty kk) t) A
abbrev r_s_feed : Room := { frames := 1, cells := 0, slots := 0, locals := 24 }
abbrev q_s_feed (D : va_G) (ks : KS) (ad : Nat → Nat) (kk : Nat → ClassId) (V : Vf) (L : Lf) (p0 : Int64) (p1 : Int64) (p2 : Int64) (k0 : Nat) (A : Nat → Prop) : Array Value → State → Outcome → State → Prop := va_Qi (fun (r : Int32) (u : Vf × Lf) => rgd bM u.1 ∧ agr [(0, 0), (0, 2)] [1] V u.1 ∧ u.2 = L ∧ (r.toInt = ((apm 8 p2 (apm 8 p1 (apm 8 p0 k0)) : Nat) : Int)) ∧ ((u.1 0 2).toInt = ((apm 8 p2 (apm 8 p1 (apm 8 p0 k0)) : Nat) : Int))) (fun u t => gq D A (mw ad kk ks.1 u.1 u.2) (mty kk) t) A