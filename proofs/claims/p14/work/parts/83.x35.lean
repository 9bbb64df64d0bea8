/-! the bound of the links (44, a place of no object) may be raised -/
theorem xow_44 {k : Nat} : xow 44 k = none := by
  unfold xow
  repeat rw [if_neg (by omega)]
theorem xw_44 {ad : Nat → Nat} {kk : Nat → ClassId} {V : Vf} {L : Lf} {Z : XZ} {k : Nat} {v : Int32} : xw ad kk (up2 V 44 k v) L Z = xw ad kk V L Z := by
  unfold xw
  rw [xs_up (by decide), show xb ad kk (up2 V 44 k v) L Z = xb ad kk V L Z from funext (fun j => xb_up (by rw [xow_44]; exact fun e => nomatch e))]
theorem rgd_44 {V W : Vf} {k : Nat} {v : Int32} (h : rgd bX V) (e : W = up2 V 44 k v) : rgd bX W := h.put e (i_full v)
theorem MI.gh {V W : Vf} {Z : XZ} {b n r k : Nat} {g : Nat → Nat} {w v u : Prop} {x : Int32} (h : MI V Z b g n r w v u) (e : W = up2 V 44 0 x) (hx : x.toInt = (V 44 0).toInt + (k : Int)) (h2 : x.toInt ≤ 250000) : MI W Z b g n (r + k) w v u := by
  have o : ∀ c i, c ≠ 44 → W c i = V c i := fun c i q => by rw [e]; exact up2_pl (fun a => q a.1)
  have hB : BS V W := fun c i _ _ a => o c i a.2
  have e44 : W 44 0 = x := up2_s e
  have e43 := o 43 (5 * b + 2) (by decide)
  refine ⟨?_, h.nf, h.dn, by rw [e43]; exact h.sz, ?_, ?_, ?_, fun i hi => ?_, by rw [o 3 13 (by decide), o 3 15 (by decide), o 5 8 (by decide)]; exact h.o0, ?_, h.tx.bs hB, h.cd.bs hB, by rw [o 5 5 (by decide)]; exact h.mb, h.ln, ?_⟩
  · unfold SL
    rw [o 3 15 (by decide), o 3 13 (by decide)]
    exact ⟨h.sl.1, h.sl.2.1, fun o' k a1 a2 => by rw [o 30 _ (by decide)]; exact h.sl.2.2.1 o' k a1 a2, fun i a1 => by rw [o 32 _ (by decide)]; exact h.sl.2.2.2 i a1⟩
  · intro o' ho
    rw [o 3 13 (by decide)] at ho
    rw [o 26 _ (by decide), e43]
    exact h.oc o' ho
  · intro i hi
    rw [o 5 8 (by decide)] at hi
    rw [o 40 _ (by decide), o 3 13 (by decide)]
    exact h.md i hi
  · intro i j hij hj
    rw [o 67 i (by decide), o 67 j (by decide), o 80 i (by decide), o 80 j (by decide)]
    exact h.mk2 i j hij hj
  · have ev : vI W n v u i = vI V n v u i := by unfold vI; rw [o 67 (n - 1) (by decide)]
    have f := h.fk i hi
    rw [ev]
    unfold FK at f ⊢
    rw [o 67 i (by decide), o 68 i (by decide), o 70 i (by decide), o 71 i (by decide), o 75 i (by decide), o 76 i (by decide), o 80 i (by decide), o 84 i (by decide), e43, o 42 b (by decide), o 41 b (by decide), o 3 13 (by decide), o 5 8 (by decide), hB.bd]
    exact f
  · have p := h.pot
    rw [o 3 15 (by decide), o 3 13 (by decide), o 5 8 (by decide), e44]
    omega
  · intro k hk
    rw [o 25 _ (by decide), o 3 13 (by decide)]
    refine ⟨(h.pt k hk).1, fun o' h1 => ?_⟩
    rw [o 26 _ (by decide)]
    exact (h.pt k hk).2 o' h1
/-- a frame may be put on whatever lies there, if one link more is paid for -/
theorem MI.adv {V : Vf} {Z : XZ} {b n r : Nat} {g : Nat → Nat} {v u : Prop} (h : MI V Z b g n r True v u) (hr : 1 ≤ r) : ∃ g r, MI V Z b g n r True True True := by
  by_cases hk : (V 67 (n - 1)).toInt = 0
  · have h1 := h.bump hr
    refine ⟨_, _, ⟨h1.sl, h1.nf, h1.dn, h1.sz, h1.oc, h1.md, h1.mk2, fun i hi => ?_, h1.o0, h1.pot, h1.tx, h1.cd, h1.mb, h1.ln, h1.pt⟩⟩
    have f := h1.fk i hi
    by_cases e : i + 1 = n
    · have e2 : n - 1 = i := by omega
      rw [e2] at hk
      exact ⟨f.1, f.2.1, f.2.2.1, f.2.2.2.1, f.2.2.2.2.1, f.2.2.2.2.2.1, f.2.2.2.2.2.2.1, f.2.2.2.2.2.2.2.1, f.2.2.2.2.2.2.2.2.1, fun a1 => absurd a1 (by omega)⟩
    · exact f.w id (fun z => z.elim Or.inl (fun a => absurd a.1 e)) (Nat.le_refl _)
  · have h1 := h.lastb hr
    refine ⟨_, _, ⟨h1.sl, h1.nf, h1.dn, h1.sz, h1.oc, h1.md, h1.mk2, fun i hi => ?_, h1.o0, h1.pot, h1.tx, h1.cd, h1.mb, h1.ln, h1.pt⟩⟩
    exact (h1.fk i hi).w id (fun z => z.elim (fun a => Or.inl ⟨a.1, fun _ => Or.inl hk⟩) Or.inr) (Nat.le_refl _)
theorem MJ.adv {V W : Vf} {Z : XZ} {b : Nat} {x : Int32} (h : MJ V Z b) (e : W = up2 V 44 0 x) (hx : x.toInt = (V 44 0).toInt + 1) (h2 : x.toInt ≤ 250000) : MT W Z b := by
  obtain ⟨g, r, h⟩ := h
  have h1 := h.gh (k := 1) e (by omega) h2
  have e6 : W 5 6 = V 5 6 := by rw [e]; exact up2_pl (by omega)
  unfold MT
  rw [e6]
  exact h1.adv (by omega)
theorem HI.gh {V W : Vf} {Z : XZ} {b : Nat} {x : Int32} (h : HI V Z b) (e : W = up2 V 44 0 x) (hx : (V 44 0).toInt ≤ x.toInt) (h2 : x.toInt ≤ 250000) : HI W Z b := by
  have o : ∀ c i, c ≠ 44 → W c i = V c i := fun c i q => by rw [e]; exact up2_pl (fun a => q a.1)
  have hB : BS V W := fun c i _ _ a => o c i a.2
  have e44 : W 44 0 = x := up2_s e
  refine ⟨?_, h.2.1, ?_, by rw [o 3 13 (by decide), o 3 15 (by decide)]; exact h.2.2.2.1, ?_, h.2.2.2.2.2.1.bs hB, h.2.2.2.2.2.2.1.bs hB, by rw [o 5 5 (by decide)]; exact h.2.2.2.2.2.2.2.1, h.2.2.2.2.2.2.2.2.1, ?_⟩
  · unfold SL
    rw [o 3 15 (by decide), o 3 13 (by decide)]
    exact ⟨h.1.1, h.1.2.1, fun o' k a1 a2 => by rw [o 30 _ (by decide)]; exact h.1.2.2.1 o' k a1 a2, fun i a1 => by rw [o 32 _ (by decide)]; exact h.1.2.2.2 i a1⟩
  · intro o' ho
    rw [o 3 13 (by decide)] at ho
    rw [o 26 _ (by decide), o 43 _ (by decide)]
    exact h.2.2.1 o' ho
  · have p := h.2.2.2.2.1
    rw [o 3 13 (by decide), o 3 15 (by decide), e44]
    omega
  · intro k hk
    rw [o 25 _ (by decide), o 3 13 (by decide)]
    refine ⟨(h.2.2.2.2.2.2.2.2.2 k hk).1, fun o' h1 => ?_⟩
    rw [o 26 _ (by decide)]
    exact (h.2.2.2.2.2.2.2.2.2 k hk).2 o' h1
/-- between the runs of a close -/
def MQZ (V : Vf) (Z : XZ) (b : Nat) : Prop := HI V Z b ∧ (((V 5 6).toInt = 0 ∧ (V 5 8).toInt = 0) ∨ MJ V Z b)
theorem MQZ.ag {fs : List (Nat × Nat)} {cs : List Nat} {V W : Vf} {Z : XZ} {b : Nat} (h : MQZ V Z b) (a : agr fs cs V W) (q0 : hrl fs cs = true) (q : mrl fs cs = true) (q6 : wrL fs cs 5 6 = false) (q9 : wrL fs cs 5 9 = false) (q10 : wrL fs cs 5 10 = false) : MQZ W Z b := by
  have m : ∀ n, ME V W n := fun n => ME.ag a q
  refine ⟨h.1.ag a q0, ?_⟩
  rw [a 5 6 q6, (m 0).2.2.1.2.2.2]
  rcases h.2 with h | h
  · exact Or.inl h
  · right
    obtain ⟨g, r, h⟩ := h
    have qq : QN W b → QN V b := QN.eq (a 5 9 q9) (a 5 10 q10) (m 0).2.2.1.1 (m 0).2.2.2.1 (m 0).1
    exact ⟨g, r, by rw [a 5 6 q6]; exact (h.me (m _)).w id qq qq (Nat.le_refl _)⟩
theorem MQZ.mt {V W : Vf} {Z : XZ} {b : Nat} {x : Int32} (h : MQZ V Z b) (hs : 0 < (V 43 (5 * b + 2)).toInt) (e : W = up2 V 44 0 x) (hx : x.toInt = (V 44 0).toInt + 1) (h2 : x.toInt ≤ 250000) : MT W Z b := by
  rcases h.2 with q | q
  · refine (h.1.gh e (by omega) h2).mt ?_ ?_ ?_
    · rw [e, up2_pl (by omega)]; exact hs
    · rw [e, up2_pl (by omega)]; exact q.2
    · rw [e, up2_pl (by omega)]; exact q.1
  · exact q.adv e hx h2

theorem w1545 : Cond.code yX8_reopenHouse cX8_reopenHouse 1 none ∈ GW := gw_k tk9_6 190 (rfl) rfl
theorem w1542 : Cond.methodLink RX11 245 yX8_reopenHouse ∈ GW := gw_k tk9_6 187 (by decide +kernel) rfl
theorem w1543 : Cond.instanceMethod yX8_reopenHouse ∈ GW := gw_k tk9_6 188 (by decide +kernel) rfl
theorem w1544 : Cond.selects RX8 yX8_reopenHouse yX8_reopenHouse ∈ GW := gw_k tk9_6 189 (by decide +kernel) rfl
theorem hdV_yX8_reopenHouse : yX8_reopenHouse.cls = RX8 ∧ yX8_reopenHouse.cls ≠ "java/lang/invoke/MethodHandle" ∧ yX8_reopenHouse.cls ≠ "java/lang/invoke/VarHandle" ∧ (parseMethodDescriptor yX8_reopenHouse.desc).map (fun d => d.parameters.length) = some 0 := by decide +kernel
theorem w1527 : Cond.code yX8_innermost cX8_innermost 4 (some .int) ∈ GW := gw_k tk9_6 172 (rfl) rfl
theorem w1524 : Cond.methodLink RX11 228 yX8_innermost ∈ GW := gw_k tk9_6 169 (by decide +kernel) rfl
theorem w1525 : Cond.instanceMethod yX8_innermost ∈ GW := gw_k tk9_6 170 (by decide +kernel) rfl
theorem w1526 : Cond.selects RX8 yX8_innermost yX8_innermost ∈ GW := gw_k tk9_6 171 (by decide +kernel) rfl
theorem hdV_yX8_innermost : yX8_innermost.cls = RX8 ∧ yX8_innermost.cls ≠ "java/lang/invoke/MethodHandle" ∧ yX8_innermost.cls ≠ "java/lang/invoke/VarHandle" ∧ (parseMethodDescriptor yX8_innermost.desc).map (fun d => d.parameters.length) = some 1 := by decide +kernel
theorem w1535 : Cond.code yX8_latestMade cX8_latestMade 5 (some .int) ∈ GW := gw_k tk9_6 180 (rfl) rfl
theorem w1532 : Cond.methodLink RX11 231 yX8_latestMade ∈ GW := gw_k tk9_6 177 (by decide +kernel) rfl
theorem w1533 : Cond.instanceMethod yX8_latestMade ∈ GW := gw_k tk9_6 178 (by decide +kernel) rfl
theorem w1534 : Cond.selects RX8 yX8_latestMade yX8_latestMade ∈ GW := gw_k tk9_6 179 (by decide +kernel) rfl
theorem hdV_yX8_latestMade : yX8_latestMade.cls = RX8 ∧ yX8_latestMade.cls ≠ "java/lang/invoke/MethodHandle" ∧ yX8_latestMade.cls ≠ "java/lang/invoke/VarHandle" ∧ (parseMethodDescriptor yX8_latestMade.desc).map (fun d => d.parameters.length) = some 1 := by decide +kernel
theorem w1541 : Cond.methodLink RX11 241 yX8_shut ∈ GW := gw_k tk9_6 186 (by decide +kernel) rfl
theorem w1536 : Cond.methodLink RX11 234 yX5_pushClose ∈ GW := gw_k tk9_6 181 (by decide +kernel) rfl
theorem w1540 : Cond.code yX5_isSpent cX5_isSpent 1 (some .boolean) ∈ GW := gw_k tk9_6 185 (rfl) rfl
theorem w1537 : Cond.methodLink RX11 237 yX5_isSpent ∈ GW := gw_k tk9_6 182 (by decide +kernel) rfl
theorem w1538 : Cond.instanceMethod yX5_isSpent ∈ GW := gw_k tk9_6 183 (by decide +kernel) rfl
theorem w1539 : Cond.selects RX5 yX5_isSpent yX5_isSpent ∈ GW := gw_k tk9_6 184 (by decide +kernel) rfl
theorem hdV_yX5_isSpent : yX5_isSpent.cls = RX5 ∧ yX5_isSpent.cls ≠ "java/lang/invoke/MethodHandle" ∧ yX5_isSpent.cls ≠ "java/lang/invoke/VarHandle" ∧ (parseMethodDescriptor yX5_isSpent.desc).map (fun d => d.parameters.length) = some 0 := by decide +kernel
theorem dk9_dX11_close_0_0 : dOk cX11_close [(0, .aload_n 0, 1), (1, .getfield 61, 3), (4, .invokevirtual 192, 3), (7, .aload_n 0, 1), (8, .getfield 35, 3), (11, .iload_n 1, 1), (12, .invokevirtual 182, 3), (15, .ifCond .ne 10, 3), (25, .iconst 0, 1), (26, .istore_n 2, 1), (27, .iconst 0, 1), (28, .istore_n 3, 1), (29, .iconst 0, 1), (30, .istore 4, 2), (32, .iload 4, 2), (34, .sipush 340, 3), (37, .if_icmp .ge 89, 3), (126, .aload_n 0, 1), (127, .getfield 35, 3), (130, .invokevirtual 245, 3), (133, .iload_n 2, 1), (134, .ifCond .eq 13, 3), (147, .aload_n 0, 1), (148, .iconst 0, 1)] = true ∧ dOk cX11_close [(149, .iload_n 3, 1), (150, .invokevirtual 195, 3), (153, .ireturn, 1), (137, .aload_n 0, 1), (138, .bipush 6, 2), (140, .iconst (-1), 1), (141, .invokevirtual 195, 3), (144, .goto 9, 3), (40, .aload_n 0, 1), (41, .getfield 35, 3), (44, .iload_n 1, 1), (45, .invokevirtual 182, 3), (48, .ifCond .eq 78, 3), (51, .aload_n 0, 1), (52, .getfield 35, 3), (55, .iload_n 1, 1), (56, .invokevirtual 228, 3), (59, .istore 5, 2), (61, .aload_n 0, 1), (62, .getfield 35, 3), (65, .iload 5, 2), (67, .invokevirtual 231, 3), (70, .istore 6, 2), (72, .iload 6, 2)] = true ∧ dOk cX11_close [(74, .iconst (-1), 1), (75, .if_icmp .eq 36, 3), (111, .aload_n 0, 1), (112, .getfield 35, 3), (115, .iload 5, 2), (117, .invokevirtual 241, 3), (120, .iinc 4 1, 3), (123, .goto (-91), 3), (78, .aload_n 0, 1), (79, .getfield 61, 3), (82, .iload 6, 2), (84, .iconst 0, 1), (85, .invokevirtual 234, 3), (88, .aload_n 0, 1), (89, .getfield 61, 3), (92, .invokevirtual 202, 3), (95, .iload_n 2, 1), (96, .aload_n 0, 1), (97, .getfield 61, 3), (100, .invokevirtual 237, 3), (103, .ior, 1), (104, .istore_n 2, 1), (105, .iinc 3 1, 3), (108, .goto 12, 3)] = true ∧ dOk cX11_close [(18, .aload_n 0, 1), (19, .iconst 3, 1), (20, .iconst (-1), 1), (21, .invokevirtual 195, 3), (24, .ireturn, 1)] = true := by decide +kernel
theorem dX11_close_0 : decode cX11_close 0 = .ok (.aload_n 0, 1) := dr9 dk9_dX11_close_0_0.1 0 (0, .aload_n 0, 1) rfl
theorem dX11_close_1 : decode cX11_close 1 = .ok (.getfield 61, 3) := dr9 dk9_dX11_close_0_0.1 1 (1, .getfield 61, 3) rfl
theorem dX11_close_4 : decode cX11_close 4 = .ok (.invokevirtual 192, 3) := dr9 dk9_dX11_close_0_0.1 2 (4, .invokevirtual 192, 3) rfl
theorem dX11_close_7 : decode cX11_close 7 = .ok (.aload_n 0, 1) := dr9 dk9_dX11_close_0_0.1 3 (7, .aload_n 0, 1) rfl
theorem dX11_close_8 : decode cX11_close 8 = .ok (.getfield 35, 3) := dr9 dk9_dX11_close_0_0.1 4 (8, .getfield 35, 3) rfl
theorem dX11_close_11 : decode cX11_close 11 = .ok (.iload_n 1, 1) := dr9 dk9_dX11_close_0_0.1 5 (11, .iload_n 1, 1) rfl
theorem dX11_close_12 : decode cX11_close 12 = .ok (.invokevirtual 182, 3) := dr9 dk9_dX11_close_0_0.1 6 (12, .invokevirtual 182, 3) rfl
theorem dX11_close_15 : decode cX11_close 15 = .ok (.ifCond .ne 10, 3) := dr9 dk9_dX11_close_0_0.1 7 (15, .ifCond .ne 10, 3) rfl
theorem dX11_close_25 : decode cX11_close 25 = .ok (.iconst 0, 1) := dr9 dk9_dX11_close_0_0.1 8 (25, .iconst 0, 1) rfl
theorem dX11_close_26 : decode cX11_close 26 = .ok (.istore_n 2, 1) := dr9 dk9_dX11_close_0_0.1 9 (26, .istore_n 2, 1) rfl
theorem dX11_close_27 : decode cX11_close 27 = .ok (.iconst 0, 1) := dr9 dk9_dX11_close_0_0.1 10 (27, .iconst 0, 1) rfl
theorem dX11_close_28 : decode cX11_close 28 = .ok (.istore_n 3, 1) := dr9 dk9_dX11_close_0_0.1 11 (28, .istore_n 3, 1) rfl
theorem dX11_close_29 : decode cX11_close 29 = .ok (.iconst 0, 1) := dr9 dk9_dX11_close_0_0.1 12 (29, .iconst 0, 1) rfl
theorem dX11_close_30 : decode cX11_close 30 = .ok (.istore 4, 2) := dr9 dk9_dX11_close_0_0.1 13 (30, .istore 4, 2) rfl
theorem dX11_close_32 : decode cX11_close 32 = .ok (.iload 4, 2) := dr9 dk9_dX11_close_0_0.1 14 (32, .iload 4, 2) rfl
theorem dX11_close_34 : decode cX11_close 34 = .ok (.sipush 340, 3) := dr9 dk9_dX11_close_0_0.1 15 (34, .sipush 340, 3) rfl
theorem dX11_close_37 : decode cX11_close 37 = .ok (.if_icmp .ge 89, 3) := dr9 dk9_dX11_close_0_0.1 16 (37, .if_icmp .ge 89, 3) rfl
theorem dX11_close_126 : decode cX11_close 126 = .ok (.aload_n 0, 1) := dr9 dk9_dX11_close_0_0.1 17 (126, .aload_n 0, 1) rfl
theorem dX11_close_127 : decode cX11_close 127 = .ok (.getfield 35, 3) := dr9 dk9_dX11_close_0_0.1 18 (127, .getfield 35, 3) rfl
theorem dX11_close_130 : decode cX11_close 130 = .ok (.invokevirtual 245, 3) := dr9 dk9_dX11_close_0_0.1 19 (130, .invokevirtual 245, 3) rfl
theorem dX11_close_133 : decode cX11_close 133 = .ok (.iload_n 2, 1) := dr9 dk9_dX11_close_0_0.1 20 (133, .iload_n 2, 1) rfl
theorem dX11_close_134 : decode cX11_close 134 = .ok (.ifCond .eq 13, 3) := dr9 dk9_dX11_close_0_0.1 21 (134, .ifCond .eq 13, 3) rfl
theorem dX11_close_147 : decode cX11_close 147 = .ok (.aload_n 0, 1) := dr9 dk9_dX11_close_0_0.1 22 (147, .aload_n 0, 1) rfl
theorem dX11_close_148 : decode cX11_close 148 = .ok (.iconst 0, 1) := dr9 dk9_dX11_close_0_0.1 23 (148, .iconst 0, 1) rfl
theorem dX11_close_149 : decode cX11_close 149 = .ok (.iload_n 3, 1) := dr9 dk9_dX11_close_0_0.2.1 0 (149, .iload_n 3, 1) rfl
theorem dX11_close_150 : decode cX11_close 150 = .ok (.invokevirtual 195, 3) := dr9 dk9_dX11_close_0_0.2.1 1 (150, .invokevirtual 195, 3) rfl
theorem dX11_close_153 : decode cX11_close 153 = .ok (.ireturn, 1) := dr9 dk9_dX11_close_0_0.2.1 2 (153, .ireturn, 1) rfl
theorem dX11_close_137 : decode cX11_close 137 = .ok (.aload_n 0, 1) := dr9 dk9_dX11_close_0_0.2.1 3 (137, .aload_n 0, 1) rfl
theorem dX11_close_138 : decode cX11_close 138 = .ok (.bipush 6, 2) := dr9 dk9_dX11_close_0_0.2.1 4 (138, .bipush 6, 2) rfl
theorem dX11_close_140 : decode cX11_close 140 = .ok (.iconst (-1), 1) := dr9 dk9_dX11_close_0_0.2.1 5 (140, .iconst (-1), 1) rfl
theorem dX11_close_141 : decode cX11_close 141 = .ok (.invokevirtual 195, 3) := dr9 dk9_dX11_close_0_0.2.1 6 (141, .invokevirtual 195, 3) rfl
theorem dX11_close_144 : decode cX11_close 144 = .ok (.goto 9, 3) := dr9 dk9_dX11_close_0_0.2.1 7 (144, .goto 9, 3) rfl
theorem dX11_close_40 : decode cX11_close 40 = .ok (.aload_n 0, 1) := dr9 dk9_dX11_close_0_0.2.1 8 (40, .aload_n 0, 1) rfl
theorem dX11_close_41 : decode cX11_close 41 = .ok (.getfield 35, 3) := dr9 dk9_dX11_close_0_0.2.1 9 (41, .getfield 35, 3) rfl
theorem dX11_close_44 : decode cX11_close 44 = .ok (.iload_n 1, 1) := dr9 dk9_dX11_close_0_0.2.1 10 (44, .iload_n 1, 1) rfl
theorem dX11_close_45 : decode cX11_close 45 = .ok (.invokevirtual 182, 3) := dr9 dk9_dX11_close_0_0.2.1 11 (45, .invokevirtual 182, 3) rfl
theorem dX11_close_48 : decode cX11_close 48 = .ok (.ifCond .eq 78, 3) := dr9 dk9_dX11_close_0_0.2.1 12 (48, .ifCond .eq 78, 3) rfl
theorem dX11_close_51 : decode cX11_close 51 = .ok (.aload_n 0, 1) := dr9 dk9_dX11_close_0_0.2.1 13 (51, .aload_n 0, 1) rfl
theorem dX11_close_52 : decode cX11_close 52 = .ok (.getfield 35, 3) := dr9 dk9_dX11_close_0_0.2.1 14 (52, .getfield 35, 3) rfl
theorem dX11_close_55 : decode cX11_close 55 = .ok (.iload_n 1, 1) := dr9 dk9_dX11_close_0_0.2.1 15 (55, .iload_n 1, 1) rfl
theorem dX11_close_56 : decode cX11_close 56 = .ok (.invokevirtual 228, 3) := dr9 dk9_dX11_close_0_0.2.1 16 (56, .invokevirtual 228, 3) rfl
theorem dX11_close_59 : decode cX11_close 59 = .ok (.istore 5, 2) := dr9 dk9_dX11_close_0_0.2.1 17 (59, .istore 5, 2) rfl
theorem dX11_close_61 : decode cX11_close 61 = .ok (.aload_n 0, 1) := dr9 dk9_dX11_close_0_0.2.1 18 (61, .aload_n 0, 1) rfl
theorem dX11_close_62 : decode cX11_close 62 = .ok (.getfield 35, 3) := dr9 dk9_dX11_close_0_0.2.1 19 (62, .getfield 35, 3) rfl
theorem dX11_close_65 : decode cX11_close 65 = .ok (.iload 5, 2) := dr9 dk9_dX11_close_0_0.2.1 20 (65, .iload 5, 2) rfl
theorem dX11_close_67 : decode cX11_close 67 = .ok (.invokevirtual 231, 3) := dr9 dk9_dX11_close_0_0.2.1 21 (67, .invokevirtual 231, 3) rfl
theorem dX11_close_70 : decode cX11_close 70 = .ok (.istore 6, 2) := dr9 dk9_dX11_close_0_0.2.1 22 (70, .istore 6, 2) rfl
theorem dX11_close_72 : decode cX11_close 72 = .ok (.iload 6, 2) := dr9 dk9_dX11_close_0_0.2.1 23 (72, .iload 6, 2) rfl
theorem dX11_close_74 : decode cX11_close 74 = .ok (.iconst (-1), 1) := dr9 dk9_dX11_close_0_0.2.2.1 0 (74, .iconst (-1), 1) rfl
theorem dX11_close_75 : decode cX11_close 75 = .ok (.if_icmp .eq 36, 3) := dr9 dk9_dX11_close_0_0.2.2.1 1 (75, .if_icmp .eq 36, 3) rfl
theorem dX11_close_111 : decode cX11_close 111 = .ok (.aload_n 0, 1) := dr9 dk9_dX11_close_0_0.2.2.1 2 (111, .aload_n 0, 1) rfl
theorem dX11_close_112 : decode cX11_close 112 = .ok (.getfield 35, 3) := dr9 dk9_dX11_close_0_0.2.2.1 3 (112, .getfield 35, 3) rfl
theorem dX11_close_115 : decode cX11_close 115 = .ok (.iload 5, 2) := dr9 dk9_dX11_close_0_0.2.2.1 4 (115, .iload 5, 2) rfl
theorem dX11_close_117 : decode cX11_close 117 = .ok (.invokevirtual 241, 3) := dr9 dk9_dX11_close_0_0.2.2.1 5 (117, .invokevirtual 241, 3) rfl
theorem dX11_close_120 : decode cX11_close 120 = .ok (.iinc 4 1, 3) := dr9 dk9_dX11_close_0_0.2.2.1 6 (120, .iinc 4 1, 3) rfl
theorem dX11_close_123 : decode cX11_close 123 = .ok (.goto (-91), 3) := dr9 dk9_dX11_close_0_0.2.2.1 7 (123, .goto (-91), 3) rfl
theorem dX11_close_78 : decode cX11_close 78 = .ok (.aload_n 0, 1) := dr9 dk9_dX11_close_0_0.2.2.1 8 (78, .aload_n 0, 1) rfl
theorem dX11_close_79 : decode cX11_close 79 = .ok (.getfield 61, 3) := dr9 dk9_dX11_close_0_0.2.2.1 9 (79, .getfield 61, 3) rfl
theorem dX11_close_82 : decode cX11_close 82 = .ok (.iload 6, 2) := dr9 dk9_dX11_close_0_0.2.2.1 10 (82, .iload 6, 2) rfl
theorem dX11_close_84 : decode cX11_close 84 = .ok (.iconst 0, 1) := dr9 dk9_dX11_close_0_0.2.2.1 11 (84, .iconst 0, 1) rfl
theorem dX11_close_85 : decode cX11_close 85 = .ok (.invokevirtual 234, 3) := dr9 dk9_dX11_close_0_0.2.2.1 12 (85, .invokevirtual 234, 3) rfl
theorem dX11_close_88 : decode cX11_close 88 = .ok (.aload_n 0, 1) := dr9 dk9_dX11_close_0_0.2.2.1 13 (88, .aload_n 0, 1) rfl
theorem dX11_close_89 : decode cX11_close 89 = .ok (.getfield 61, 3) := dr9 dk9_dX11_close_0_0.2.2.1 14 (89, .getfield 61, 3) rfl
theorem dX11_close_92 : decode cX11_close 92 = .ok (.invokevirtual 202, 3) := dr9 dk9_dX11_close_0_0.2.2.1 15 (92, .invokevirtual 202, 3) rfl
theorem dX11_close_95 : decode cX11_close 95 = .ok (.iload_n 2, 1) := dr9 dk9_dX11_close_0_0.2.2.1 16 (95, .iload_n 2, 1) rfl
theorem dX11_close_96 : decode cX11_close 96 = .ok (.aload_n 0, 1) := dr9 dk9_dX11_close_0_0.2.2.1 17 (96, .aload_n 0, 1) rfl
theorem dX11_close_97 : decode cX11_close 97 = .ok (.getfield 61, 3) := dr9 dk9_dX11_close_0_0.2.2.1 18 (97, .getfield 61, 3) rfl
theorem dX11_close_100 : decode cX11_close 100 = .ok (.invokevirtual 237, 3) := dr9 dk9_dX11_close_0_0.2.2.1 19 (100, .invokevirtual 237, 3) rfl
theorem dX11_close_103 : decode cX11_close 103 = .ok (.ior, 1) := dr9 dk9_dX11_close_0_0.2.2.1 20 (103, .ior, 1) rfl
theorem dX11_close_104 : decode cX11_close 104 = .ok (.istore_n 2, 1) := dr9 dk9_dX11_close_0_0.2.2.1 21 (104, .istore_n 2, 1) rfl
theorem dX11_close_105 : decode cX11_close 105 = .ok (.iinc 3 1, 3) := dr9 dk9_dX11_close_0_0.2.2.1 22 (105, .iinc 3 1, 3) rfl
theorem dX11_close_108 : decode cX11_close 108 = .ok (.goto 12, 3) := dr9 dk9_dX11_close_0_0.2.2.1 23 (108, .goto 12, 3) rfl
theorem dX11_close_18 : decode cX11_close 18 = .ok (.aload_n 0, 1) := dr9 dk9_dX11_close_0_0.2.2.2 0 (18, .aload_n 0, 1) rfl
theorem dX11_close_19 : decode cX11_close 19 = .ok (.iconst 3, 1) := dr9 dk9_dX11_close_0_0.2.2.2 1 (19, .iconst 3, 1) rfl
theorem dX11_close_20 : decode cX11_close 20 = .ok (.iconst (-1), 1) := dr9 dk9_dX11_close_0_0.2.2.2 2 (20, .iconst (-1), 1) rfl
theorem dX11_close_21 : decode cX11_close 21 = .ok (.invokevirtual 195, 3) := dr9 dk9_dX11_close_0_0.2.2.2 3 (21, .invokevirtual 195, 3) rfl
theorem dX11_close_24 : decode cX11_close 24 = .ok (.ireturn, 1) := dr9 dk9_dX11_close_0_0.2.2.2 4 (24, .ireturn, 1) rfl
abbrev r_x_h_close (Z : XZ) : Room := { frames := 8, cells := zcc Z, slots := zss Z, locals := 181 }
abbrev q_x_h_close (D : va_G) (ks : KS) (ad : Nat → Nat) (kk : Nat → ClassId) (V : Vf) (L : Lf) (Z : XZ) (p0 : Int32) (b : Nat) (A : Nat → Prop) : Array Value → State → Outcome → State → Prop := qZi D (fun (r : Int32) (u : Vf × Lf × XZ) => rgd bX u.1 ∧ agr [(0, 9), (3, 13), (3, 14), (3, 15), (4, 5), (4, 6), (5, 6), (5, 7), (5, 8), (5, 9), (5, 10), (5, 11), (5, 12), (5, 13), (5, 14), (44, 0)] [23, 24, 25, 26, 27, 28, 29, 30, 31, 32, 33, 34, 35, 36, 37, 39, 40, 67, 68, 69, 70, 71, 72, 73, 74, 75, 76, 77, 78, 79, 80, 81, 82, 83, 84, 85] V u.1 ∧ u.2.1 = L ∧ ZL Z u.2.2 ∧ (HI u.1 u.2.2 b) ∧ ((u.1 44 0).toInt ≤ (V 44 0).toInt + 340)) (fun u => xw ad kk u.1 u.2.1 u.2.2) (fun u => xty kk u.2.2) (fun u => zcc Z - zcc u.2.2) (fun u => zss Z - zss u.2.2) A
set_option maxHeartbeats 4000000 in
set_option maxRecDepth 100000 in
theorem x_h_close (l : Launch) (D : va_G) (ks : KS) (sz : Nat) (ad : Nat → Nat) (kk : Nat → ClassId) (V : Vf) (L : Lf) (Z : XZ) (p0 : Int32) (b : Nat) (hMV : rgd bX V) (hb2 : b < 2) (shk : (V 0 6).toInt = (b : Int)) (hi : HI V Z b) (h44 : (V 44 0).toInt + 340 ≤ 250000)  : Met l yX11_close (Cond.code yX11_close cX11_close 7 (some .int) :: GW) (r_x_h_close Z) (va_Pc [.ref (ad 0), .int p0] (gp D ks (xw ad kk V L Z) (xty kk Z) sz)) (q_x_h_close D ks ad kk V L Z p0 b (va_A (xw ad kk V L Z) sz)) (zcc Z) (zss Z) (va_A (xw ad kk V L Z) sz) := by
  refine g_met (q_x_h_close D ks ad kk V L Z p0 b) (by decide) (Nat.le_of_ble_eq_true rfl) ?_
  intro p e s m below meth c A ls H locs hx hb hr hml hown hg hlocks hin hnw hgk hP hK hD hS hA hl
  have hown : s.vm.findClass RX11 = some m.cls := hown
  have hl : lv_has ls 7 [(0, .ref (ad 0)), (1, .int p0)] := hl
  have hP : va_P D vwCl (xw ad kk V L Z) H := hP
  have hD : va_D A (xw ad kk V L Z) := hD
  have hK : va_K D vwCl (xty kk Z) s := hK
  have agV : agr [(0, 9), (3, 13), (3, 14), (3, 15), (4, 5), (4, 6), (5, 6), (5, 7), (5, 8), (5, 9), (5, 10), (5, 11), (5, 12), (5, 13), (5, 14), (44, 0)] [23, 24, 25, 26, 27, 28, 29, 30, 31, 32, 33, 34, 35, 36, 37, 39, 40, 67, 68, 69, 70, 71, 72, 73, 74, 75, 76, 77, 78, 79, 80, 81, 82, 83, 84, 85] V V := agr.rf
  have zoZ : ZL Z Z := ZL.rf
  refine W.know (fun ka kb => ?_)
  refine W.tight (k := zcc Z - zcc Z) (n := zss Z - zss Z) (by omega) (by omega) ?_
  have r1 : 0 ≤ ((V 0 6)).toInt ∧ ((V 0 6)).toInt ≤ 1 := hMV 0 6
  refine lv_aload_n hx hb dX11_close_0 rfl (lv_at hl 0 rfl) ?_
  refine va_get (D := D) (ci := 11) (v := .ref (ad 5)) (fs := (xfHouse ad V L Z)) (C := RX11) (T := TX11) (N := 10) hx hb hg inX11 hown hK hP 0 xgHouse rfl 5 (by decide) (hg _ w720) (fun _ h9 => h9) rfl dX11_close_1 ?_
  refine gA_void (gA_runV (As := []) (rest := []) (ci := 5) (q0 := 5) hx hb hml hown hg hP hD hK hS hA hnw hgk (x_restart l D ks H.size ad kk V L Z  hMV ) w1170 w1044 w1045 w171 w1046 rfl xgMachine hdV_yX5_restart ⟨Nat.le_of_ble_eq_true rfl, Nat.le_of_ble_eq_true rfl⟩ rfl hl.1 rfl (Nat.le_of_ble_eq_true rfl) dX11_close_4 ⟨z0, z0⟩) hP hD hK hS hA (fun u3 H locs w4 hP hD hK hS => ?_)
  obtain ⟨V10, L11⟩ := u3
  obtain ⟨hMV10, ajV10, axL11, t5, t6, t7, t8, t9⟩ := w4
  have axL11 : L = L11 := Eq.symm axL11
  subst axL11
  have hP : va_P D vwCl (xw ad kk V10 L Z) H := hP
  have hD : va_D A (xw ad kk V10 L Z) := hD
  have hMV10 : rgd bX V10 := hMV10
  have ajV10 : agr [(5, 6), (5, 7), (5, 8), (5, 9), (5, 13)] [] V V10 := ajV10
  have agV10 : agr [(0, 9), (3, 13), (3, 14), (3, 15), (4, 5), (4, 6), (5, 6), (5, 7), (5, 8), (5, 9), (5, 10), (5, 11), (5, 12), (5, 13), (5, 14), (44, 0)] [23, 24, 25, 26, 27, 28, 29, 30, 31, 32, 33, 34, 35, 36, 37, 39, 40, 67, 68, 69, 70, 71, 72, 73, 74, 75, 76, 77, 78, 79, 80, 81, 82, 83, 84, 85] V V10 := agV.tr ajV10 (by decide) (by decide)
  have t5 : (V10 5 6).toInt = 0 := t5
  have t6 : (V10 5 7).toInt = 0 := t6
  have t7 : (V10 5 8).toInt = 0 := t7
  have t8 : (V10 5 9).toInt = 0 := t8
  have t9 : (V10 5 13).toInt = 0 := t9
  have r12 : 0 ≤ ((V10 5 6)).toInt ∧ ((V10 5 6)).toInt ≤ 400 := hMV10 5 6
  have r13 : 0 ≤ ((V10 5 7)).toInt ∧ ((V10 5 7)).toInt ≤ 2048 := hMV10 5 7
  have r14 : 0 ≤ ((V10 5 8)).toInt ∧ ((V10 5 8)).toInt ≤ 300 := hMV10 5 8
  have r15 : 0 ≤ ((V10 5 9)).toInt ∧ ((V10 5 9)).toInt ≤ 3 := hMV10 5 9
  have r16 : 0 ≤ ((V10 5 13)).toInt ∧ ((V10 5 13)).toInt ≤ 3000 := hMV10 5 13
  refine lv_aload_n hx hb dX11_close_7 rfl (lv_at hl 0 rfl) ?_
  refine va_get (D := D) (ci := 11) (v := .ref (ad 3)) (fs := (xfHouse ad V10 L Z)) (C := RX11) (T := TX11) (N := 10) hx hb hg inX11 hown hK hP 0 xgHouse rfl 3 (by decide) (hg _ w718) (fun _ h9 => h9) rfl dX11_close_8 ?_
  refine lv_iload_n hx hb dX11_close_11 rfl (lv_at hl 1 rfl) ?_
  refine gA_int (gA_runV (As := [.int p0]) (rest := []) (ci := 8) (q0 := 3) hx hb hml hown hg hP hD hK hS hA hnw hgk (x_isOpen l D ks H.size ad kk V10 L Z p0 hMV10 ) w1158 w1159 w1160 w164 w1161 rfl xgStock hdV_yX8_isOpen ⟨Nat.le_of_ble_eq_true rfl, Nat.le_of_ble_eq_true rfl⟩ rfl hl.1 rfl (Nat.le_of_ble_eq_true rfl) dX11_close_12 ⟨z0, z0⟩) hP hD hK hS hA (fun z17 u18 H locs w19 hP hD hK hS => ?_)
  obtain ⟨rgz17, t20⟩ := w19
  have rgz17 : 0 ≤ z17.toInt ∧ z17.toInt ≤ 1 := rgz17
  have t20 : Imp (z17.toInt = 1) (0 ≤ p0.toInt ∧ p0.toInt < (V10 3 12).toInt) := t20
  have pq21 : (V10 3 12).toInt = ((V 3 12)).toInt := congrArg Int32.toInt (ajV10 3 12 rfl)
  have r22 : 1 ≤ ((V 3 12)).toInt ∧ ((V 3 12)).toInt ≤ 40 := hMV 3 12
  refine lv_if_ne (tgt := 25) hx hb dX11_close_15 (by decide) (fun c23 => ?_) (fun c23 => ?_)
  · skip
    have f24 : z17.toInt ≠ 0 := b_neq rfl (by decide) c23
    refine lv_iconst (v := 0) hx hb dX11_close_25 (by decide) ?_
    refine lv_istore_n (lv' := [(2, .int 0), (0, .ref (ad 0)), (1, .int p0)]) hx hb dX11_close_26 rfl hl (by decide) rfl (fun ls hl => ?_)
    refine lv_iconst (v := 0) hx hb dX11_close_27 (by decide) ?_
    refine lv_istore_n (lv' := [(3, .int 0), (2, .int 0), (0, .ref (ad 0)), (1, .int p0)]) hx hb dX11_close_28 rfl hl (by decide) rfl (fun ls hl => ?_)
    refine lv_iconst (v := 0) hx hb dX11_close_29 (by decide) ?_
    refine lv_istore (lv' := [(4, .int 0), (3, .int 0), (2, .int 0), (0, .ref (ad 0)), (1, .int p0)]) hx hb dX11_close_30 hl (by decide) rfl (fun ls hl => ?_)
    have lp30 : ∀ (fulp30 : Nat) (y25 : Int32) (y26 : Int32) (y27 : Int32) (V28 : Vf) (Z29 : XZ) (H : Heap) (locs : List Loc) (ls : Array Slot), 0 ≤ y25.toInt ∧ y25.toInt ≤ 340 → MQZ V28 Z29 b → (V28 44 0).toInt ≤ (V 44 0).toInt + y25.toInt → 340 - y25.toInt < (fulp30 : Int) → agr [(0, 9), (3, 13), (3, 14), (3, 15), (4, 5), (4, 6), (5, 6), (5, 7), (5, 8), (5, 9), (5, 10), (5, 11), (5, 12), (5, 13), (5, 14), (44, 0)] [23, 24, 25, 26, 27, 28, 29, 30, 31, 32, 33, 34, 35, 36, 37, 39, 40, 67, 68, 69, 70, 71, 72, 73, 74, 75, 76, 77, 78, 79, 80, 81, 82, 83, 84, 85] V10 V28 → rgd bX V28 → ZL Z Z29 → va_K D vwCl (xty kk Z29) s → va_P D vwCl (xw ad kk V28 L Z29) H → va_D A (xw ad kk V28 L Z29) → va_S A s.heap H locs → lv_has ls 7 [(4, .int y25), (3, .int y26), (2, .int y27), (0, .ref (ad 0)), (1, .int p0)] → W p l e (r_x_h_close Z) s m ([.ref (ad 0), .int p0] : List Value).toArray below meth c H locs (zcc Z - zcc Z29) (zss Z - zss Z29) (MQ below (q_x_h_close D ks ad kk V L Z p0 b A) ([.ref (ad 0), .int p0] : List Value).toArray s (zcc Z) (zss Z) A) (F0 m 32 ls []) := by
      intro fulp30
      induction fulp30 with
      | zero =>
        intro y25 y26 y27 V28 Z29 H locs ls klp30_0 xlp30_0 xlp30_1 hn ajV28 hMV28 zoZ29 hK hP hD hS hl
        exfalso; omega
      | succ fulp30 ihlp30 =>
        intro y25 y26 y27 V28 Z29 H locs ls klp30_0 xlp30_0 xlp30_1 hn ajV28 hMV28 zoZ29 hK hP hD hS hl
        have agV28 : agr [(0, 9), (3, 13), (3, 14), (3, 15), (4, 5), (4, 6), (5, 6), (5, 7), (5, 8), (5, 9), (5, 10), (5, 11), (5, 12), (5, 13), (5, 14), (44, 0)] [23, 24, 25, 26, 27, 28, 29, 30, 31, 32, 33, 34, 35, 36, 37, 39, 40, 67, 68, 69, 70, 71, 72, 73, 74, 75, 76, 77, 78, 79, 80, 81, 82, 83, 84, 85] V V28 := agV10.tr ajV28 (by decide) (by decide)
        have zmZ29 := zoZ29.1
        have znZ29 := zoZ29.2.1
        refine lv_iload hx hb dX11_close_32 (lv_at hl 0 rfl) ?_
        refine lv_sipush (v := 340) hx hb dX11_close_34 (by decide) ?_
        refine lv_icmp_ge (tgt := 126) hx hb dX11_close_37 (by decide) (fun c31 => ?_) (fun c31 => ?_)
        · skip
          have f32 : 340 ≤ y25.toInt := b_le (by decide) rfl c31
          refine lv_aload_n hx hb dX11_close_126 rfl (lv_at hl 3 rfl) ?_
          refine va_get (D := D) (ci := 11) (v := .ref (ad 3)) (fs := (xfHouse ad V28 L Z29)) (C := RX11) (T := TX11) (N := 10) hx hb hg inX11 hown hK hP 0 xgHouse rfl 3 (by decide) (hg _ w718) (fun _ h9 => h9) rfl dX11_close_127 ?_
          refine gA_void (gA_runV (As := []) (rest := []) (ci := 8) (q0 := 3) hx hb hml hown hg hP hD hK hS hA hnw hgk (x_reopenHouse l D ks H.size ad kk V28 L Z29  hMV28 ) w1542 w1543 w1544 w164 w1545 rfl xgStock hdV_yX8_reopenHouse ⟨Nat.le_of_ble_eq_true rfl, Nat.le_of_ble_eq_true rfl⟩ rfl hl.1 rfl (Nat.le_of_ble_eq_true rfl) dX11_close_130 ⟨z0, z0⟩) hP hD hK hS hA (fun u34 H locs w35 hP hD hK hS => ?_)
          obtain ⟨V36, L37⟩ := u34
          obtain ⟨hMV36, ajV36, axL37⟩ := w35
          have axL37 : L = L37 := Eq.symm axL37
          subst axL37
          have hP : va_P D vwCl (xw ad kk V36 L Z29) H := hP
          have hD : va_D A (xw ad kk V36 L Z29) := hD
          have hMV36 : rgd bX V36 := hMV36
          have ajV36 : agr [] [23] V28 V36 := ajV36
          have agV36 : agr [(0, 9), (3, 13), (3, 14), (3, 15), (4, 5), (4, 6), (5, 6), (5, 7), (5, 8), (5, 9), (5, 10), (5, 11), (5, 12), (5, 13), (5, 14), (44, 0)] [23, 24, 25, 26, 27, 28, 29, 30, 31, 32, 33, 34, 35, 36, 37, 39, 40, 67, 68, 69, 70, 71, 72, 73, 74, 75, 76, 77, 78, 79, 80, 81, 82, 83, 84, 85] V V36 := agV28.tr ajV36 (by decide) (by decide)
          refine lv_iload_n hx hb dX11_close_133 rfl (lv_at hl 2 rfl) ?_
          refine lv_if_eq (tgt := 147) hx hb dX11_close_134 (by decide) (fun c38 => ?_) (fun c38 => ?_)
          · skip
            have f39 : y27.toInt = 0 := b_eq rfl (by decide) c38
            refine lv_aload_n hx hb dX11_close_147 rfl (lv_at hl 3 rfl) ?_
            refine lv_iconst (v := 0) hx hb dX11_close_148 (by decide) ?_
            refine lv_iload_n hx hb dX11_close_149 rfl (lv_at hl 1 rfl) ?_
            have r40 : Int32.toInt 0 = 0 := by decide
            refine gA_int (gA_runV (As := [.int 0, .int y26]) (rest := []) (ci := 11) (q0 := 0) hx hb hml hown hg hP hD hK hS hA hnw hgk (x_ends l D ks H.size ad kk V36 L Z29 0 y26 hMV36 ) w1171 w1173 w42 w156 w1174 rfl xgHouse hdV_yX11_ends ⟨Nat.le_of_ble_eq_true rfl, Nat.le_of_ble_eq_true rfl⟩ rfl hl.1 rfl (Nat.le_of_ble_eq_true rfl) dX11_close_150 ⟨z0, z0⟩) hP hD hK hS hA (fun z41 u42 H locs w43 hP hD hK hS => ?_)
            obtain ⟨V44, L45⟩ := u42
            obtain ⟨hMV44, ajV44, axL45⟩ := w43
            have axL45 : L = L45 := Eq.symm axL45
            subst axL45
            have hP : va_P D vwCl (xw ad kk V44 L Z29) H := hP
            have hD : va_D A (xw ad kk V44 L Z29) := hD
            have hMV44 : rgd bX V44 := hMV44
            have ajV44 : agr [(0, 9)] [] V36 V44 := ajV44
            have agV44 : agr [(0, 9), (3, 13), (3, 14), (3, 15), (4, 5), (4, 6), (5, 6), (5, 7), (5, 8), (5, 9), (5, 10), (5, 11), (5, 12), (5, 13), (5, 14), (44, 0)] [23, 24, 25, 26, 27, 28, 29, 30, 31, 32, 33, 34, 35, 36, 37, 39, 40, 67, 68, 69, 70, 71, 72, 73, 74, 75, 76, 77, 78, 79, 80, 81, 82, 83, 84, 85] V V44 := agV36.tr ajV44 (by decide) (by decide)
            have pq46 : (V44 44 0).toInt = ((V28 44 0)).toInt := congrArg Int32.toInt ((ajV44 44 0 rfl).trans (ajV36 44 0 rfl))
            have rp47 : HI V44 Z29 b := (HI.ag (HI.ag xlp30_0.1 ajV36 (by decide)) ajV44 (by decide))
            refine W.know (fun kr1 kr2 => ?_)
            refine W.widen (k := zcc Z) (n := zss Z) (Nat.sub_le _ _) (Nat.sub_le _ _) ?_
            exact W.iret (v := z41) hx hb hr (fun t ht hW => ⟨⟨z41, (V44, L, Z29), rfl, ⟨hMV44, agV44, rfl, zoZ29, rp47, (show (V44 44 0).toInt ≤ (V 44 0).toInt + 340 from by first | exact om_8d93cc042622 klp30_0.2 xlp30_1 pq46 | first | omega | ((try (have i_t20 := Imp.go t20 (by omega))); omega))⟩, ⟨by rw [ht]; exact hP, va_K.moved hW.alike hK, hD⟩, by rw [ht]; exact kr1, by rw [ht]; exact kr2⟩, hS.F ht⟩) hS.2.2 dX11_close_153
          · skip
            have f48 : y27.toInt ≠ 0 := b_neq rfl (by decide) c38
            refine lv_aload_n hx hb dX11_close_137 rfl (lv_at hl 3 rfl) ?_
            refine lv_bipush (v := 6) hx hb dX11_close_138 (by decide) ?_
            refine lv_iconst (v := (-1)) hx hb dX11_close_140 (by decide) ?_
            have r49 : Int32.toInt 6 = 6 := by decide
            have r50 : Int32.toInt (-1) = (-1) := by decide
            refine gA_int (gA_runV (As := [.int 6, .int (-1)]) (rest := []) (ci := 11) (q0 := 0) hx hb hml hown hg hP hD hK hS hA hnw hgk (x_ends l D ks H.size ad kk V36 L Z29 6 (-1) hMV36 ) w1171 w1173 w42 w156 w1174 rfl xgHouse hdV_yX11_ends ⟨Nat.le_of_ble_eq_true rfl, Nat.le_of_ble_eq_true rfl⟩ rfl hl.1 rfl (Nat.le_of_ble_eq_true rfl) dX11_close_141 ⟨z0, z0⟩) hP hD hK hS hA (fun z51 u52 H locs w53 hP hD hK hS => ?_)
            obtain ⟨V54, L55⟩ := u52
            obtain ⟨hMV54, ajV54, axL55⟩ := w53
            have axL55 : L = L55 := Eq.symm axL55
            subst axL55
            have hP : va_P D vwCl (xw ad kk V54 L Z29) H := hP
            have hD : va_D A (xw ad kk V54 L Z29) := hD
            have hMV54 : rgd bX V54 := hMV54
            have ajV54 : agr [(0, 9)] [] V36 V54 := ajV54
            have agV54 : agr [(0, 9), (3, 13), (3, 14), (3, 15), (4, 5), (4, 6), (5, 6), (5, 7), (5, 8), (5, 9), (5, 10), (5, 11), (5, 12), (5, 13), (5, 14), (44, 0)] [23, 24, 25, 26, 27, 28, 29, 30, 31, 32, 33, 34, 35, 36, 37, 39, 40, 67, 68, 69, 70, 71, 72, 73, 74, 75, 76, 77, 78, 79, 80, 81, 82, 83, 84, 85] V V54 := agV36.tr ajV54 (by decide) (by decide)
            refine lv_goto (tgt := 153) hx hb dX11_close_144 (by decide) ?_
            have pq56 : (V54 44 0).toInt = ((V28 44 0)).toInt := congrArg Int32.toInt ((ajV54 44 0 rfl).trans (ajV36 44 0 rfl))
            have rp57 : HI V54 Z29 b := (HI.ag (HI.ag xlp30_0.1 ajV36 (by decide)) ajV54 (by decide))
            refine W.know (fun kr1 kr2 => ?_)
            refine W.widen (k := zcc Z) (n := zss Z) (Nat.sub_le _ _) (Nat.sub_le _ _) ?_
            exact W.iret (v := z51) hx hb hr (fun t ht hW => ⟨⟨z51, (V54, L, Z29), rfl, ⟨hMV54, agV54, rfl, zoZ29, rp57, (show (V54 44 0).toInt ≤ (V 44 0).toInt + 340 from by first | exact om_8d93cc042622 klp30_0.2 xlp30_1 pq56 | first | omega | ((try (have i_t20 := Imp.go t20 (by omega))); omega))⟩, ⟨by rw [ht]; exact hP, va_K.moved hW.alike hK, hD⟩, by rw [ht]; exact kr1, by rw [ht]; exact kr2⟩, hS.F ht⟩) hS.2.2 dX11_close_153
        · skip
          have f58 : y25.toInt < 340 := b_nle (by decide) rfl c31
          refine lv_aload_n hx hb dX11_close_40 rfl (lv_at hl 3 rfl) ?_
          refine va_get (D := D) (ci := 11) (v := .ref (ad 3)) (fs := (xfHouse ad V28 L Z29)) (C := RX11) (T := TX11) (N := 10) hx hb hg inX11 hown hK hP 0 xgHouse rfl 3 (by decide) (hg _ w718) (fun _ h9 => h9) rfl dX11_close_41 ?_
          refine lv_iload_n hx hb dX11_close_44 rfl (lv_at hl 4 rfl) ?_
          refine gA_int (gA_runV (As := [.int p0]) (rest := []) (ci := 8) (q0 := 3) hx hb hml hown hg hP hD hK hS hA hnw hgk (x_isOpen l D ks H.size ad kk V28 L Z29 p0 hMV28 ) w1158 w1159 w1160 w164 w1161 rfl xgStock hdV_yX8_isOpen ⟨Nat.le_of_ble_eq_true rfl, Nat.le_of_ble_eq_true rfl⟩ rfl hl.1 rfl (Nat.le_of_ble_eq_true rfl) dX11_close_45 ⟨z0, z0⟩) hP hD hK hS hA (fun z59 u60 H locs w61 hP hD hK hS => ?_)
          obtain ⟨rgz59, t62⟩ := w61
          have rgz59 : 0 ≤ z59.toInt ∧ z59.toInt ≤ 1 := rgz59
          have t62 : Imp (z59.toInt = 1) (0 ≤ p0.toInt ∧ p0.toInt < (V28 3 12).toInt) := t62
          have pq63 : (V28 3 12).toInt = ((V 3 12)).toInt := congrArg Int32.toInt ((ajV28 3 12 rfl).trans (ajV10 3 12 rfl))
          refine lv_if_eq (tgt := 126) hx hb dX11_close_48 (by decide) (fun c64 => ?_) (fun c64 => ?_)
          · skip
            have f65 : z59.toInt = 0 := b_eq rfl (by decide) c64
            refine lv_aload_n hx hb dX11_close_126 rfl (lv_at hl 3 rfl) ?_
            refine va_get (D := D) (ci := 11) (v := .ref (ad 3)) (fs := (xfHouse ad V28 L Z29)) (C := RX11) (T := TX11) (N := 10) hx hb hg inX11 hown hK hP 0 xgHouse rfl 3 (by decide) (hg _ w718) (fun _ h9 => h9) rfl dX11_close_127 ?_
            refine gA_void (gA_runV (As := []) (rest := []) (ci := 8) (q0 := 3) hx hb hml hown hg hP hD hK hS hA hnw hgk (x_reopenHouse l D ks H.size ad kk V28 L Z29  hMV28 ) w1542 w1543 w1544 w164 w1545 rfl xgStock hdV_yX8_reopenHouse ⟨Nat.le_of_ble_eq_true rfl, Nat.le_of_ble_eq_true rfl⟩ rfl hl.1 rfl (Nat.le_of_ble_eq_true rfl) dX11_close_130 ⟨z0, z0⟩) hP hD hK hS hA (fun u67 H locs w68 hP hD hK hS => ?_)
            obtain ⟨V69, L70⟩ := u67
            obtain ⟨hMV69, ajV69, axL70⟩ := w68
            have axL70 : L = L70 := Eq.symm axL70
            subst axL70
            have hP : va_P D vwCl (xw ad kk V69 L Z29) H := hP
            have hD : va_D A (xw ad kk V69 L Z29) := hD
            have hMV69 : rgd bX V69 := hMV69
            have ajV69 : agr [] [23] V28 V69 := ajV69
            have agV69 : agr [(0, 9), (3, 13), (3, 14), (3, 15), (4, 5), (4, 6), (5, 6), (5, 7), (5, 8), (5, 9), (5, 10), (5, 11), (5, 12), (5, 13), (5, 14), (44, 0)] [23, 24, 25, 26, 27, 28, 29, 30, 31, 32, 33, 34, 35, 36, 37, 39, 40, 67, 68, 69, 70, 71, 72, 73, 74, 75, 76, 77, 78, 79, 80, 81, 82, 83, 84, 85] V V69 := agV28.tr ajV69 (by decide) (by decide)
            refine lv_iload_n hx hb dX11_close_133 rfl (lv_at hl 2 rfl) ?_
            refine lv_if_eq (tgt := 147) hx hb dX11_close_134 (by decide) (fun c71 => ?_) (fun c71 => ?_)
            · skip
              have f72 : y27.toInt = 0 := b_eq rfl (by decide) c71
              refine lv_aload_n hx hb dX11_close_147 rfl (lv_at hl 3 rfl) ?_
              refine lv_iconst (v := 0) hx hb dX11_close_148 (by decide) ?_
              refine lv_iload_n hx hb dX11_close_149 rfl (lv_at hl 1 rfl) ?_
              have r73 : Int32.toInt 0 = 0 := by decide
              refine gA_int (gA_runV (As := [.int 0, .int y26]) (rest := []) (ci := 11) (q0 := 0) hx hb hml hown hg hP hD hK hS hA hnw hgk (x_ends l D ks H.size ad kk V69 L Z29 0 y26 hMV69 ) w1171 w1173 w42 w156 w1174 rfl xgHouse hdV_yX11_ends ⟨Nat.le_of_ble_eq_true rfl, Nat.le_of_ble_eq_true rfl⟩ rfl hl.1 rfl (Nat.le_of_ble_eq_true rfl) dX11_close_150 ⟨z0, z0⟩) hP hD hK hS hA (fun z74 u75 H locs w76 hP hD hK hS => ?_)
              obtain ⟨V77, L78⟩ := u75
              obtain ⟨hMV77, ajV77, axL78⟩ := w76
              have axL78 : L = L78 := Eq.symm axL78
              subst axL78
              have hP : va_P D vwCl (xw ad kk V77 L Z29) H := hP
              have hD : va_D A (xw ad kk V77 L Z29) := hD
              have hMV77 : rgd bX V77 := hMV77
              have ajV77 : agr [(0, 9)] [] V69 V77 := ajV77
              have agV77 : agr [(0, 9), (3, 13), (3, 14), (3, 15), (4, 5), (4, 6), (5, 6), (5, 7), (5, 8), (5, 9), (5, 10), (5, 11), (5, 12), (5, 13), (5, 14), (44, 0)] [23, 24, 25, 26, 27, 28, 29, 30, 31, 32, 33, 34, 35, 36, 37, 39, 40, 67, 68, 69, 70, 71, 72, 73, 74, 75, 76, 77, 78, 79, 80, 81, 82, 83, 84, 85] V V77 := agV69.tr ajV77 (by decide) (by decide)
              have pq79 : (V77 44 0).toInt = ((V28 44 0)).toInt := congrArg Int32.toInt ((ajV77 44 0 rfl).trans (ajV69 44 0 rfl))
              have rp80 : HI V77 Z29 b := (HI.ag (HI.ag xlp30_0.1 ajV69 (by decide)) ajV77 (by decide))
              refine W.know (fun kr1 kr2 => ?_)
              refine W.widen (k := zcc Z) (n := zss Z) (Nat.sub_le _ _) (Nat.sub_le _ _) ?_
              exact W.iret (v := z74) hx hb hr (fun t ht hW => ⟨⟨z74, (V77, L, Z29), rfl, ⟨hMV77, agV77, rfl, zoZ29, rp80, (show (V77 44 0).toInt ≤ (V 44 0).toInt + 340 from by first | exact om_44c41a7cc1f7 xlp30_1 f58 pq79 | first | omega | ((try (have i_t62 := Imp.go t62 (by omega))); (try (have i_t20 := Imp.go t20 (by omega))); (try (have i_t20 := Imp.go t20 (by omega))); (try (have i_t62 := Imp.go t62 (by omega))); omega))⟩, ⟨by rw [ht]; exact hP, va_K.moved hW.alike hK, hD⟩, by rw [ht]; exact kr1, by rw [ht]; exact kr2⟩, hS.F ht⟩) hS.2.2 dX11_close_153
            · skip
              have f81 : y27.toInt ≠ 0 := b_neq rfl (by decide) c71
              refine lv_aload_n hx hb dX11_close_137 rfl (lv_at hl 3 rfl) ?_
              refine lv_bipush (v := 6) hx hb dX11_close_138 (by decide) ?_
              refine lv_iconst (v := (-1)) hx hb dX11_close_140 (by decide) ?_
              have r82 : Int32.toInt 6 = 6 := by decide
              have r83 : Int32.toInt (-1) = (-1) := by decide
              refine gA_int (gA_runV (As := [.int 6, .int (-1)]) (rest := []) (ci := 11) (q0 := 0) hx hb hml hown hg hP hD hK hS hA hnw hgk (x_ends l D ks H.size ad kk V69 L Z29 6 (-1) hMV69 ) w1171 w1173 w42 w156 w1174 rfl xgHouse hdV_yX11_ends ⟨Nat.le_of_ble_eq_true rfl, Nat.le_of_ble_eq_true rfl⟩ rfl hl.1 rfl (Nat.le_of_ble_eq_true rfl) dX11_close_141 ⟨z0, z0⟩) hP hD hK hS hA (fun z84 u85 H locs w86 hP hD hK hS => ?_)
              obtain ⟨V87, L88⟩ := u85
              obtain ⟨hMV87, ajV87, axL88⟩ := w86
              have axL88 : L = L88 := Eq.symm axL88
              subst axL88
              have hP : va_P D vwCl (xw ad kk V87 L Z29) H := hP
              have hD : va_D A (xw ad kk V87 L Z29) := hD
              have hMV87 : rgd bX V87 := hMV87
              have ajV87 : agr [(0, 9)] [] V69 V87 := ajV87
              have agV87 : agr [(0, 9), (3, 13), (3, 14), (3, 15), (4, 5), (4, 6), (5, 6), (5, 7), (5, 8), (5, 9), (5, 10), (5, 11), (5, 12), (5, 13), (5, 14), (44, 0)] [23, 24, 25, 26, 27, 28, 29, 30, 31, 32, 33, 34, 35, 36, 37, 39, 40, 67, 68, 69, 70, 71, 72, 73, 74, 75, 76, 77, 78, 79, 80, 81, 82, 83, 84, 85] V V87 := agV69.tr ajV87 (by decide) (by decide)
              refine lv_goto (tgt := 153) hx hb dX11_close_144 (by decide) ?_
              have pq89 : (V87 44 0).toInt = ((V28 44 0)).toInt := congrArg Int32.toInt ((ajV87 44 0 rfl).trans (ajV69 44 0 rfl))
              have rp90 : HI V87 Z29 b := (HI.ag (HI.ag xlp30_0.1 ajV69 (by decide)) ajV87 (by decide))
              refine W.know (fun kr1 kr2 => ?_)
              refine W.widen (k := zcc Z) (n := zss Z) (Nat.sub_le _ _) (Nat.sub_le _ _) ?_
              exact W.iret (v := z84) hx hb hr (fun t ht hW => ⟨⟨z84, (V87, L, Z29), rfl, ⟨hMV87, agV87, rfl, zoZ29, rp90, (show (V87 44 0).toInt ≤ (V 44 0).toInt + 340 from by first | exact om_44c41a7cc1f7 xlp30_1 f58 pq89 | first | omega | ((try (have i_t62 := Imp.go t62 (by omega))); (try (have i_t20 := Imp.go t20 (by omega))); (try (have i_t20 := Imp.go t20 (by omega))); (try (have i_t62 := Imp.go t62 (by omega))); omega))⟩, ⟨by rw [ht]; exact hP, va_K.moved hW.alike hK, hD⟩, by rw [ht]; exact kr1, by rw [ht]; exact kr2⟩, hS.F ht⟩) hS.2.2 dX11_close_153
          · skip
            have f91 : z59.toInt ≠ 0 := b_neq rfl (by decide) c64
            have rh92 := Imp.go t62 (by omega)
            refine lv_aload_n hx hb dX11_close_51 rfl (lv_at hl 3 rfl) ?_
            refine va_get (D := D) (ci := 11) (v := .ref (ad 3)) (fs := (xfHouse ad V28 L Z29)) (C := RX11) (T := TX11) (N := 10) hx hb hg inX11 hown hK hP 0 xgHouse rfl 3 (by decide) (hg _ w718) (fun _ h9 => h9) rfl dX11_close_52 ?_
            refine lv_iload_n hx hb dX11_close_55 rfl (lv_at hl 4 rfl) ?_
            refine gA_int (gA_runV (As := [.int p0]) (rest := []) (ci := 8) (q0 := 3) hx hb hml hown hg hP hD hK hS hA hnw hgk (x_innermost l D ks H.size ad kk V28 L Z29 p0 hMV28 (by first | exact om_1ef0ff8d7011 r22.2 pq63 ((Imp.go t20 (imp_a (rgz17.1) (rgz17.2) (f24))).1) ((Imp.go t62 (imp_a (rgz59.1) (rgz59.2) (f91))).2) | first | omega | ((try (have i_t62 := Imp.go t62 (by omega))); (try (have i_t20 := Imp.go t20 (by omega))); (try (have i_t20 := Imp.go t20 (by omega))); (try (have i_t62 := Imp.go t62 (by omega))); omega))) w1524 w1525 w1526 w164 w1527 rfl xgStock hdV_yX8_innermost ⟨Nat.le_of_ble_eq_true rfl, Nat.le_of_ble_eq_true rfl⟩ rfl hl.1 rfl (Nat.le_of_ble_eq_true rfl) dX11_close_56 ⟨z0, z0⟩) hP hD hK hS hA (fun z93 u94 H locs w95 hP hD hK hS => ?_)
            have rgz93 := w95
            have rgz93 : 0 ≤ z93.toInt ∧ z93.toInt ≤ 39 := rgz93
            refine lv_istore (lv' := [(5, .int z93), (4, .int y25), (3, .int y26), (2, .int y27), (0, .ref (ad 0)), (1, .int p0)]) hx hb dX11_close_59 hl (by decide) rfl (fun ls hl => ?_)
            refine lv_aload_n hx hb dX11_close_61 rfl (lv_at hl 4 rfl) ?_
            refine va_get (D := D) (ci := 11) (v := .ref (ad 3)) (fs := (xfHouse ad V28 L Z29)) (C := RX11) (T := TX11) (N := 10) hx hb hg inX11 hown hK hP 0 xgHouse rfl 3 (by decide) (hg _ w718) (fun _ h9 => h9) rfl dX11_close_62 ?_
            refine lv_iload hx hb dX11_close_65 (lv_at hl 0 rfl) ?_
            refine gA_int (gA_runV (As := [.int z93]) (rest := []) (ci := 8) (q0 := 3) hx hb hml hown hg hP hD hK hS hA hnw hgk (x_latestMade l D ks H.size ad kk V28 L Z29 z93 hMV28 ) w1532 w1533 w1534 w164 w1535 rfl xgStock hdV_yX8_latestMade ⟨Nat.le_of_ble_eq_true rfl, Nat.le_of_ble_eq_true rfl⟩ rfl hl.1 rfl (Nat.le_of_ble_eq_true rfl) dX11_close_67 ⟨z0, z0⟩) hP hD hK hS hA (fun z96 u97 H locs w98 hP hD hK hS => ?_)
            obtain ⟨rgz96, t99⟩ := w98
            have rgz96 : (-1) ≤ z96.toInt ∧ z96.toInt ≤ 299 := rgz96
            have t99 : z96.toInt < (V28 3 13).toInt := t99
            have r100 : 0 ≤ ((V28 3 13)).toInt ∧ ((V28 3 13)).toInt ≤ 300 := hMV28 3 13
            refine lv_istore (lv' := [(6, .int z96), (5, .int z93), (4, .int y25), (3, .int y26), (2, .int y27), (0, .ref (ad 0)), (1, .int p0)]) hx hb dX11_close_70 hl (by decide) rfl (fun ls hl => ?_)
            refine lv_iload hx hb dX11_close_72 (lv_at hl 0 rfl) ?_
            refine lv_iconst (v := (-1)) hx hb dX11_close_74 (by decide) ?_
            refine lv_icmp_eq (tgt := 111) hx hb dX11_close_75 (by decide) (fun c101 => ?_) (fun c101 => ?_)
            · skip
              have f102 : z96.toInt = (-1) := b_eq rfl (by decide) c101
              refine lv_aload_n hx hb dX11_close_111 rfl (lv_at hl 5 rfl) ?_
              refine va_get (D := D) (ci := 11) (v := .ref (ad 3)) (fs := (xfHouse ad V28 L Z29)) (C := RX11) (T := TX11) (N := 10) hx hb hg inX11 hown hK hP 0 xgHouse rfl 3 (by decide) (hg _ w718) (fun _ h9 => h9) rfl dX11_close_112 ?_
              refine lv_iload hx hb dX11_close_115 (lv_at hl 1 rfl) ?_
              refine gA_void (gA_runV (As := [.int z93]) (rest := []) (ci := 8) (q0 := 3) hx hb hml hown hg hP hD hK hS hA hnw hgk (x_shut l D ks H.size ad kk V28 L Z29 z93 hMV28 (by first | exact om_13ba01c174fe rgz93.1 rgz93.2 | first | omega | ((try (have i_t62 := Imp.go t62 (by omega))); (try (have i_t20 := Imp.go t20 (by omega))); (try (have i_t20 := Imp.go t20 (by omega))); (try (have i_t62 := Imp.go t62 (by omega))); omega))) w1541 w1028 w1029 w164 w1030 rfl xgStock hdV_yX8_shut ⟨Nat.le_of_ble_eq_true rfl, Nat.le_of_ble_eq_true rfl⟩ rfl hl.1 rfl (Nat.le_of_ble_eq_true rfl) dX11_close_117 ⟨z0, z0⟩) hP hD hK hS hA (fun u104 H locs w105 hP hD hK hS => ?_)
              obtain ⟨V106, L107⟩ := u104
              obtain ⟨hMV106, ajV106, axL107⟩ := w105
              have axL107 : L = L107 := Eq.symm axL107
              subst axL107
              have hP : va_P D vwCl (xw ad kk V106 L Z29) H := hP
              have hD : va_D A (xw ad kk V106 L Z29) := hD
              have hMV106 : rgd bX V106 := hMV106
              have ajV106 : agr [] [23, 24] V28 V106 := ajV106
              have agV106 : agr [(0, 9), (3, 13), (3, 14), (3, 15), (4, 5), (4, 6), (5, 6), (5, 7), (5, 8), (5, 9), (5, 10), (5, 11), (5, 12), (5, 13), (5, 14), (44, 0)] [23, 24, 25, 26, 27, 28, 29, 30, 31, 32, 33, 34, 35, 36, 37, 39, 40, 67, 68, 69, 70, 71, 72, 73, 74, 75, 76, 77, 78, 79, 80, 81, 82, 83, 84, 85] V V106 := agV28.tr ajV106 (by decide) (by decide)
              obtain ⟨z108, ez108⟩ : ∃ y : Int32, y = y25 + 1 := ⟨_, rfl⟩
              have hz108 : z108.toInt = y25.toInt + 1 := i_add ez108 rfl (by decide) (by (first | exact om_ba9803c062a2 klp30_0.1 f58 | omega))
              refine lv_iinc (v := z108) (lv' := [(4, .int z108), (6, .int z96), (5, .int z93), (3, .int y26), (2, .int y27), (0, .ref (ad 0)), (1, .int p0)]) hx hb dX11_close_120 hl (k := 2) rfl (by rw [ez108]; rfl) (by decide) rfl (fun ls hl => ?_)
              refine lv_goto (tgt := 32) hx hb dX11_close_123 (by decide) ?_
              have pq109 : (V106 44 0).toInt = ((V28 44 0)).toInt := congrArg Int32.toInt (ajV106 44 0 rfl)
              have mq110 : MQZ V106 Z29 b := (MQZ.ag xlp30_0 ajV106 (by decide) (by decide) rfl rfl rfl)
              exact ihlp30 z108 y26 y27 V106 Z29 H locs ls (by first | exact om_2bcde7824b0c klp30_0.1 f58 hz108 | first | omega | ((try (have i_t62 := Imp.go t62 (by omega))); (try (have i_t20 := Imp.go t20 (by omega))); (try (have i_t20 := Imp.go t20 (by omega))); (try (have i_t62 := Imp.go t62 (by omega))); omega)) mq110 (show (V106 44 0).toInt ≤ (V 44 0).toInt + z108.toInt from by first | exact om_3a4312d12b86 xlp30_1 hz108 pq109 | first | omega | ((try (have i_t62 := Imp.go t62 (by omega))); (try (have i_t20 := Imp.go t20 (by omega))); (try (have i_t20 := Imp.go t20 (by omega))); (try (have i_t62 := Imp.go t62 (by omega))); omega)) (by first | exact om_8a6183599dcf hn hz108 | first | omega | ((try (have i_t62 := Imp.go t62 (by omega))); (try (have i_t20 := Imp.go t20 (by omega))); (try (have i_t20 := Imp.go t20 (by omega))); (try (have i_t62 := Imp.go t62 (by omega))); omega)) (agr.tr (agr.tr agr.rf ajV28 (by decide) (by decide)) ajV106 (by decide) (by decide)) hMV106 zoZ29 hK hP hD hS (lv_sub hl [0, 3, 4, 5, 6] rfl)
            · skip
              have f111 : z96.toInt ≠ (-1) := b_neq rfl (by decide) c101
              have mq112 : MQZ V28 Z29 b := xlp30_0
              have pq113 : (V28 43 (5 * b + 2)).toInt = ((V 43 (5 * b + 2))).toInt := congrArg Int32.toInt ((ajV28 43 (5 * b + 2) rfl).trans (ajV10 43 (5 * b + 2) rfl))
              have r114 : 0 ≤ ((V 43 (5 * b + 2))).toInt ∧ ((V 43 (5 * b + 2))).toInt ≤ ((xcap (5 * b + 2) : Nat) : Int) := hMV 43 (5 * b + 2)
              have r115 : xcap (5 * b + 2) = 24 := xcap_2
              have kcp := i_clamp (x := z96) rfl (by (first | exact om_e3b1d6ac9ce8 rgz96.1 f111 | omega))
              have hoc := mq112.1.2.2.1 (Int32.toNatClampNeg z96) (by omega)
              have h26 : 0 ≤ (V28 26 (Int32.toNatClampNeg z96)).toInt := (hMV28 26 (Int32.toNatClampNeg z96)).1
              obtain ⟨V116, hV116⟩ : ∃ z, z = up2 V28 44 0 (V28 44 0 + 1) := ⟨_, rfl⟩
              have h44 : (V28 44 0 + 1).toInt = (V28 44 0).toInt + 1 := i_add rfl rfl (by decide) (by have := i_full (V28 44 0); omega)
              have hP : va_P D vwCl (xw ad kk V116 L Z29) H := by rw [hV116, xw_44]; exact hP
              have hD : va_D A (xw ad kk V116 L Z29) := by rw [hV116, xw_44]; exact hD
              have hMV116 : rgd bX V116 := rgd_44 hMV28 hV116
              have ajV116 : agr [(44, 0)] [] V28 V116 := agr.up agr.rf hV116 rfl
              have agV116 : agr [(0, 9), (3, 13), (3, 14), (3, 15), (4, 5), (4, 6), (5, 6), (5, 7), (5, 8), (5, 9), (5, 10), (5, 11), (5, 12), (5, 13), (5, 14), (44, 0)] [23, 24, 25, 26, 27, 28, 29, 30, 31, 32, 33, 34, 35, 36, 37, 39, 40, 67, 68, 69, 70, 71, 72, 73, 74, 75, 76, 77, 78, 79, 80, 81, 82, 83, 84, 85] V V116 := agV28.tr ajV116 (by decide) (by decide)
              have e44 : (V116 44 0).toInt = (V28 44 0).toInt + 1 := by rw [hV116, up2_ss]; exact h44
              have mt117 : MT V116 Z29 b := MQZ.mt mq112 (by omega) hV116 h44 (by omega)
              refine lv_aload_n hx hb dX11_close_78 rfl (lv_at hl 5 rfl) ?_
              refine va_get (D := D) (ci := 11) (v := .ref (ad 5)) (fs := (xfHouse ad V116 L Z29)) (C := RX11) (T := TX11) (N := 10) hx hb hg inX11 hown hK hP 0 xgHouse rfl 5 (by decide) (hg _ w720) (fun _ h9 => h9) rfl dX11_close_79 ?_
              refine lv_iload hx hb dX11_close_82 (lv_at hl 0 rfl) ?_
              refine lv_iconst (v := 0) hx hb dX11_close_84 (by decide) ?_
              have r118 : Int32.toInt 0 = 0 := by decide
              have pq119 : (V116 3 13).toInt = ((V28 3 13)).toInt := congrArg Int32.toInt (up2_o hV116 (by decide))
              refine W.know (fun k121 k122 => ?_)
              obtain ⟨Hk120, hHk120⟩ : ∃ z, z = H := ⟨_, rfl⟩
              have k121 : Hk120.size ≤ s.heap.size + (zcc Z - zcc Z29) := by rw [hHk120]; exact k121
              have k122 : tot Hk120 ≤ tot s.heap + (zss Z - zss Z29) := by rw [hHk120]; exact k122
              refine gZ_void (gA_runV (As := [.int z96, .int 0]) (rest := []) (ci := 5) (q0 := 5) hx hb hml hown hg hP hD hK hS hA hnw hgk (x_pushClose l D ks H.size ad kk V116 L Z29 z96 0 (b) hMV116 (by first | exact om_92df152472f1 rgz96.1 rgz96.2 f111 | first | omega | ((try (have i_t62 := Imp.go t62 (by omega))); (try (have i_t20 := Imp.go t20 (by omega))); (try (have i_t20 := Imp.go t20 (by omega))); (try (have i_t62 := Imp.go t62 (by omega))); omega)) (show b < 2 from by first | exact om_f940a4667dd6 hb2 | first | omega | ((try (have i_t62 := Imp.go t62 (by omega))); (try (have i_t20 := Imp.go t20 (by omega))); (try (have i_t20 := Imp.go t20 (by omega))); (try (have i_t62 := Imp.go t62 (by omega))); omega)) mt117 (show z96.toInt < (V116 3 13).toInt from by first | exact om_ad53b8b0928c t99 pq119 | first | omega | ((try (have i_t62 := Imp.go t62 (by omega))); (try (have i_t20 := Imp.go t20 (by omega))); (try (have i_t20 := Imp.go t20 (by omega))); (try (have i_t62 := Imp.go t62 (by omega))); omega))) w1536 w1321 w1322 w171 w1323 rfl xgMachine hdV_yX5_pushClose ⟨Nat.le_of_ble_eq_true rfl, Nat.le_of_ble_eq_true rfl⟩ rfl hl.1 rfl (Nat.le_of_ble_eq_true rfl) dX11_close_85 ⟨z1 zoZ29.1, z1 zoZ29.2.1⟩) hD hS hA (fun u124 H locs w125 hP hD hK hS y126 y127 => ?_)
              obtain ⟨V128, L129, Z130⟩ := u124
              obtain ⟨hMV128, ajV128, axL129, zlZ130, t132⟩ := w125
              have axL129 : L = L129 := Eq.symm axL129
              subst axL129
              have hP : va_P D vwCl (xw ad kk V128 L Z130) H := hP
              have hD : va_D A (xw ad kk V128 L Z130) := hD
              have hK : va_K D vwCl (xty kk Z130) s := hK
              have hMV128 : rgd bX V128 := hMV128
              have ajV128 : agr [(5, 6), (5, 9)] [67, 68, 69, 70, 71, 72, 73, 74, 75, 76, 77, 78, 79, 80, 81, 82, 83, 84, 85] V116 V128 := ajV128
              have agV128 : agr [(0, 9), (3, 13), (3, 14), (3, 15), (4, 5), (4, 6), (5, 6), (5, 7), (5, 8), (5, 9), (5, 10), (5, 11), (5, 12), (5, 13), (5, 14), (44, 0)] [23, 24, 25, 26, 27, 28, 29, 30, 31, 32, 33, 34, 35, 36, 37, 39, 40, 67, 68, 69, 70, 71, 72, 73, 74, 75, 76, 77, 78, 79, 80, 81, 82, 83, 84, 85] V V128 := agV116.tr ajV128 (by decide) (by decide)
              have zlZ130 : ZL Z29 Z130 := zlZ130
              have zoZ130 : ZL Z Z130 := ZL.tr zoZ29 zlZ130
              have ziZ130 := zlZ130.1
              have zjZ130 := zlZ130.2.1
              have zkZ130 := zlZ130.2.2.1
              have zmZ130 := zoZ130.1
              have znZ130 := zoZ130.2.1
              have zpZ29_Z130 := zoZ29.1
              have zqZ29_Z130 := zoZ29.2.1
              have y126 : H.size ≤ Hk120.size + (zcc Z29 - zcc Z130) := by rw [hHk120]; exact y126
              have y127 : tot H ≤ tot Hk120 + (zss Z29 - zss Z130) := by rw [hHk120]; exact y127
              refine W.tight (k := zcc Z - zcc Z130) (n := zss Z - zss Z130) (by first | exact tg9 y126 k121 zlZ130.1 zoZ29.1 | omega) (by first | exact tg9 y127 k122 zlZ130.2.1 zoZ29.2.1 | omega) ?_
              have t132 : MJ V128 Z130 b := t132
              refine lv_aload_n hx hb dX11_close_88 rfl (lv_at hl 5 rfl) ?_
              refine va_get (D := D) (ci := 11) (v := .ref (ad 5)) (fs := (xfHouse ad V128 L Z130)) (C := RX11) (T := TX11) (N := 10) hx hb hg inX11 hown hK hP 0 xgHouse rfl 5 (by decide) (hg _ w720) (fun _ h9 => h9) rfl dX11_close_89 ?_
              refine W.know (fun k134 k135 => ?_)
              obtain ⟨Hk133, hHk133⟩ : ∃ z, z = H := ⟨_, rfl⟩
              have k134 : Hk133.size ≤ s.heap.size + (zcc Z - zcc Z130) := by rw [hHk133]; exact k134
              have k135 : tot Hk133 ≤ tot s.heap + (zss Z - zss Z130) := by rw [hHk133]; exact k135
              refine gZ_void (gA_runV (As := []) (rest := []) (ci := 5) (q0 := 5) hx hb hml hown hg hP hD hK hS hA hnw hgk (x_run l D ks H.size ad kk V128 L Z130 (b) hMV128 (show b < 2 from by first | exact om_f940a4667dd6 hb2 | first | omega | ((try (have i_t62 := Imp.go t62 (by omega))); (try (have i_t20 := Imp.go t20 (by omega))); (try (have i_t20 := Imp.go t20 (by omega))); (try (have i_t62 := Imp.go t62 (by omega))); omega)) t132) w1247 w1248 w1249 w171 w1250 rfl xgMachine hdV_yX5_run ⟨Nat.le_of_ble_eq_true rfl, Nat.le_of_ble_eq_true rfl⟩ rfl hl.1 rfl (Nat.le_of_ble_eq_true rfl) dX11_close_92 ⟨z1 zoZ130.1, z1 zoZ130.2.1⟩) hD hS hA (fun u137 H locs w138 hP hD hK hS y139 y140 => ?_)
              obtain ⟨V141, L142, Z143⟩ := u137
              obtain ⟨hMV141, ajV141, axL142, zlZ143, t145⟩ := w138
              have axL142 : L = L142 := Eq.symm axL142
              subst axL142
              have hP : va_P D vwCl (xw ad kk V141 L Z143) H := hP
              have hD : va_D A (xw ad kk V141 L Z143) := hD
              have hK : va_K D vwCl (xty kk Z143) s := hK
              have hMV141 : rgd bX V141 := hMV141
              have ajV141 : agr [(3, 13), (3, 14), (3, 15), (4, 5), (4, 6), (5, 6), (5, 7), (5, 8), (5, 9), (5, 10), (5, 11), (5, 12), (5, 13), (5, 14)] [24, 25, 26, 27, 28, 29, 30, 31, 32, 33, 34, 35, 36, 37, 39, 40, 67, 68, 69, 70, 71, 72, 73, 74, 75, 76, 77, 78, 79, 80, 81, 82, 83, 84, 85] V128 V141 := ajV141
              have agV141 : agr [(0, 9), (3, 13), (3, 14), (3, 15), (4, 5), (4, 6), (5, 6), (5, 7), (5, 8), (5, 9), (5, 10), (5, 11), (5, 12), (5, 13), (5, 14), (44, 0)] [23, 24, 25, 26, 27, 28, 29, 30, 31, 32, 33, 34, 35, 36, 37, 39, 40, 67, 68, 69, 70, 71, 72, 73, 74, 75, 76, 77, 78, 79, 80, 81, 82, 83, 84, 85] V V141 := agV128.tr ajV141 (by decide) (by decide)
              have zlZ143 : ZL Z130 Z143 := zlZ143
              have zoZ143 : ZL Z Z143 := ZL.tr zoZ130 zlZ143
              have ziZ143 := zlZ143.1
              have zjZ143 := zlZ143.2.1
              have zkZ143 := zlZ143.2.2.1
              have zmZ143 := zoZ143.1
              have znZ143 := zoZ143.2.1
              have zpZ130_Z143 := zoZ130.1
              have zqZ130_Z143 := zoZ130.2.1
              have y139 : H.size ≤ Hk133.size + (zcc Z130 - zcc Z143) := by rw [hHk133]; exact y139
              have y140 : tot H ≤ tot Hk133 + (zss Z130 - zss Z143) := by rw [hHk133]; exact y140
              refine W.tight (k := zcc Z - zcc Z143) (n := zss Z - zss Z143) (by first | exact tg9 y139 k134 zlZ143.1 zoZ130.1 | omega) (by first | exact tg9 y140 k135 zlZ143.2.1 zoZ130.2.1 | omega) ?_
              have t145 : MJ V141 Z143 b := t145
              refine lv_iload_n hx hb dX11_close_95 rfl (lv_at hl 4 rfl) ?_
              refine lv_aload_n hx hb dX11_close_96 rfl (lv_at hl 5 rfl) ?_
              refine va_get (D := D) (ci := 11) (v := .ref (ad 5)) (fs := (xfHouse ad V141 L Z143)) (C := RX11) (T := TX11) (N := 10) hx hb hg inX11 hown hK hP 0 xgHouse rfl 5 (by decide) (hg _ w720) (fun _ h9 => h9) rfl dX11_close_97 ?_
              refine gA_int (gA_runV (As := []) (rest := [.int y27]) (ci := 5) (q0 := 5) hx hb hml hown hg hP hD hK hS hA hnw hgk (x_isSpent l D ks H.size ad kk V141 L Z143  hMV141 ) w1537 w1538 w1539 w171 w1540 rfl xgMachine hdV_yX5_isSpent ⟨Nat.le_of_ble_eq_true rfl, Nat.le_of_ble_eq_true rfl⟩ rfl hl.1 rfl (Nat.le_of_ble_eq_true rfl) dX11_close_100 ⟨z0, z0⟩) hP hD hK hS hA (fun z146 u147 H locs w148 hP hD hK hS => ?_)
              have rgz146 := w148
              have rgz146 : 0 ≤ z146.toInt ∧ z146.toInt ≤ 1 := rgz146
              refine lv_ior hx hb dX11_close_103 ?_
              refine lv_topi (fun z149 ez149 => ?_)
              refine lv_istore_n (lv' := [(2, .int z149), (6, .int z96), (5, .int z93), (4, .int y25), (3, .int y26), (0, .ref (ad 0)), (1, .int p0)]) hx hb dX11_close_104 rfl hl (by decide) rfl (fun ls hl => ?_)
              obtain ⟨z150, ez150⟩ : ∃ y : Int32, y = y26 + 1 := ⟨_, rfl⟩
              refine lv_iinc (v := z150) (lv' := [(3, .int z150), (2, .int z149), (6, .int z96), (5, .int z93), (4, .int y25), (0, .ref (ad 0)), (1, .int p0)]) hx hb dX11_close_105 hl (k := 4) rfl (by rw [ez150]; rfl) (by decide) rfl (fun ls hl => ?_)
              refine lv_goto (tgt := 120) hx hb dX11_close_108 (by decide) ?_
              obtain ⟨z151, ez151⟩ : ∃ y : Int32, y = y25 + 1 := ⟨_, rfl⟩
              have hz151 : z151.toInt = y25.toInt + 1 := i_add ez151 rfl (by decide) (by (first | exact om_ba9803c062a2 klp30_0.1 f58 | omega))
              refine lv_iinc (v := z151) (lv' := [(4, .int z151), (3, .int z150), (2, .int z149), (6, .int z96), (5, .int z93), (0, .ref (ad 0)), (1, .int p0)]) hx hb dX11_close_120 hl (k := 4) rfl (by rw [ez151]; rfl) (by decide) rfl (fun ls hl => ?_)
              refine lv_goto (tgt := 32) hx hb dX11_close_123 (by decide) ?_
              have pq152 : (V141 44 0).toInt = ((V28 44 0 + 1)).toInt := congrArg Int32.toInt ((ajV141 44 0 rfl).trans ((ajV128 44 0 rfl).trans (up2_s hV116)))
              have mq153 : MQZ V141 Z143 b := (⟨MJ.hi t145, Or.inr t145⟩ : MQZ V141 Z143 b)
              exact ihlp30 z151 z150 z149 V141 Z143 H locs ls (by first | exact om_2bcde7824b0c klp30_0.1 f58 hz151 | first | omega | ((try (have i_t62 := Imp.go t62 (by omega))); (try (have i_t20 := Imp.go t20 (by omega))); (try (have i_t20 := Imp.go t20 (by omega))); (try (have i_t62 := Imp.go t62 (by omega))); omega)) mq153 (show (V141 44 0).toInt ≤ (V 44 0).toInt + z151.toInt from by first | exact om_23f5d950775b xlp30_1 h44 hz151 pq152 | first | omega | ((try (have i_t62 := Imp.go t62 (by omega))); (try (have i_t20 := Imp.go t20 (by omega))); (try (have i_t20 := Imp.go t20 (by omega))); (try (have i_t62 := Imp.go t62 (by omega))); omega)) (by first | exact om_8a6183599dcf hn hz151 | first | omega | ((try (have i_t62 := Imp.go t62 (by omega))); (try (have i_t20 := Imp.go t20 (by omega))); (try (have i_t20 := Imp.go t20 (by omega))); (try (have i_t62 := Imp.go t62 (by omega))); omega)) (agr.tr (agr.tr (agr.up (agr.tr agr.rf ajV28 (by decide) (by decide)) hV116 rfl) ajV128 (by decide) (by decide)) ajV141 (by decide) (by decide)) hMV141 zoZ143 hK hP hD hS (lv_sub hl [0, 1, 2, 5, 6] rfl)
    have r154 : Int32.toInt 0 = 0 := by decide
    have pq155 : (V10 44 0).toInt = ((V 44 0)).toInt := congrArg Int32.toInt (ajV10 44 0 rfl)
    have hi156 : HI V10 Z b := (HI.ag hi ajV10 (by decide))
    have mq157 : MQZ V10 Z b := (⟨hi156, Or.inl (by omega)⟩ : MQZ V10 Z b)
    exact lp30 ((340 - (Int32.toInt 0) + 1 : Int).toNat) 0 0 0 V10 Z H locs ls (by decide) mq157 (show (V10 44 0).toInt ≤ (V 44 0).toInt + (Int32.toInt 0) from by first | exact om_4c3fb6bc78c8 r154 pq155 | first | omega | ((try (have i_t20 := Imp.go t20 (by omega))); omega)) (by first | omega | ((try (have i_t20 := Imp.go t20 (by omega))); omega)) agr.rf hMV10 zoZ hK hP hD hS (lv_sub hl [0, 1, 2, 3, 4] rfl)
  · skip
    have f158 : z17.toInt = 0 := b_eq rfl (by decide) c23
    refine lv_aload_n hx hb dX11_close_18 rfl (lv_at hl 0 rfl) ?_
    refine lv_iconst (v := 3) hx hb dX11_close_19 (by decide) ?_
    refine lv_iconst (v := (-1)) hx hb dX11_close_20 (by decide) ?_
    have r159 : Int32.toInt 3 = 3 := by decide
    have r160 : Int32.toInt (-1) = (-1) := by decide
    refine gA_int (gA_runV (As := [.int 3, .int (-1)]) (rest := []) (ci := 11) (q0 := 0) hx hb hml hown hg hP hD hK hS hA hnw hgk (x_ends l D ks H.size ad kk V10 L Z 3 (-1) hMV10 ) w1171 w1173 w42 w156 w1174 rfl xgHouse hdV_yX11_ends ⟨Nat.le_of_ble_eq_true rfl, Nat.le_of_ble_eq_true rfl⟩ rfl hl.1 rfl (Nat.le_of_ble_eq_true rfl) dX11_close_21 ⟨z0, z0⟩) hP hD hK hS hA (fun z161 u162 H locs w163 hP hD hK hS => ?_)
    obtain ⟨V164, L165⟩ := u162
    obtain ⟨hMV164, ajV164, axL165⟩ := w163
    have axL165 : L = L165 := Eq.symm axL165
    subst axL165
    have hP : va_P D vwCl (xw ad kk V164 L Z) H := hP
    have hD : va_D A (xw ad kk V164 L Z) := hD
    have hMV164 : rgd bX V164 := hMV164
    have ajV164 : agr [(0, 9)] [] V10 V164 := ajV164
    have agV164 : agr [(0, 9), (3, 13), (3, 14), (3, 15), (4, 5), (4, 6), (5, 6), (5, 7), (5, 8), (5, 9), (5, 10), (5, 11), (5, 12), (5, 13), (5, 14), (44, 0)] [23, 24, 25, 26, 27, 28, 29, 30, 31, 32, 33, 34, 35, 36, 37, 39, 40, 67, 68, 69, 70, 71, 72, 73, 74, 75, 76, 77, 78, 79, 80, 81, 82, 83, 84, 85] V V164 := agV10.tr ajV164 (by decide) (by decide)
    have pq166 : (V164 44 0).toInt = ((V 44 0)).toInt := congrArg Int32.toInt ((ajV164 44 0 rfl).trans (ajV10 44 0 rfl))
    have hi167 : HI V164 Z b := (HI.ag (HI.ag hi ajV10 (by decide)) ajV164 (by decide))
    refine W.know (fun kr1 kr2 => ?_)
    refine W.widen (k := zcc Z) (n := zss Z) (Nat.sub_le _ _) (Nat.sub_le _ _) ?_
    exact W.iret (v := z161) hx hb hr (fun t ht hW => ⟨⟨z161, (V164, L, Z), rfl, ⟨hMV164, agV164, rfl, zoZ, hi167, (show (V164 44 0).toInt ≤ (V 44 0).toInt + 340 from by first | exact om_d7c9b3cd7334 pq166 | first | omega | ((try (have i_t20 := Imp.go t20 (by omega))); omega))⟩, ⟨by rw [ht]; exact hP, va_K.moved hW.alike hK, hD⟩, by rw [ht]; exact kr1, by rw [ht]; exact kr2⟩, hS.F ht⟩) hS.2.2 dX11_close_24
