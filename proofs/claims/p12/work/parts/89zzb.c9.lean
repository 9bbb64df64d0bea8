/-! an E's orders, as the class has them -/
theorem irem_e {x y z : Int32} {n : Int} (e : z = x - x / y * y) (hy : y.toInt = n) (h0 : 0 ≤ x.toInt) (hn : 0 < n) : z.toInt = x.toInt % n := by
  have d : (x / y).toInt = x.toInt / n := idiv_l rfl hy h0 hn
  have f := i_full x
  have q1 : 0 ≤ x.toInt / n * n := Int.mul_nonneg (Int.ediv_nonneg h0 (Int.le_of_lt hn)) (Int.le_of_lt hn)
  have q2 : x.toInt / n * n ≤ x.toInt := Int.ediv_mul_le _ (by omega)
  have m : (x / y * y).toInt = x.toInt / n * n := i_mul rfl d hy ⟨by omega, by omega⟩
  have s : z.toInt = x.toInt - x.toInt / n * n := i_sub e rfl m ⟨by omega, by omega⟩
  rw [s, Int.emod_def, Int.mul_comm]
theorem enO_i : ∀ o : Fin 16, (enO o.val = 0 ↔ o.val = 0) ∧ (enO o.val = 1 ↔ o.val = 1) ∧ (enO o.val = 2 ↔ o.val = 3) ∧ (enO o.val = 3 ↔ o.val = 4) ∧ (enO o.val = 4 ↔ o.val = 15) ∧ (enO o.val = 5 ↔ o.val = 6) ∧ (enO o.val = 6 ↔ o.val = 7) ∧ (enO o.val = 7 ↔ o.val = 5) ∧ (enO o.val = 8 ↔ o.val = 8) ∧ (enO o.val = 9 ↔ o.val = 9) ∧ (enO o.val = 10 ↔ o.val = 2) ∧ (enO o.val = 11 ↔ o.val = 11) ∧ (enO o.val = 12 ↔ o.val = 10) ∧ (enO o.val = 13 ↔ o.val = 12) ∧ (enO o.val = 14 ↔ o.val = 13) ∧ (enO o.val = 15 ↔ o.val = 14) := by decide
theorem enO_0 : ∀ o : Fin 16, 0 ≤ enO o.val := by decide
section OQc
variable {B : Bk} {nd : Nat} {ar : Bool} {i k q : Nat}
theorem OQ.op (h : OQ B nd ar i k q) : opf B.1 i < 16 := by
  obtain ⟨f, h⟩ := h
  cases f with
  | zero => exact h.elim
  | succ f =>
    rcases h.2.2 with h | h | h | h | h | h | h | h | h | h
    · omega
    · omega
    · rcases h.1 with h | h | h <;> omega
    · omega
    · omega
    · omega
    · omega
    · omega
    · omega
    · omega
theorem OQ.i14b (h : OQ B nd ar i k q) (e : opf B.1 i = 14) : nL B.1 (2002 + 3 * i) ≤ 19 := by
  obtain ⟨f, h⟩ := h
  cases f with
  | zero => exact h.elim
  | succ f =>
    rcases h.2.2 with h | h | h | h | h | h | h | h | h | h
    · omega
    · omega
    · rcases h.1 with h | h | h <;> omega
    · omega
    · omega
    · omega
    · omega
    · omega
    · exact h.2.1.2
    · omega
theorem psz_1 {f : Nat → Nat} (h : f i ≠ 2 ∧ ¬ (10 ≤ f i ∧ f i ≤ 14)) : psz f (i + 1) = psz f i + 1 := by
  show psz f i + szO (f i) = _
  unfold szO
  rw [if_neg (by omega)]
theorem psz_2 {f : Nat → Nat} (h : f i = 2 ∨ (10 ≤ f i ∧ f i ≤ 14)) : psz f (i + 1) = psz f i + 2 := by
  show psz f i + szO (f i) = _
  unfold szO
  rw [if_pos h]
end OQc
theorem ESw.sy {V W : Vf} (h : ESw V W) : ESw W V := ⟨fun k => (h.1 k).symm, h.2.1.symm, ⟨h.2.2.1.1.symm, h.2.2.1.2.1.symm, h.2.2.1.2.2.symm⟩, fun c k a b z => (h.2.2.2.1 c k a b z).symm, fun k => (h.2.2.2.2 k).symm⟩
/-- what an E that goes on has, wherever it is in the code -/
def WKf (V : Vf) (B : Bk) (i : Nat) (lv o c sc me ps : Int) (v : Int32) : Prop := kp V i 4 0 ∧ ocs V B i o c sc lv ∧ (0 < ps → (V 73 i).toInt = me ∧ 0 ≤ me ∧ me ≤ 19 ∧ (V 75 i).toInt = ps) ∧ V 74 i = v
/-- an E at work whose place in the code was counted up: all but that place -/
theorem RW.at {V U : Vf} {B : Bk} {m : Mm} {a : Int32} {f : Fr} {r : List Fr} {y : Int32} (h : RW U B (m, a, f :: r)) (e : U = up2 V 84 r.length y) : (∃ ow, RWn V ow B m) ∧ RWh V m a ∧ (V 5 6).toInt = ((r.length + 1 : Nat) : Int) ∧ ∃ t t0, (V 5 7).toInt = ((t : Nat) : Int) ∧ t = t0 + f.2.2.2.length ∧ FRc U B r.length f ∧ (12 ≤ f.1 → f.1 ≤ 16 → (V 85 r.length).toInt = (t0 : Int)) ∧ plC V t f.2.2.2 ∧ RWl V B r t0 := by
  obtain ⟨⟨ow, hn⟩, hh, hd, t, ht, t0, h1, h2, h3, h4, h5⟩ := h
  have es : ESw U V := ESw.sy (ESw.ag (show agr [] [84] V U from agr.up agr.rf e rfl) (by decide))
  have c : ∀ x k, x ≠ 84 → V x k = U x k := fun x k z => (up2_o e z).symm
  refine ⟨⟨ow, hn.es es⟩, ⟨?_, ?_, ?_, ?_, ?_⟩, ?_, t, t0, ?_, h1, h2, ?_, h4.mv (fun j _ => c 39 j (by decide)), h5.mv (fun i hi x a1 a2 => ?_) (fun j _ => c 39 j (by decide)) (by rw [c 3 13 (by decide)]; exact Int.le_refl _) (c 3 12 (by decide))⟩
  · rw [c 5 9 (by decide)]
    exact hh.1
  · intro z
    rw [c 5 10 (by decide)]
    exact hh.2.1 z
  · intro z
    rw [c 5 11 (by decide), c 5 12 (by decide)]
    exact hh.2.2.1 z
  · rw [c 5 8 (by decide)]
    exact hh.2.2.2.1
  · intro i hi
    rw [c 40 i (by decide)]
    exact hh.2.2.2.2 i hi
  · rw [c 5 6 (by decide)]
    exact hd
  · rw [c 5 7 (by decide)]
    exact ht
  · intro z1 z2
    rw [c 85 _ (by decide)]
    exact h3 z1 z2
  · rw [e, up2_pl (by omega)]


abbrev r_x_worksAlone9 (Z : XZ) : Room := { frames := 4, cells := zcc Z, slots := zss Z, locals := 90 }
abbrev q_x_worksAlone9 (D : va_G) (ks : KS) (ad : Nat → Nat) (kk : Nat → ClassId) (V : Vf) (L : Lf) (Z : XZ) (p1 : Int32) (b : Nat) (gf : Nat) (gB : Bk) (gm : Mm) (ga : Int32) (gfr : Fr) (gr : List Fr) (gA : Int32) (A : Nat → Prop) : Array Value → State → Outcome → State → Prop := qZi D (fun (r : Int32) (u : Vf × Lf × XZ) => rgd bX u.1 ∧ agr [(5, 6), (5, 7), (5, 9), (5, 10), (5, 13), (5, 14)] [39, 67, 68, 69, 70, 71, 72, 73, 74, 75, 76, 77, 78, 79, 80, 81, 82, 83, 84, 85] V u.1 ∧ u.2.1 = L ∧ ZL Z u.2.2 ∧ (0 ≤ r.toInt ∧ r.toInt ≤ 1) ∧ (Imp (r.toInt = 1) (MO u.1 u.2.2 b gf True True True)) ∧ (Imp (r.toInt = 0) (MJ u.1 u.2.2 b)) ∧ (Imp (r.toInt = 1) ((u.1 5 6).toInt = (V 5 6).toInt ∧ (u.1 67 gf).toInt = 4 ∧ (u.1 68 gf).toInt = 0)) ∧ (Imp (r.toInt = 1) (u.2.2 = Z)) ∧ ((r.toInt = 1 ∧ ∃ mz8 fz8, stM gB (gm, ga, gfr :: gr) = (mz8, ga, fz8 :: gr) ∧ RW u.1 gB (mz8, ga, fz8 :: gr)) ∨ (r.toInt = 0 ∧ RW u.1 gB (stM gB (gm, ga, gfr :: gr))))) (fun u => xw ad kk u.1 u.2.1 u.2.2) (fun u => xty kk u.2.2) (fun u => zcc Z - zcc u.2.2) (fun u => zss Z - zss u.2.2) A
set_option maxHeartbeats 4000000 in
set_option maxRecDepth 100000 in
theorem x_worksAlone9 (l : Launch) (D : va_G) (ks : KS) (sz : Nat) (ad : Nat → Nat) (kk : Nat → ClassId) (V : Vf) (L : Lf) (Z : XZ) (p1 : Int32) (b : Nat) (gf : Nat) (gB : Bk) (gm : Mm) (ga : Int32) (gfr : Fr) (gr : List Fr) (gA : Int32) (hMV : rgd bX V) (hb2 : b < 2) (hgf : gf < Z.nf) (mo : MO V Z b gf True True True) (gd : (gf : Int) + 1 = (V 5 6).toInt) (gk : (V 67 gf).toInt = 4) (gph : (V 68 gf).toInt = 0) (rwq : RW (up2 V 84 gf gA) gB (gm, ga, gfr :: gr)) (bc : BKc V b gB) (sf : SF gB (gm, ga, gfr :: gr)) (n84 : (V 84 gf).toInt = gA.toInt + 1) (ga0 : 0 ≤ gA.toInt) (op8 : p1.toInt = (V 48 (8200 * b + gA.toInt.toNat)).toInt) (p19 : p1.toInt ≤ 4)  : Met l yX5_worksAlone (Cond.code yX5_worksAlone cX5_worksAlone 3 (some .boolean) :: GW) (r_x_worksAlone9 Z) (va_Pc [.ref (ad 5), .ref (Z.fa gf), .int p1] (gp D ks (xw ad kk V L Z) (xty kk Z) sz)) (q_x_worksAlone9 D ks ad kk V L Z p1 b gf gB gm ga gfr gr gA (va_A (xw ad kk V L Z) sz)) (zcc Z) (zss Z) (va_A (xw ad kk V L Z) sz) := by
  refine g_met (q_x_worksAlone9 D ks ad kk V L Z p1 b gf gB gm ga gfr gr gA) (by decide) (Nat.le_of_ble_eq_true rfl) ?_
  intro p e s m below meth c A ls H locs hx hb hr hml hown hg hlocks hin hnw hgk hP hK hD hS hA hl
  replace hown : s.vm.findClass RX5 = some m.cls := hown
  replace hl : lv_has ls 3 [(0, .ref (ad 5)), (1, .ref (Z.fa gf)), (2, .int p1)] := hl
  replace hP : va_P D vwCl (xw ad kk V L Z) H := hP
  replace hD : va_D A (xw ad kk V L Z) := hD
  replace hK : va_K D vwCl (xty kk Z) s := hK
  have agV : agr [(5, 6), (5, 7), (5, 9), (5, 10), (5, 13), (5, 14)] [39, 67, 68, 69, 70, 71, 72, 73, 74, 75, 76, 77, 78, 79, 80, 81, 82, 83, 84, 85] V V := agr.rf
  have zoZ : ZL Z Z := ZL.rf
  refine W.know (fun ka kb => ?_)
  refine W.tight (k := zcc Z - zcc Z) (n := zss Z - zss Z) (by omega) (by omega) ?_
  have r1 : 0 ≤ ((V 5 6)).toInt ∧ ((V 5 6)).toInt ≤ 400 := hMV 5 6
  have kdp := i_clamp (x := V 5 6) rfl (by omega)
  have hdn : (gf : Int) + 1 ≤ (Z.nf : Int) := by omega
  have mup := MO.up mo
  have msz := mup.1
  have mbk := mup.2.2.2.1
  obtain ⟨xk, fk⟩ := MO.fk mo
  have r2 : (-1) ≤ ((V 71 gf)).toInt ∧ ((V 71 gf)).toInt ≤ 23 := hMV 71 gf
  have r3 : 0 ≤ ((V 75 gf)).toInt ∧ ((V 75 gf)).toInt ≤ 12 := hMV 75 gf
  have r4 : 0 ≤ ((V 80 gf)).toInt ∧ ((V 80 gf)).toInt ≤ 300 := hMV 80 gf
  have r5 : 0 ≤ ((V 84 gf)).toInt ∧ ((V 84 gf)).toInt ≤ 2147483647 := hMV 84 gf
  have r6 : 0 ≤ ((V 5 8)).toInt ∧ ((V 5 8)).toInt ≤ 300 := hMV 5 8
  have r7 : 0 ≤ ((V 5 9)).toInt ∧ ((V 5 9)).toInt ≤ 3 := hMV 5 9
  have r8 : 0 ≤ ((V 3 13)).toInt ∧ ((V 3 13)).toInt ≤ 300 := hMV 3 13
  have r9 : 0 ≤ ((V 43 (5 * b + 2))).toInt ∧ ((V 43 (5 * b + 2))).toInt ≤ ((xcap (5 * b + 2) : Nat) : Int) := hMV 43 (5 * b + 2)
  have r10 : xcap (5 * b + 2) = 24 := xcap_2
  have r11 : 0 ≤ ((V 41 b)).toInt ∧ ((V 41 b)).toInt ≤ 12 := hMV 41 b
  have r12 : 0 ≤ ((V 42 b)).toInt ∧ ((V 42 b)).toInt ≤ 8200 := hMV 42 b
  have fc := fk.1 (by omega)
  have fo := fk.2.1 (by omega) (by omega)
  have ft := fk.2.2.1 (by omega)
  have fq := fk.2.2.2.1 (by omega)
  have m1 : Int32.toInt (-1) = -1 := by decide
  have gl8 : (V 5 6).toInt = ((gr.length + 1 : Nat) : Int) := by have h9 : (up2 V 84 gf gA 5 6).toInt = ((gr.length + 1 : Nat) : Int) := rwq.2.2.1; rw [up2_o rfl (by decide)] at h9; exact h9
  have gl9 : gr.length = gf := by omega
  have sl9 : gr.length ≤ 394 := by have h9 : gr.length + 1 ≤ 395 := sf.1; omega
  obtain ⟨U0, hU0⟩ : ∃ z, z = up2 V 84 gf gA := ⟨_, rfl⟩
  have rwu : RW U0 gB (gm, ga, gfr :: gr) := by rw [hU0]; exact rwq
  obtain ⟨⟨ow, rn⟩, rh, rd, tw9, t0, rt9, tl9, hf0, hbs9, hpl9, hlr⟩ := RW.at rwu (by rw [gl9]; exact hU0)
  rw [gl9] at hf0 hbs9
  have rh1 : (V 5 9).toInt = gm 0 6 := rh.1
  have ra2 : (V 3 13).toInt = gm 0 2 := rn.1.1.2.2.1
  have u67 : (U0 67 gf).toInt = 4 := by rw [up2_o hU0 (by decide)]; exact gk
  have u68 : (U0 68 gf).toInt = 0 := by rw [up2_o hU0 (by decide)]; exact gph
  rcases FRc.k4 hf0 u67 with ⟨lv, o, c, sc, me, ps, at9, v, p, hfe⟩ | ⟨lv, o, c, sc, me, ps, at9, v, p, hfe⟩ | ⟨lv, o, c, sc, at9, nd, tg, v, g, p, hfe⟩ | ⟨lv, o, c, sc, at9, nd, tg, v, g, p, hfe⟩ | ⟨lv, o, c, sc, at9, nd, tg, it, v, g, u, p, hfe⟩
  · skip
    have hf : FRc U0 gB gf (Fwork lv o c sc me ps at9 v p) := by rw [← hfe]; exact hf0
    obtain ⟨⟨k67, k68⟩, hoc, hps9, ⟨a0, q84⟩, q74⟩ := hf
    unfold ocs at hoc
    have u69 : U0 69 gf = V 69 gf := up2_o hU0 (by decide)
    have u70 : U0 70 gf = V 70 gf := up2_o hU0 (by decide)
    have u71 : U0 71 gf = V 71 gf := up2_o hU0 (by decide)
    have u72 : U0 72 gf = V 72 gf := up2_o hU0 (by decide)
    have u73 : U0 73 gf = V 73 gf := up2_o hU0 (by decide)
    have u74 : U0 74 gf = V 74 gf := up2_o hU0 (by decide)
    have u75 : U0 75 gf = V 75 gf := up2_o hU0 (by decide)
    have u312 : U0 3 12 = V 3 12 := up2_o hU0 (by decide)
    have u313 : U0 3 13 = V 3 13 := up2_o hU0 (by decide)
    rw [u69, u70, u71, u72, u312, u313] at hoc
    rw [u73, u75] at hps9
    rw [u74] at q74
    rw [up2_s hU0] at q84
    obtain ⟨q69, ⟨q70, o0, o1⟩, ⟨q71, c0, c1⟩, ⟨q72, s0, s1⟩⟩ := hoc
    have cn9 : c.toNat < nC gB := by omega
    have kc9 : Int32.toNatClampNeg (V 71 gf) = c.toNat := by have h9 := i_clamp (x := V 71 gf) rfl (by omega); omega
    have tl7 : tw9 = t0 + p.length := by have h9 := tl9; rw [hfe] at h9; exact h9
    have hb8 : (V 85 gf).toInt = (t0 : Int) := hbs9 (by rw [hfe]; exact (by decide : (12 : Nat) ≤ 12)) (by rw [hfe]; exact (by decide : (12 : Nat) ≤ 16))
    have hp8 : plC V tw9 p := by have h9 := hpl9; rw [hfe] at h9; exact h9
    have sft : SFt gB gm ga (Fwork lv o c sc me ps at9 v p) := by rw [← hfe]; exact sf.2.2.2.2 gfr gr rfl
    obtain ⟨q9, oq9⟩ := sft
    have hi9 := OQ.lt oq9
    have op9 := OQ.op oq9
    have cd9 := bc.1.2 at9.toNat hi9
    have pz9 : gA.toInt.toNat = psz (opf gB.1) at9.toNat := by omega
    have c48 : p1.toInt = enO (opf gB.1 at9.toNat) := by rw [op8, pz9]; exact cd9.1
    have en0 : 0 ≤ enO (opf gB.1 at9.toNat) := enO_0 ⟨opf gB.1 at9.toNat, op9⟩
    have tt9 : t0 = totP gr := RWl.tot hlr
    have tt8 : p.length + totP gr ≤ 2000 := by have h9 : totP (gfr :: gr) ≤ 2000 := sf.2.1; rw [hfe] at h9; exact h9
    refine lv_iload_n hx hb dX5_worksAlone_0 rfl (lv_at hl 2 rfl) ?_
    by_cases q13 : p1 = 1
    · refine g_top (v := 1) q13 ?_
      have fq13 : p1.toInt = 1 := b_eq rfl (by decide) q13
      refine lv_tableIn (x := 1) (off := 31) (tgt := 32) hx hb dX5_worksAlone_1 (by decide) (by decide) (by decide) (by decide) ?_
      refine lv_aload_n hx hb dX5_worksAlone_32 rfl (lv_at hl 0 rfl) ?_
      refine gA_int (gA_runV (As := []) (rest := []) (ci := 5) (q0 := 5) hx hb hml hown hg hP hD hK hS hA hnw hgk (x_takesStep9 l D ks H.size ad kk V L Z  hMV ) w1281 w1283 w48 w171 w1284 rfl xgMachine hdV_yX5_takesStep ⟨Nat.le_of_ble_eq_true rfl, Nat.le_of_ble_eq_true rfl⟩ rfl hl.1 rfl (Nat.le_of_ble_eq_true rfl) dX5_worksAlone_33 ⟨z0, z0⟩) hP hD hK hS hA (fun z14 u15 H locs w16 hP hD hK hS => ?_)
      obtain ⟨V20, L21⟩ := u15
      obtain ⟨hMV20, ajV20, axL21, rgz14, t17, t18, t19⟩ := w16
      have axL21 : L = L21 := Eq.symm axL21
      subst axL21
      replace hP : va_P D vwCl (xw ad kk V20 L Z) H := hP
      replace hD : va_D A (xw ad kk V20 L Z) := hD
      replace hMV20 : rgd bX V20 := hMV20
      replace ajV20 : agr [(5, 9), (5, 13), (5, 14)] [] V V20 := ajV20
      have agV20 : agr [(5, 6), (5, 7), (5, 9), (5, 10), (5, 13), (5, 14)] [39, 67, 68, 69, 70, 71, 72, 73, 74, 75, 76, 77, 78, 79, 80, 81, 82, 83, 84, 85] V V20 := agV.tr ajV20 (by decide) (by decide)
      replace rgz14 : 0 ≤ z14.toInt ∧ z14.toInt ≤ 1 := rgz14
      replace t17 : Imp (z14.toInt = 0) ((V20 5 9).toInt = 3) := t17
      replace t18 : Imp (z14.toInt = 1) ((V20 5 9).toInt = (V 5 9).toInt) := t18
      replace t19 : ((z14.toInt = 1 ∧ (V 5 13).toInt < 3000 ∧ (V 5 14).toInt < 60000) ∧ V20 = (up2 (up2 V 5 13 (V 5 13 + 1)) 5 14 (V 5 14 + 1))) ∨ ((z14.toInt = 0 ∧ (3000 ≤ (V 5 13).toInt ∨ 60000 ≤ (V 5 14).toInt)) ∧ V20 = (up2 V 5 9 3)) := t19
      have r22 : 0 ≤ ((V20 5 9)).toInt ∧ ((V20 5 9)).toInt ≤ 3 := hMV20 5 9
      rcases t19 with ⟨hc23, hw24⟩ | ⟨hc25, hw26⟩
      · skip
        have r28 : 0 ≤ ((V 5 13)).toInt ∧ ((V 5 13)).toInt ≤ 3000 := hMV 5 13
        obtain ⟨z27, ez27⟩ : ∃ y : Int32, y = V 5 13 + 1 := ⟨_, rfl⟩
        have hz27 : z27.toInt = (V 5 13).toInt + 1 := i_add ez27 rfl (by decide) (by first | omega | ((try (have i_t18 := Imp.go t18 (by omega))); (try (have i_t17 := Imp.go t17 (by omega))); (try (have i_t17 := Imp.go t17 (by omega))); (try (have i_t18 := Imp.go t18 (by omega))); omega))
        obtain ⟨V29, hV29⟩ : ∃ z, z = up2 V 5 13 z27 := ⟨_, rfl⟩
        have r31 : 0 ≤ ((V 5 14)).toInt ∧ ((V 5 14)).toInt ≤ 60000 := hMV 5 14
        obtain ⟨z30, ez30⟩ : ∃ y : Int32, y = V 5 14 + 1 := ⟨_, rfl⟩
        have hz30 : z30.toInt = (V 5 14).toInt + 1 := i_add ez30 rfl (by decide) (by first | omega | ((try (have i_t18 := Imp.go t18 (by omega))); (try (have i_t17 := Imp.go t17 (by omega))); (try (have i_t17 := Imp.go t17 (by omega))); (try (have i_t18 := Imp.go t18 (by omega))); omega))
        have hV20 : V20 = up2 V29 5 14 z30 := by rw [hw24, hV29, ez27, ez30]
        refine lv_if_ne (tgt := 46) hx hb dX5_worksAlone_36 (by decide) (fun c32 => ?_) (fun c32 => ?_)
        · skip
          have f33 : z14.toInt ≠ 0 := b_neq rfl (by decide) c32
          refine lv_iconst (v := 1) hx hb dX5_worksAlone_46 (by decide) ?_
          have pq34 : (V20 5 6).toInt = ((V 5 6)).toInt := congrArg Int32.toInt ((up2_k hV20 (by decide)).trans (up2_k hV29 (by decide)))
          have pq35 : (V20 67 gf).toInt = ((V 67 gf)).toInt := congrArg Int32.toInt ((up2_o hV20 (by decide)).trans (up2_o hV29 (by decide)))
          have pq36 : (V20 68 gf).toInt = ((V 68 gf)).toInt := congrArg Int32.toInt ((up2_o hV20 (by decide)).trans (up2_o hV29 (by decide)))
          have me37 : ME V V20 gf := (ME.up (ME.up ME.rf hV29 (Or.inr (by omega))) hV20 (Or.inr (by omega)))
          have pq38 : (V20 70 gf).toInt = ((V 70 gf)).toInt := congrArg Int32.toInt ((up2_o hV20 (by decide)).trans (up2_o hV29 (by decide)))
          have pq39 : (V20 71 gf).toInt = ((V 71 gf)).toInt := congrArg Int32.toInt ((up2_o hV20 (by decide)).trans (up2_o hV29 (by decide)))
          have pq40 : (V20 75 gf).toInt = ((V 75 gf)).toInt := congrArg Int32.toInt ((up2_o hV20 (by decide)).trans (up2_o hV29 (by decide)))
          have pq41 : (V20 76 gf).toInt = ((V 76 gf)).toInt := congrArg Int32.toInt ((up2_o hV20 (by decide)).trans (up2_o hV29 (by decide)))
          have pq42 : (V20 80 gf).toInt = ((V 80 gf)).toInt := congrArg Int32.toInt ((up2_o hV20 (by decide)).trans (up2_o hV29 (by decide)))
          have pq43 : (V20 84 gf).toInt = ((V 84 gf)).toInt := congrArg Int32.toInt ((up2_o hV20 (by decide)).trans (up2_o hV29 (by decide)))
          have pq44 : (V20 5 8).toInt = ((V 5 8)).toInt := congrArg Int32.toInt ((up2_k hV20 (by decide)).trans (up2_k hV29 (by decide)))
          have pq45 : (V20 5 9).toInt = ((V 5 9)).toInt := congrArg Int32.toInt ((up2_k hV20 (by decide)).trans (up2_k hV29 (by decide)))
          have pq46 : (V20 3 13).toInt = ((V 3 13)).toInt := congrArg Int32.toInt ((up2_o hV20 (by decide)).trans (up2_o hV29 (by decide)))
          have pq47 : (V20 43 (5 * b + 2)).toInt = ((V 43 (5 * b + 2))).toInt := congrArg Int32.toInt ((up2_o hV20 (by decide)).trans (up2_o hV29 (by decide)))
          have pq48 : (V20 42 b).toInt = ((V 42 b)).toInt := congrArg Int32.toInt ((up2_o hV20 (by decide)).trans (up2_o hV29 (by decide)))
          have pq49 : (V20 41 b).toInt = ((V 41 b)).toInt := congrArg Int32.toInt ((up2_o hV20 (by decide)).trans (up2_o hV29 (by decide)))
          have ep52 : V20 84 gf = (V 84 gf) := ((up2_o hV20 (by decide)).trans (up2_o hV29 (by decide)))
          have af51 : (V20 42 b).toInt ≤ (V20 84 gf).toInt ∨ (bdp V20 b (V20 84 gf).toInt.toNat).1 = true := by rw [ep52, me37.1.bd, me37.1 42 b (by decide) (by decide)]; exact ft
          have mo50 : MO V20 Z b gf True True True := MO.ch mo me37 ((up2_o hV20 (by decide)).trans (up2_o hV29 (by decide))) ((up2_o hV20 (by decide)).trans (up2_o hV29 (by decide))) (fun _ => Or.inl (by omega)) (fun x h => FK.k4 (by first | omega | ((try (have i_t18 := Imp.go t18 (by omega))); (try (have i_t17 := Imp.go t17 (by omega))); (try (have i_t17 := Imp.go t17 (by omega))); (try (have i_t18 := Imp.go t18 (by omega))); omega)) (by first | omega | ((try (have i_t18 := Imp.go t18 (by omega))); (try (have i_t17 := Imp.go t17 (by omega))); (try (have i_t17 := Imp.go t17 (by omega))); (try (have i_t18 := Imp.go t18 (by omega))); omega)) (by first | omega | ((try (have i_t18 := Imp.go t18 (by omega))); (try (have i_t17 := Imp.go t17 (by omega))); (try (have i_t17 := Imp.go t17 (by omega))); (try (have i_t18 := Imp.go t18 (by omega))); omega)) af51 (by first | omega | ((try (have i_t18 := Imp.go t18 (by omega))); (try (have i_t17 := Imp.go t17 (by omega))); (try (have i_t17 := Imp.go t17 (by omega))); (try (have i_t18 := Imp.go t18 (by omega))); omega)) (fun hph => absurd hph (by omega)))
          have o9 : opf gB.1 at9.toNat = 1 := ((enO_i ⟨opf gB.1 at9.toNat, op9⟩).2.1).mp (show enO (opf gB.1 at9.toNat) = 1 from c48.symm.trans (by omega))
          have p84 : psz (opf gB.1) (at9.toNat + 1) = psz (opf gB.1) at9.toNat + 1 := psz_1 (show opf gB.1 at9.toNat ≠ 2 ∧ ¬ (10 ≤ opf gB.1 at9.toNat ∧ opf gB.1 at9.toNat ≤ 14) from by omega)
          have fv9 : FRc V gB gr.length (Fwork lv o c sc me ps ((at9.toNat + 1 : Nat) : Int) v p) := by rw [gl9]; exact ⟨⟨gk, gph⟩, ⟨by omega, ⟨by omega, by omega, by omega⟩, ⟨by omega, by omega, by omega⟩, ⟨by omega, by omega, by omega⟩⟩, hps9, ⟨Int.natCast_nonneg _, (show (V 84 gf).toInt = ((psz (opf gB.1) (at9.toNat + 1) : Nat) : Int) from by omega)⟩, q74⟩
          have rwv : RW V gB (gm, ga, Fwork lv o c sc me ps ((at9.toNat + 1 : Nat) : Int) v p :: gr) := ⟨⟨ow, rn⟩, rh, gl8, tw9, rt9, ⟨t0, tl7, fv9, (fun _ _ => by rw [gl9]; exact hb8), hp8, hlr⟩⟩
          have can9 : mCan gm := by have h1 := rn.1.1.1; have h2 := rn.1.1.2.1; exact ⟨by omega, by omega⟩
          have rz9 : RW V20 gB (mSt gm, ga, Fwork lv o c sc me ps ((at9.toNat + 1 : Nat) : Int) v p :: gr) := RW.stp rwv (by rw [up2_s hV20]; exact hz30) (by rw [(up2_k hV20 (by decide)).trans (up2_s hV29)]; exact hz27) (fun c9 k9 h9 => ((show V20 c9 k9 = V29 c9 k9 from by rw [hV20]; exact up2_pl (by omega)).trans (show V29 c9 k9 = V c9 k9 from by rw [hV29]; exact up2_pl (by omega))))
          refine W.know (fun kr1 kr2 => ?_)
          refine W.widen (k := zcc Z) (n := zss Z) (Nat.sub_le _ _) (Nat.sub_le _ _) ?_
          exact W.zret (v := 1) hx hb hr rfl (fun t ht hW => ⟨⟨1, (V20, L, Z), rfl, ⟨hMV20, agV20, rfl, zoZ, (by decide), (Imp.mk (fun _ => mo50)), (Imp.mk (fun hp => absurd hp (by decide))), (Imp.mk (fun _ => (show (V20 5 6).toInt = (V 5 6).toInt ∧ (V20 67 gf).toInt = 4 ∧ (V20 68 gf).toInt = 0 from by first | omega | ((try (have i_t18 := Imp.go t18 (by omega))); (try (have i_t17 := Imp.go t17 (by omega))); (try (have i_t17 := Imp.go t17 (by omega))); (try (have i_t18 := Imp.go t18 (by omega))); omega)))), (Imp.mk (fun _ => rfl)), (Or.inl ⟨rfl, _, _, (by rw [hfe, st_12.trans (or_1y o9 can9)]), rz9⟩)⟩, ⟨by rw [ht]; exact hP, va_K.moved hW.alike hK, hD⟩, by rw [ht]; exact kr1, by rw [ht]; exact kr2⟩, hS.F ht⟩) hS.2.2 dX5_worksAlone_47
        · skip
          have f53 : z14.toInt = 0 := b_eq rfl (by decide) c32
          exfalso; first | omega | ((try (have i_t18 := Imp.go t18 (by omega))); (try (have i_t17 := Imp.go t17 (by omega))); (try (have i_t17 := Imp.go t17 (by omega))); (try (have i_t18 := Imp.go t18 (by omega))); omega)
      · skip
        have hV20 : V20 = up2 V 5 9 3 := by rw [hw26]
        refine lv_if_ne (tgt := 46) hx hb dX5_worksAlone_36 (by decide) (fun c54 => ?_) (fun c54 => ?_)
        · skip
          have f55 : z14.toInt ≠ 0 := b_neq rfl (by decide) c54
          exfalso; first | omega | ((try (have i_t18 := Imp.go t18 (by omega))); (try (have i_t17 := Imp.go t17 (by omega))); (try (have i_t17 := Imp.go t17 (by omega))); (try (have i_t18 := Imp.go t18 (by omega))); omega)
        · skip
          have f56 : z14.toInt = 0 := b_eq rfl (by decide) c54
          refine lv_aload_n hx hb dX5_worksAlone_39 rfl (lv_at hl 0 rfl) ?_
          refine lv_aload_n hx hb dX5_worksAlone_40 rfl (lv_at hl 1 rfl) ?_
          have pq57 : (V20 5 6).toInt = ((V 5 6)).toInt := congrArg Int32.toInt (up2_k hV20 (by decide))
          have pq58 : (V20 67 gf).toInt = ((V 67 gf)).toInt := congrArg Int32.toInt (up2_o hV20 (by decide))
          have me59 : ME V V20 gf := (ME.up ME.rf hV20 (Or.inr (by omega)))
          have pq60 : (V20 68 gf).toInt = ((V 68 gf)).toInt := congrArg Int32.toInt (up2_o hV20 (by decide))
          have pq61 : (V20 70 gf).toInt = ((V 70 gf)).toInt := congrArg Int32.toInt (up2_o hV20 (by decide))
          have pq62 : (V20 71 gf).toInt = ((V 71 gf)).toInt := congrArg Int32.toInt (up2_o hV20 (by decide))
          have pq63 : (V20 75 gf).toInt = ((V 75 gf)).toInt := congrArg Int32.toInt (up2_o hV20 (by decide))
          have pq64 : (V20 76 gf).toInt = ((V 76 gf)).toInt := congrArg Int32.toInt (up2_o hV20 (by decide))
          have pq65 : (V20 80 gf).toInt = ((V 80 gf)).toInt := congrArg Int32.toInt (up2_o hV20 (by decide))
          have pq66 : (V20 84 gf).toInt = ((V 84 gf)).toInt := congrArg Int32.toInt (up2_o hV20 (by decide))
          have pq67 : (V20 5 8).toInt = ((V 5 8)).toInt := congrArg Int32.toInt (up2_k hV20 (by decide))
          have pq68 : (V20 5 9).toInt = 3 := (congrArg Int32.toInt (up2_s hV20)).trans (by decide)
          have pq69 : (V20 3 13).toInt = ((V 3 13)).toInt := congrArg Int32.toInt (up2_o hV20 (by decide))
          have pq70 : (V20 43 (5 * b + 2)).toInt = ((V 43 (5 * b + 2))).toInt := congrArg Int32.toInt (up2_o hV20 (by decide))
          have pq71 : (V20 42 b).toInt = ((V 42 b)).toInt := congrArg Int32.toInt (up2_o hV20 (by decide))
          have pq72 : (V20 41 b).toInt = ((V 41 b)).toInt := congrArg Int32.toInt (up2_o hV20 (by decide))
          have ep75 : V20 84 gf = (V 84 gf) := (up2_o hV20 (by decide))
          have af74 : (V20 42 b).toInt ≤ (V20 84 gf).toInt ∨ (bdp V20 b (V20 84 gf).toInt.toNat).1 = true := by rw [ep75, me59.1.bd, me59.1 42 b (by decide) (by decide)]; exact ft
          have mo73 : MO V20 Z b gf True False True := MO.ch mo me59 (up2_o hV20 (by decide)) (up2_o hV20 (by decide)) (fun _ => Or.inl (by omega)) (fun x h => FK.k4 (by first | omega | ((try (have i_t18 := Imp.go t18 (by omega))); (try (have i_t17 := Imp.go t17 (by omega))); (try (have i_t17 := Imp.go t17 (by omega))); (try (have i_t18 := Imp.go t18 (by omega))); omega)) (by first | omega | ((try (have i_t18 := Imp.go t18 (by omega))); (try (have i_t17 := Imp.go t17 (by omega))); (try (have i_t17 := Imp.go t17 (by omega))); (try (have i_t18 := Imp.go t18 (by omega))); omega)) (by first | omega | ((try (have i_t18 := Imp.go t18 (by omega))); (try (have i_t17 := Imp.go t17 (by omega))); (try (have i_t17 := Imp.go t17 (by omega))); (try (have i_t18 := Imp.go t18 (by omega))); omega)) af74 (by first | omega | ((try (have i_t18 := Imp.go t18 (by omega))); (try (have i_t17 := Imp.go t17 (by omega))); (try (have i_t17 := Imp.go t17 (by omega))); (try (have i_t18 := Imp.go t18 (by omega))); omega)) (fun _ z => z.elim))
          refine gA_void (gA_runV (As := [.ref (Z.fa gf)]) (rest := []) (ci := 5) (q0 := 5) hx hb hml hown hg hP hD hK hS hA hnw hgk (x_endWork9 l D ks H.size ad kk V20 L Z (b) (gf) hMV20 (show b < 2 from by first | omega | ((try (have i_t18 := Imp.go t18 (by omega))); (try (have i_t17 := Imp.go t17 (by omega))); (try (have i_t17 := Imp.go t17 (by omega))); (try (have i_t18 := Imp.go t18 (by omega))); omega)) (show gf < Z.nf from by first | omega | ((try (have i_t18 := Imp.go t18 (by omega))); (try (have i_t17 := Imp.go t17 (by omega))); (try (have i_t17 := Imp.go t17 (by omega))); (try (have i_t18 := Imp.go t18 (by omega))); omega)) mo73 (show (gf : Int) + 1 = (V20 5 6).toInt from by first | omega | ((try (have i_t18 := Imp.go t18 (by omega))); (try (have i_t17 := Imp.go t17 (by omega))); (try (have i_t17 := Imp.go t17 (by omega))); (try (have i_t18 := Imp.go t18 (by omega))); omega)) (show (V20 67 gf).toInt = 4 from by first | omega | ((try (have i_t18 := Imp.go t18 (by omega))); (try (have i_t17 := Imp.go t17 (by omega))); (try (have i_t17 := Imp.go t17 (by omega))); (try (have i_t18 := Imp.go t18 (by omega))); omega))) w1458 w1460 w70 w171 w1461 rfl xgMachine hdV_yX5_endWork ⟨Nat.le_of_ble_eq_true rfl, Nat.le_of_ble_eq_true rfl⟩ rfl hl.1 rfl (Nat.le_of_ble_eq_true rfl) dX5_worksAlone_41 ⟨z0, z0⟩) hP hD hK hS hA (fun u77 H locs w78 hP hD hK hS => ?_)
          obtain ⟨V81, L82⟩ := u77
          obtain ⟨hMV81, ajV81, axL82, t79, t80⟩ := w78
          have axL82 : L = L82 := Eq.symm axL82
          subst axL82
          replace hP : va_P D vwCl (xw ad kk V81 L Z) H := hP
          replace hD : va_D A (xw ad kk V81 L Z) := hD
          replace hMV81 : rgd bX V81 := hMV81
          replace ajV81 : agr [(5, 6), (5, 7)] [] V20 V81 := ajV81
          have agV81 : agr [(5, 6), (5, 7), (5, 9), (5, 10), (5, 13), (5, 14)] [39, 67, 68, 69, 70, 71, 72, 73, 74, 75, 76, 77, 78, 79, 80, 81, 82, 83, 84, 85] V V81 := agV20.tr ajV81 (by decide) (by decide)
          replace t79 : MJ V81 Z b := t79
          replace t80 : ((True) ∧ V81 = (up2 (up2 V20 5 7 (V20 85 gf)) 5 6 (V20 5 6 - 1))) := t80
          have hw83 := t80.2
          have qv84 : V20 85 gf = (V 85 gf) := (up2_o hV20 (by decide))
          obtain ⟨V85, hV85⟩ : ∃ z, z = up2 V20 5 7 (V 85 gf) := ⟨_, rfl⟩
          obtain ⟨z86, ez86⟩ : ∃ y : Int32, y = V20 5 6 - 1 := ⟨_, rfl⟩
          have hz86 : z86.toInt = (V20 5 6).toInt - 1 := i_sub ez86 rfl (by decide) (by first | omega | ((try (have i_t18 := Imp.go t18 (by omega))); (try (have i_t17 := Imp.go t17 (by omega))); (try (have i_t17 := Imp.go t17 (by omega))); (try (have i_t18 := Imp.go t18 (by omega))); omega))
          have hV81 : V81 = up2 V85 5 6 z86 := by rw [hw83, hV85, qv84, ez86]
          refine lv_iconst (v := 0) hx hb dX5_worksAlone_44 (by decide) ?_
          have pq87 : (V81 5 6).toInt = z86.toInt := congrArg Int32.toInt (up2_s hV81)
          have pq88 : (V81 67 gf).toInt = ((V 67 gf)).toInt := congrArg Int32.toInt ((up2_o hV81 (by decide)).trans ((up2_o hV85 (by decide)).trans (up2_o hV20 (by decide))))
          have pq89 : (V81 68 gf).toInt = ((V 68 gf)).toInt := congrArg Int32.toInt ((up2_o hV81 (by decide)).trans ((up2_o hV85 (by decide)).trans (up2_o hV20 (by decide))))
          have o9 : opf gB.1 at9.toNat = 1 := ((enO_i ⟨opf gB.1 at9.toNat, op9⟩).2.1).mp (show enO (opf gB.1 at9.toNat) = 1 from c48.symm.trans (by omega))
          have me90 : ME V V81 gf := (ME.up (ME.up (ME.up ME.rf hV20 (Or.inr (by omega))) hV85 (Or.inr (by omega))) hV81 (Or.inr (by omega)))
          have rl91 : RWl V81 gB gr t0 := RWl.mv hlr (fun i9 hi9 c9 h1 h2 => me90.2.1 c9 i9 h1 h2 (by omega)) (fun j9 hj9 => ((up2_o hV81 (by decide)).trans ((up2_o hV85 (by decide)).trans (up2_o hV20 (by decide))))) (by rw [((up2_o hV81 (by decide)).trans ((up2_o hV85 (by decide)).trans (up2_o hV20 (by decide))))]; exact Int.le_refl _) ((up2_o hV81 (by decide)).trans ((up2_o hV85 (by decide)).trans (up2_o hV20 (by decide))))
          have pq92 : (V81 5 9).toInt = 3 := (congrArg Int32.toInt ((up2_k hV81 (by decide)).trans ((up2_k hV85 (by decide)).trans (up2_s hV20)))).trans (by decide)
          have pq93 : (V81 5 11).toInt = ((V 5 11)).toInt := congrArg Int32.toInt ((up2_k hV81 (by decide)).trans ((up2_k hV85 (by decide)).trans (up2_k hV20 (by decide))))
          have pq94 : (V81 5 12).toInt = ((V 5 12)).toInt := congrArg Int32.toInt ((up2_k hV81 (by decide)).trans ((up2_k hV85 (by decide)).trans (up2_k hV20 (by decide))))
          have tp9 : (V81 5 7).toInt = ((t0 : Nat) : Int) := by rw [((up2_k hV81 (by decide)).trans (up2_s hV85))]; exact hb8
          have esu : ESw U0 V := ESw.sy (ESw.ag (show agr [] [84] V U0 from agr.up agr.rf hU0 rfl) (by decide))
          have rz9 : RW V81 gB (mU gm 0 6 3, ga, gr) := RW.sgn rwu (ESw.tr esu (ESw.ag (show agr [(5, 6), (5, 7), (5, 9)] [] V V81 from (agr.up (agr.up (agr.up agr.rf hV20 rfl) hV85 rfl) hV81 rfl)) (by decide))) (by omega) (fun h9 => absurd h9 (by decide)) (fun h9 => absurd h9 (by decide)) (show (V81 5 6).toInt = ((gr.length : Nat) : Int) from by omega) tp9 rl91
          have rx95 : RW V81 gB (stM gB (gm, ga, gfr :: gr)) := by rw [hfe, st_12.trans (or_1n o9 (fun h9 => by have h1 := rn.1.1.1; have h2 := rn.1.1.2.1; have h3 := h9.1; have h4 := h9.2; omega))]; exact rz9
          refine W.know (fun kr1 kr2 => ?_)
          refine W.widen (k := zcc Z) (n := zss Z) (Nat.sub_le _ _) (Nat.sub_le _ _) ?_
          exact W.zret (v := 0) hx hb hr rfl (fun t ht hW => ⟨⟨0, (V81, L, Z), rfl, ⟨hMV81, agV81, rfl, zoZ, (by decide), (Imp.mk (fun hp => absurd hp (by decide))), (Imp.mk (fun _ => t79)), (Imp.mk (fun hp => absurd hp (by decide))), (Imp.mk (fun hp => absurd hp (by decide))), (Or.inr ⟨rfl, rx95⟩)⟩, ⟨by rw [ht]; exact hP, va_K.moved hW.alike hK, hD⟩, by rw [ht]; exact kr1, by rw [ht]; exact kr2⟩, hS.F ht⟩) hS.2.2 dX5_worksAlone_45
    have gq13 : p1.toInt ≠ 1 := b_neq rfl (by decide) q13
    by_cases q96 : p1 = 2
    · refine g_top (v := 2) q96 ?_
      have fq96 : p1.toInt = 2 := b_eq rfl (by decide) q96
      refine lv_tableIn (x := 2) (off := 47) (tgt := 48) hx hb dX5_worksAlone_1 (by decide) (by decide) (by decide) (by decide) ?_
      refine lv_aload_n hx hb dX5_worksAlone_48 rfl (lv_at hl 0 rfl) ?_
      refine lv_aload_n hx hb dX5_worksAlone_49 rfl (lv_at hl 1 rfl) ?_
      refine va_getN (D := D) (ci := 4) (v := .int (V 74 gf)) (fs := (xfFrame V gf)) (C := RX4) (T := TX4) (N := 19) hx hb hg inX4 hown hK hP (336 + gf) (xgFrame hgf) rfl 7 (by decide) (hnw.use 1196 n1196 rfl) (fun _ h9 => h9) rfl dX5_worksAlone_50 ?_
      refine gA_void (gA_runV (As := [.int (V 74 gf)]) (rest := []) (ci := 5) (q0 := 5) hx hb hml hown hg hP hD hK hS hA hnw hgk (x_put9 l D ks H.size ad kk V L Z (V 74 gf) hMV ) w1466 w1468 w72 w171 w1469 rfl xgMachine hdV_yX5_put ⟨Nat.le_of_ble_eq_true rfl, Nat.le_of_ble_eq_true rfl⟩ rfl hl.1 rfl (Nat.le_of_ble_eq_true rfl) dX5_worksAlone_53 ⟨z0, z0⟩) hP hD hK hS hA (fun u98 H locs w99 hP hD hK hS => ?_)
      obtain ⟨V101, L102⟩ := u98
      obtain ⟨hMV101, ajV101, axL102, t100⟩ := w99
      have axL102 : L = L102 := Eq.symm axL102
      subst axL102
      replace hP : va_P D vwCl (xw ad kk V101 L Z) H := hP
      replace hD : va_D A (xw ad kk V101 L Z) := hD
      replace hMV101 : rgd bX V101 := hMV101
      replace ajV101 : agr [(5, 7)] [39] V V101 := ajV101
      have agV101 : agr [(5, 6), (5, 7), (5, 9), (5, 10), (5, 13), (5, 14)] [39, 67, 68, 69, 70, 71, 72, 73, 74, 75, 76, 77, 78, 79, 80, 81, 82, 83, 84, 85] V V101 := agV.tr ajV101 (by decide) (by decide)
      replace t100 : (((V 5 7).toInt < 2048) ∧ V101 = (up2 (up2 V 5 7 (V 5 7 + 1)) 39 (Int32.toNatClampNeg (V 5 7)) (V 74 gf))) ∨ ((2048 ≤ (V 5 7).toInt) ∧ V101 = V) := t100
      rcases t100 with ⟨hc103, hw104⟩ | ⟨hc105, hw106⟩
      · skip
        have r108 : 0 ≤ ((V 5 7)).toInt ∧ ((V 5 7)).toInt ≤ 2048 := hMV 5 7
        obtain ⟨z107, ez107⟩ : ∃ y : Int32, y = V 5 7 + 1 := ⟨_, rfl⟩
        have hz107 : z107.toInt = (V 5 7).toInt + 1 := i_add ez107 rfl (by decide) (by omega)
        obtain ⟨V109, hV109⟩ : ∃ z, z = up2 V 5 7 z107 := ⟨_, rfl⟩
        have hV101 : V101 = up2 V109 39 (Int32.toNatClampNeg (V 5 7)) (V 74 gf) := by rw [hw104, hV109, ez107]
        refine lv_iconst (v := 1) hx hb dX5_worksAlone_56 (by decide) ?_
        have pq110 : (V101 5 6).toInt = ((V 5 6)).toInt := congrArg Int32.toInt ((up2_o hV101 (by decide)).trans (up2_k hV109 (by decide)))
        have pq111 : (V101 67 gf).toInt = ((V 67 gf)).toInt := congrArg Int32.toInt ((up2_o hV101 (by decide)).trans (up2_o hV109 (by decide)))
        have pq112 : (V101 68 gf).toInt = ((V 68 gf)).toInt := congrArg Int32.toInt ((up2_o hV101 (by decide)).trans (up2_o hV109 (by decide)))
        have me113 : ME V V101 gf := (ME.up (ME.up ME.rf hV109 (Or.inr (by omega))) hV101 (Or.inr (by omega)))
        have pq114 : (V101 70 gf).toInt = ((V 70 gf)).toInt := congrArg Int32.toInt ((up2_o hV101 (by decide)).trans (up2_o hV109 (by decide)))
        have pq115 : (V101 71 gf).toInt = ((V 71 gf)).toInt := congrArg Int32.toInt ((up2_o hV101 (by decide)).trans (up2_o hV109 (by decide)))
        have pq116 : (V101 75 gf).toInt = ((V 75 gf)).toInt := congrArg Int32.toInt ((up2_o hV101 (by decide)).trans (up2_o hV109 (by decide)))
        have pq117 : (V101 76 gf).toInt = ((V 76 gf)).toInt := congrArg Int32.toInt ((up2_o hV101 (by decide)).trans (up2_o hV109 (by decide)))
        have pq118 : (V101 80 gf).toInt = ((V 80 gf)).toInt := congrArg Int32.toInt ((up2_o hV101 (by decide)).trans (up2_o hV109 (by decide)))
        have pq119 : (V101 84 gf).toInt = ((V 84 gf)).toInt := congrArg Int32.toInt ((up2_o hV101 (by decide)).trans (up2_o hV109 (by decide)))
        have pq120 : (V101 5 8).toInt = ((V 5 8)).toInt := congrArg Int32.toInt ((up2_o hV101 (by decide)).trans (up2_k hV109 (by decide)))
        have pq121 : (V101 5 9).toInt = ((V 5 9)).toInt := congrArg Int32.toInt ((up2_o hV101 (by decide)).trans (up2_k hV109 (by decide)))
        have pq122 : (V101 3 13).toInt = ((V 3 13)).toInt := congrArg Int32.toInt ((up2_o hV101 (by decide)).trans (up2_o hV109 (by decide)))
        have pq123 : (V101 43 (5 * b + 2)).toInt = ((V 43 (5 * b + 2))).toInt := congrArg Int32.toInt ((up2_o hV101 (by decide)).trans (up2_o hV109 (by decide)))
        have pq124 : (V101 42 b).toInt = ((V 42 b)).toInt := congrArg Int32.toInt ((up2_o hV101 (by decide)).trans (up2_o hV109 (by decide)))
        have pq125 : (V101 41 b).toInt = ((V 41 b)).toInt := congrArg Int32.toInt ((up2_o hV101 (by decide)).trans (up2_o hV109 (by decide)))
        have ep128 : V101 84 gf = (V 84 gf) := ((up2_o hV101 (by decide)).trans (up2_o hV109 (by decide)))
        have af127 : (V101 42 b).toInt ≤ (V101 84 gf).toInt ∨ (bdp V101 b (V101 84 gf).toInt.toNat).1 = true := by rw [ep128, me113.1.bd, me113.1 42 b (by decide) (by decide)]; exact ft
        have mo126 : MO V101 Z b gf True True True := MO.ch mo me113 ((up2_o hV101 (by decide)).trans (up2_o hV109 (by decide))) ((up2_o hV101 (by decide)).trans (up2_o hV109 (by decide))) (fun _ => Or.inl (by omega)) (fun x h => FK.k4 (by omega) (by omega) (by omega) af127 (by omega) (fun hph => absurd hph (by omega)))
        have o9 : opf gB.1 at9.toNat = 3 := ((enO_i ⟨opf gB.1 at9.toNat, op9⟩).2.2.1).mp (show enO (opf gB.1 at9.toNat) = 2 from c48.symm.trans (by omega))
        have p84 : psz (opf gB.1) (at9.toNat + 1) = psz (opf gB.1) at9.toNat + 1 := psz_1 (show opf gB.1 at9.toNat ≠ 2 ∧ ¬ (10 ≤ opf gB.1 at9.toNat ∧ opf gB.1 at9.toNat ≤ 14) from by omega)
        have tx9 : (Int32.toNatClampNeg (V 5 7)) = tw9 := by have h9 := i_clamp (x := V 5 7) rfl (by omega); omega
        have wr129 : (V101 3 13).toInt = (V 3 13).toInt := congrArg Int32.toInt ((up2_o hV101 (by decide)).trans (up2_o hV109 (by decide)))
        have wr130 : (V101 3 12).toInt = (V 3 12).toInt := congrArg Int32.toInt ((up2_o hV101 (by decide)).trans (up2_o hV109 (by decide)))
        have wr131 : (V101 67 gf).toInt = ((V 67 gf)).toInt := (congrArg Int32.toInt ((up2_o hV101 (by decide)).trans (up2_o hV109 (by decide))))
        have wr132 : (V101 68 gf).toInt = ((V 68 gf)).toInt := (congrArg Int32.toInt ((up2_o hV101 (by decide)).trans (up2_o hV109 (by decide))))
        have wr133 : (V101 69 gf).toInt = ((V 69 gf)).toInt := (congrArg Int32.toInt ((up2_o hV101 (by decide)).trans (up2_o hV109 (by decide))))
        have wr134 : (V101 70 gf).toInt = ((V 70 gf)).toInt := (congrArg Int32.toInt ((up2_o hV101 (by decide)).trans (up2_o hV109 (by decide))))
        have wr135 : (V101 71 gf).toInt = ((V 71 gf)).toInt := (congrArg Int32.toInt ((up2_o hV101 (by decide)).trans (up2_o hV109 (by decide))))
        have wr136 : (V101 72 gf).toInt = ((V 72 gf)).toInt := (congrArg Int32.toInt ((up2_o hV101 (by decide)).trans (up2_o hV109 (by decide))))
        have wr137 : (V101 73 gf).toInt = ((V 73 gf)).toInt := (congrArg Int32.toInt ((up2_o hV101 (by decide)).trans (up2_o hV109 (by decide))))
        have wr138 : (V101 75 gf).toInt = ((V 75 gf)).toInt := (congrArg Int32.toInt ((up2_o hV101 (by decide)).trans (up2_o hV109 (by decide))))
        have wr139 : (V101 84 gf).toInt = ((V 84 gf)).toInt := (congrArg Int32.toInt ((up2_o hV101 (by decide)).trans (up2_o hV109 (by decide))))
        have me140 : ME V V101 gf := (ME.up (ME.up ME.rf hV109 (Or.inr (by omega))) hV101 (Or.inr (by omega)))
        have rl141 : RWl V101 gB gr t0 := RWl.mv hlr (fun i9 hi9 c9 h1 h2 => me140.2.1 c9 i9 h1 h2 (by omega)) (fun j9 hj9 => ((up2_k hV101 (by omega)).trans (up2_o hV109 (by decide)))) (by rw [((up2_o hV101 (by decide)).trans (up2_o hV109 (by decide)))]; exact Int.le_refl _) ((up2_o hV101 (by decide)).trans (up2_o hV109 (by decide)))
        have pq142 : (V101 5 7).toInt = z107.toInt := congrArg Int32.toInt ((up2_o hV101 (by decide)).trans (up2_s hV109))
        have fo8 : FRc V101 gB gr.length (Fwork lv o c sc me ps ((at9.toNat + 1 : Nat) : Int) v (v :: p)) := by rw [gl9]; exact ⟨⟨by omega, by omega⟩, ⟨by omega, ⟨by omega, by omega, by omega⟩, ⟨by omega, by omega, by omega⟩, ⟨by omega, by omega, by omega⟩⟩, (fun h9 => by have h8 := hps9 h9; exact ⟨by omega, by omega, by omega, by omega⟩), ⟨Int.natCast_nonneg _, by show _ = ((psz (opf gB.1) (at9.toNat + 1) : Nat) : Int); omega⟩, (((up2_o hV101 (by decide)).trans (up2_o hV109 (by decide))).trans q74)⟩
        have esu : ESw U0 V := ESw.sy (ESw.ag (show agr [] [84] V U0 from agr.up agr.rf hU0 rfl) (by decide))
        have rlu : RWl V101 gB (Fwork lv o c sc me ps ((at9.toNat + 1 : Nat) : Int) v (v :: p) :: gr) (tw9 + 1) := ⟨t0, (show tw9 + 1 = t0 + (Fwork lv o c sc me ps ((at9.toNat + 1 : Nat) : Int) v (v :: p) : Fr).2.2.2.length from by show _ = t0 + (_ + 1); omega), fo8, fun _ _ => (by rw [gl9, ((up2_o hV101 (by decide)).trans (up2_o hV109 (by decide)))]; exact hb8), ⟨tw9, rfl, (by rw [← tx9]; exact (up2_s hV101).trans q74), plC.mv hp8 (fun j9 hj9 => ((up2_k hV101 (by omega)).trans (up2_o hV109 (by decide))))⟩, rl141⟩
        have rz9 : RW V101 gB (gm, ga, Fwork lv o c sc me ps ((at9.toNat + 1 : Nat) : Int) v (v :: p) :: gr) := RW.id rwu (ESw.tr esu (ESw.ag (show agr [(5, 7)] [39] V V101 from (agr.up (agr.up agr.rf hV109 rfl) hV101 rfl)) (by decide))) ((((up2_o hV101 (by decide)).trans (up2_k hV109 (by decide)))).trans (up2_o hU0 (by decide)).symm) ((((up2_o hV101 (by decide)).trans (up2_k hV109 (by decide)))).trans (up2_o hU0 (by decide)).symm) ((((up2_o hV101 (by decide)).trans (up2_k hV109 (by decide)))).trans (up2_o hU0 (by decide)).symm) ((((up2_o hV101 (by decide)).trans (up2_k hV109 (by decide)))).trans (up2_o hU0 (by decide)).symm) (show (V101 5 6).toInt = ((gr.length + 1 : Nat) : Int) from by omega) (show (V101 5 7).toInt = ((tw9 + 1 : Nat) : Int) from by omega) rlu
        have rx143 : ∃ f2, stM gB (gm, ga, gfr :: gr) = (gm, ga, f2 :: gr) ∧ RW V101 gB (gm, ga, f2 :: gr) := ⟨_, (by rw [hfe, st_12.trans (or_3 o9)]), rz9⟩
        refine W.know (fun kr1 kr2 => ?_)
        refine W.widen (k := zcc Z) (n := zss Z) (Nat.sub_le _ _) (Nat.sub_le _ _) ?_
        exact W.zret (v := 1) hx hb hr rfl (fun t ht hW => ⟨⟨1, (V101, L, Z), rfl, ⟨hMV101, agV101, rfl, zoZ, (by decide), (Imp.mk (fun _ => mo126)), (Imp.mk (fun hp => absurd hp (by decide))), (Imp.mk (fun _ => (show (V101 5 6).toInt = (V 5 6).toInt ∧ (V101 67 gf).toInt = 4 ∧ (V101 68 gf).toInt = 0 from by omega))), (Imp.mk (fun _ => rfl)), (Or.inl ⟨rfl, _, rx143⟩)⟩, ⟨by rw [ht]; exact hP, va_K.moved hW.alike hK, hD⟩, by rw [ht]; exact kr1, by rw [ht]; exact kr2⟩, hS.F ht⟩) hS.2.2 dX5_worksAlone_57
      · skip
        have ajV101 : agr [] [] V V101 := by rw [hw106]; exact agr.rf
        refine lv_iconst (v := 1) hx hb dX5_worksAlone_56 (by decide) ?_
        have pq144 : (V101 5 6).toInt = ((V 5 6)).toInt := congrArg Int32.toInt (ajV101 5 6 rfl)
        have pq145 : (V101 67 gf).toInt = ((V 67 gf)).toInt := congrArg Int32.toInt (ajV101 67 gf rfl)
        have pq146 : (V101 68 gf).toInt = ((V 68 gf)).toInt := congrArg Int32.toInt (ajV101 68 gf rfl)
        have me147 : ME V V101 gf := (ME.tr ME.rf (ME.ag ajV101 (by decide)))
        have pq148 : (V101 70 gf).toInt = ((V 70 gf)).toInt := congrArg Int32.toInt (ajV101 70 gf rfl)
        have pq149 : (V101 71 gf).toInt = ((V 71 gf)).toInt := congrArg Int32.toInt (ajV101 71 gf rfl)
        have pq150 : (V101 75 gf).toInt = ((V 75 gf)).toInt := congrArg Int32.toInt (ajV101 75 gf rfl)
        have pq151 : (V101 76 gf).toInt = ((V 76 gf)).toInt := congrArg Int32.toInt (ajV101 76 gf rfl)
        have pq152 : (V101 80 gf).toInt = ((V 80 gf)).toInt := congrArg Int32.toInt (ajV101 80 gf rfl)
        have pq153 : (V101 84 gf).toInt = ((V 84 gf)).toInt := congrArg Int32.toInt (ajV101 84 gf rfl)
        have pq154 : (V101 5 8).toInt = ((V 5 8)).toInt := congrArg Int32.toInt (ajV101 5 8 rfl)
        have pq155 : (V101 5 9).toInt = ((V 5 9)).toInt := congrArg Int32.toInt (ajV101 5 9 rfl)
        have pq156 : (V101 3 13).toInt = ((V 3 13)).toInt := congrArg Int32.toInt (ajV101 3 13 rfl)
        have pq157 : (V101 43 (5 * b + 2)).toInt = ((V 43 (5 * b + 2))).toInt := congrArg Int32.toInt (ajV101 43 (5 * b + 2) rfl)
        have pq158 : (V101 42 b).toInt = ((V 42 b)).toInt := congrArg Int32.toInt (ajV101 42 b rfl)
        have pq159 : (V101 41 b).toInt = ((V 41 b)).toInt := congrArg Int32.toInt (ajV101 41 b rfl)
        have af161 : (V101 42 b).toInt ≤ (V101 84 gf).toInt ∨ (bdp V101 b (V101 84 gf).toInt.toNat).1 = true := by rw [(ajV101 84 gf rfl), me147.1.bd, me147.1 42 b (by decide) (by decide)]; exact ft
        have mo160 : MO V101 Z b gf True True True := MO.ch mo me147 (ajV101 67 gf rfl) (ajV101 80 gf rfl) (fun _ => Or.inl (by omega)) (fun x h => FK.k4 (by omega) (by omega) (by omega) af161 (by omega) (fun hph => absurd hph (by omega)))
        have r162 : 0 ≤ ((V 5 7)).toInt ∧ ((V 5 7)).toInt ≤ 2048 := hMV 5 7
        have o9 : opf gB.1 at9.toNat = 3 := ((enO_i ⟨opf gB.1 at9.toNat, op9⟩).2.2.1).mp (show enO (opf gB.1 at9.toNat) = 2 from c48.symm.trans (by omega))
        have pl9 : 0 ≤ p.length := Nat.zero_le _
        refine W.know (fun kr1 kr2 => ?_)
        refine W.widen (k := zcc Z) (n := zss Z) (Nat.sub_le _ _) (Nat.sub_le _ _) ?_
        exact W.zret (v := 1) hx hb hr rfl (fun t ht hW => ⟨⟨1, (V101, L, Z), rfl, ⟨hMV101, agV101, rfl, zoZ, (by decide), (Imp.mk (fun _ => mo160)), (Imp.mk (fun hp => absurd hp (by decide))), (Imp.mk (fun _ => (show (V101 5 6).toInt = (V 5 6).toInt ∧ (V101 67 gf).toInt = 4 ∧ (V101 68 gf).toInt = 0 from by omega))), (Imp.mk (fun _ => rfl)), (by exfalso; omega)⟩, ⟨by rw [ht]; exact hP, va_K.moved hW.alike hK, hD⟩, by rw [ht]; exact kr1, by rw [ht]; exact kr2⟩, hS.F ht⟩) hS.2.2 dX5_worksAlone_57
    have gq96 : p1.toInt ≠ 2 := b_neq rfl (by decide) q96
    by_cases q163 : p1 = 3
    · refine g_top (v := 3) q163 ?_
      have fq163 : p1.toInt = 3 := b_eq rfl (by decide) q163
      refine lv_tableIn (x := 3) (off := 57) (tgt := 58) hx hb dX5_worksAlone_1 (by decide) (by decide) (by decide) (by decide) ?_
      refine lv_aload_n hx hb dX5_worksAlone_58 rfl (lv_at hl 0 rfl) ?_
      refine lv_aload_n hx hb dX5_worksAlone_59 rfl (lv_at hl 0 rfl) ?_
      refine gA_int (gA_runV (As := []) (rest := [.ref (ad 5)]) (ci := 5) (q0 := 5) hx hb hml hown hg hP hD hK hS hA hnw hgk (x_pull9 l D ks H.size ad kk V L Z  hMV ) w1482 w1484 w76 w171 w1485 rfl xgMachine hdV_yX5_pull ⟨Nat.le_of_ble_eq_true rfl, Nat.le_of_ble_eq_true rfl⟩ rfl hl.1 rfl (Nat.le_of_ble_eq_true rfl) dX5_worksAlone_60 ⟨z0, z0⟩) hP hD hK hS hA (fun z164 u165 H locs w166 hP hD hK hS => ?_)
      obtain ⟨V168, L169⟩ := u165
      obtain ⟨hMV168, ajV168, axL169, t167⟩ := w166
      have axL169 : L = L169 := Eq.symm axL169
      subst axL169
      replace hP : va_P D vwCl (xw ad kk V168 L Z) H := hP
      replace hD : va_D A (xw ad kk V168 L Z) := hD
      replace hMV168 : rgd bX V168 := hMV168
      replace ajV168 : agr [(5, 7)] [] V V168 := ajV168
      have agV168 : agr [(5, 6), (5, 7), (5, 9), (5, 10), (5, 13), (5, 14)] [39, 67, 68, 69, 70, 71, 72, 73, 74, 75, 76, 77, 78, 79, 80, 81, 82, 83, 84, 85] V V168 := agV.tr ajV168 (by decide) (by decide)
      replace t167 : ((0 < (V 5 7).toInt ∧ z164 = V 39 (Int32.toNatClampNeg (V 5 7 - 1))) ∧ V168 = (up2 V 5 7 (V 5 7 - 1))) ∨ (((V 5 7).toInt ≤ 0 ∧ z164 = 0) ∧ V168 = V) := t167
      rcases t167 with ⟨hc170, hw171⟩ | ⟨hc172, hw173⟩
      · skip
        have r175 : 0 ≤ ((V 5 7)).toInt ∧ ((V 5 7)).toInt ≤ 2048 := hMV 5 7
        obtain ⟨z174, ez174⟩ : ∃ y : Int32, y = V 5 7 - 1 := ⟨_, rfl⟩
        have hz174 : z174.toInt = (V 5 7).toInt - 1 := i_sub ez174 rfl (by decide) (by omega)
        have hV168 : V168 = up2 V 5 7 z174 := by rw [hw171, ez174]
        refine lv_ineg hx hb dX5_worksAlone_63 ?_
        refine lv_topi (fun z176 ez176 => ?_)
        refine gA_void (gA_runV (As := [.int z176]) (rest := []) (ci := 5) (q0 := 5) hx hb hml hown hg hP hD hK hS hA hnw hgk (x_put9 l D ks H.size ad kk V168 L Z z176 hMV168 ) w1466 w1468 w72 w171 w1469 rfl xgMachine hdV_yX5_put ⟨Nat.le_of_ble_eq_true rfl, Nat.le_of_ble_eq_true rfl⟩ rfl hl.1 rfl (Nat.le_of_ble_eq_true rfl) dX5_worksAlone_64 ⟨z0, z0⟩) hP hD hK hS hA (fun u178 H locs w179 hP hD hK hS => ?_)
        obtain ⟨V181, L182⟩ := u178
        obtain ⟨hMV181, ajV181, axL182, t180⟩ := w179
        have axL182 : L = L182 := Eq.symm axL182
        subst axL182
        replace hP : va_P D vwCl (xw ad kk V181 L Z) H := hP
        replace hD : va_D A (xw ad kk V181 L Z) := hD
        replace hMV181 : rgd bX V181 := hMV181
        replace ajV181 : agr [(5, 7)] [39] V168 V181 := ajV181
        have agV181 : agr [(5, 6), (5, 7), (5, 9), (5, 10), (5, 13), (5, 14)] [39, 67, 68, 69, 70, 71, 72, 73, 74, 75, 76, 77, 78, 79, 80, 81, 82, 83, 84, 85] V V181 := agV168.tr ajV181 (by decide) (by decide)
        replace t180 : (((V168 5 7).toInt < 2048) ∧ V181 = (up2 (up2 V168 5 7 (V168 5 7 + 1)) 39 (Int32.toNatClampNeg (V168 5 7)) z176)) ∨ ((2048 ≤ (V168 5 7).toInt) ∧ V181 = V168) := t180
        rcases t180 with ⟨hc183, hw184⟩ | ⟨hc185, hw186⟩
        · skip
          have pq188 : (V168 5 7).toInt = z174.toInt := congrArg Int32.toInt (up2_s hV168)
          obtain ⟨z187, ez187⟩ : ∃ y : Int32, y = V168 5 7 + 1 := ⟨_, rfl⟩
          have hz187 : z187.toInt = (V168 5 7).toInt + 1 := i_add ez187 rfl (by decide) (by omega)
          obtain ⟨V189, hV189⟩ : ∃ z, z = up2 V168 5 7 z187 := ⟨_, rfl⟩
          have hV181 : V181 = up2 V189 39 (Int32.toNatClampNeg (V168 5 7)) z176 := by rw [hw184, hV189, ez187]
          refine lv_iconst (v := 1) hx hb dX5_worksAlone_67 (by decide) ?_
          have pq190 : (V181 5 6).toInt = ((V 5 6)).toInt := congrArg Int32.toInt ((up2_o hV181 (by decide)).trans ((up2_k hV189 (by decide)).trans (up2_k hV168 (by decide))))
          have pq191 : (V181 67 gf).toInt = ((V 67 gf)).toInt := congrArg Int32.toInt ((up2_o hV181 (by decide)).trans ((up2_o hV189 (by decide)).trans (up2_o hV168 (by decide))))
          have pq192 : (V181 68 gf).toInt = ((V 68 gf)).toInt := congrArg Int32.toInt ((up2_o hV181 (by decide)).trans ((up2_o hV189 (by decide)).trans (up2_o hV168 (by decide))))
          have me193 : ME V V181 gf := (ME.up (ME.up (ME.up ME.rf hV168 (Or.inr (by omega))) hV189 (Or.inr (by omega))) hV181 (Or.inr (by omega)))
          have pq194 : (V181 70 gf).toInt = ((V 70 gf)).toInt := congrArg Int32.toInt ((up2_o hV181 (by decide)).trans ((up2_o hV189 (by decide)).trans (up2_o hV168 (by decide))))
          have pq195 : (V181 71 gf).toInt = ((V 71 gf)).toInt := congrArg Int32.toInt ((up2_o hV181 (by decide)).trans ((up2_o hV189 (by decide)).trans (up2_o hV168 (by decide))))
          have pq196 : (V181 75 gf).toInt = ((V 75 gf)).toInt := congrArg Int32.toInt ((up2_o hV181 (by decide)).trans ((up2_o hV189 (by decide)).trans (up2_o hV168 (by decide))))
          have pq197 : (V181 76 gf).toInt = ((V 76 gf)).toInt := congrArg Int32.toInt ((up2_o hV181 (by decide)).trans ((up2_o hV189 (by decide)).trans (up2_o hV168 (by decide))))
          have pq198 : (V181 80 gf).toInt = ((V 80 gf)).toInt := congrArg Int32.toInt ((up2_o hV181 (by decide)).trans ((up2_o hV189 (by decide)).trans (up2_o hV168 (by decide))))
          have pq199 : (V181 84 gf).toInt = ((V 84 gf)).toInt := congrArg Int32.toInt ((up2_o hV181 (by decide)).trans ((up2_o hV189 (by decide)).trans (up2_o hV168 (by decide))))
          have pq200 : (V181 5 8).toInt = ((V 5 8)).toInt := congrArg Int32.toInt ((up2_o hV181 (by decide)).trans ((up2_k hV189 (by decide)).trans (up2_k hV168 (by decide))))
          have pq201 : (V181 5 9).toInt = ((V 5 9)).toInt := congrArg Int32.toInt ((up2_o hV181 (by decide)).trans ((up2_k hV189 (by decide)).trans (up2_k hV168 (by decide))))
          have pq202 : (V181 3 13).toInt = ((V 3 13)).toInt := congrArg Int32.toInt ((up2_o hV181 (by decide)).trans ((up2_o hV189 (by decide)).trans (up2_o hV168 (by decide))))
          have pq203 : (V181 43 (5 * b + 2)).toInt = ((V 43 (5 * b + 2))).toInt := congrArg Int32.toInt ((up2_o hV181 (by decide)).trans ((up2_o hV189 (by decide)).trans (up2_o hV168 (by decide))))
          have pq204 : (V181 42 b).toInt = ((V 42 b)).toInt := congrArg Int32.toInt ((up2_o hV181 (by decide)).trans ((up2_o hV189 (by decide)).trans (up2_o hV168 (by decide))))
          have pq205 : (V181 41 b).toInt = ((V 41 b)).toInt := congrArg Int32.toInt ((up2_o hV181 (by decide)).trans ((up2_o hV189 (by decide)).trans (up2_o hV168 (by decide))))
          have ep208 : V181 84 gf = (V 84 gf) := ((up2_o hV181 (by decide)).trans ((up2_o hV189 (by decide)).trans (up2_o hV168 (by decide))))
          have af207 : (V181 42 b).toInt ≤ (V181 84 gf).toInt ∨ (bdp V181 b (V181 84 gf).toInt.toNat).1 = true := by rw [ep208, me193.1.bd, me193.1 42 b (by decide) (by decide)]; exact ft
          have mo206 : MO V181 Z b gf True True True := MO.ch mo me193 ((up2_o hV181 (by decide)).trans ((up2_o hV189 (by decide)).trans (up2_o hV168 (by decide)))) ((up2_o hV181 (by decide)).trans ((up2_o hV189 (by decide)).trans (up2_o hV168 (by decide)))) (fun _ => Or.inl (by omega)) (fun x h => FK.k4 (by omega) (by omega) (by omega) af207 (by omega) (fun hph => absurd hph (by omega)))
          have o9 : opf gB.1 at9.toNat = 4 := ((enO_i ⟨opf gB.1 at9.toNat, op9⟩).2.2.2.1).mp (show enO (opf gB.1 at9.toNat) = 3 from c48.symm.trans (by omega))
          have pl9 : 1 ≤ p.length := (OQ.i4 oq9 o9).1
          obtain ⟨x9, p9, hpe⟩ : ∃ x9 p9, p = x9 :: p9 := by cases p with | nil => exact absurd pl9 (by decide) | cons x y => exact ⟨x, y, rfl⟩
          obtain ⟨t2, ht2, hx2, hp2⟩ : plC V tw9 (x9 :: p9) := by rw [← hpe]; exact hp8
          have lp9 : p.length = p9.length + 1 := by rw [hpe]; rfl
          have cz9 : Int32.toNatClampNeg (V 5 7 - 1) = t2 := by have h9 : (V 5 7 - 1).toInt = (V 5 7).toInt - 1 := i_sub rfl rfl (by decide) (by omega); have h8 := i_clamp (x := V 5 7 - 1) rfl (by omega); omega
          have zx9 : z164 = x9 := by rw [hc170.2, cz9, (Eq.refl (V 39 t2))]; exact hx2
          have p84 : psz (opf gB.1) (at9.toNat + 1) = psz (opf gB.1) at9.toNat + 1 := psz_1 (show opf gB.1 at9.toNat ≠ 2 ∧ ¬ (10 ≤ opf gB.1 at9.toNat ∧ opf gB.1 at9.toNat ≤ 14) from by omega)
          have tx9 : (Int32.toNatClampNeg (V168 5 7)) = t2 := by have h9 := i_clamp (x := V168 5 7) rfl (by omega); omega
          have ng9 : z176 = -x9 := by rw [ez176, zx9]
          have wr209 : (V181 3 13).toInt = (V 3 13).toInt := congrArg Int32.toInt ((up2_o hV181 (by decide)).trans ((up2_o hV189 (by decide)).trans (up2_o hV168 (by decide))))
          have wr210 : (V181 3 12).toInt = (V 3 12).toInt := congrArg Int32.toInt ((up2_o hV181 (by decide)).trans ((up2_o hV189 (by decide)).trans (up2_o hV168 (by decide))))
          have wr211 : (V181 67 gf).toInt = ((V 67 gf)).toInt := (congrArg Int32.toInt ((up2_o hV181 (by decide)).trans ((up2_o hV189 (by decide)).trans (up2_o hV168 (by decide)))))
          have wr212 : (V181 68 gf).toInt = ((V 68 gf)).toInt := (congrArg Int32.toInt ((up2_o hV181 (by decide)).trans ((up2_o hV189 (by decide)).trans (up2_o hV168 (by decide)))))
          have wr213 : (V181 69 gf).toInt = ((V 69 gf)).toInt := (congrArg Int32.toInt ((up2_o hV181 (by decide)).trans ((up2_o hV189 (by decide)).trans (up2_o hV168 (by decide)))))
          have wr214 : (V181 70 gf).toInt = ((V 70 gf)).toInt := (congrArg Int32.toInt ((up2_o hV181 (by decide)).trans ((up2_o hV189 (by decide)).trans (up2_o hV168 (by decide)))))
          have wr215 : (V181 71 gf).toInt = ((V 71 gf)).toInt := (congrArg Int32.toInt ((up2_o hV181 (by decide)).trans ((up2_o hV189 (by decide)).trans (up2_o hV168 (by decide)))))
          have wr216 : (V181 72 gf).toInt = ((V 72 gf)).toInt := (congrArg Int32.toInt ((up2_o hV181 (by decide)).trans ((up2_o hV189 (by decide)).trans (up2_o hV168 (by decide)))))
          have wr217 : (V181 73 gf).toInt = ((V 73 gf)).toInt := (congrArg Int32.toInt ((up2_o hV181 (by decide)).trans ((up2_o hV189 (by decide)).trans (up2_o hV168 (by decide)))))
          have wr218 : (V181 75 gf).toInt = ((V 75 gf)).toInt := (congrArg Int32.toInt ((up2_o hV181 (by decide)).trans ((up2_o hV189 (by decide)).trans (up2_o hV168 (by decide)))))
          have wr219 : (V181 84 gf).toInt = ((V 84 gf)).toInt := (congrArg Int32.toInt ((up2_o hV181 (by decide)).trans ((up2_o hV189 (by decide)).trans (up2_o hV168 (by decide)))))
          have me220 : ME V V181 gf := (ME.up (ME.up (ME.up ME.rf hV168 (Or.inr (by omega))) hV189 (Or.inr (by omega))) hV181 (Or.inr (by omega)))
          have rl221 : RWl V181 gB gr t0 := RWl.mv hlr (fun i9 hi9 c9 h1 h2 => me220.2.1 c9 i9 h1 h2 (by omega)) (fun j9 hj9 => ((up2_k hV181 (by omega)).trans ((up2_o hV189 (by decide)).trans (up2_o hV168 (by decide))))) (by rw [((up2_o hV181 (by decide)).trans ((up2_o hV189 (by decide)).trans (up2_o hV168 (by decide))))]; exact Int.le_refl _) ((up2_o hV181 (by decide)).trans ((up2_o hV189 (by decide)).trans (up2_o hV168 (by decide))))
          have pq222 : (V181 5 7).toInt = z187.toInt := congrArg Int32.toInt ((up2_o hV181 (by decide)).trans (up2_s hV189))
          have fo8 : FRc V181 gB gr.length (Fwork lv o c sc me ps ((at9.toNat + 1 : Nat) : Int) v (-x9 :: p9)) := by rw [gl9]; exact ⟨⟨by omega, by omega⟩, ⟨by omega, ⟨by omega, by omega, by omega⟩, ⟨by omega, by omega, by omega⟩, ⟨by omega, by omega, by omega⟩⟩, (fun h9 => by have h8 := hps9 h9; exact ⟨by omega, by omega, by omega, by omega⟩), ⟨Int.natCast_nonneg _, by show _ = ((psz (opf gB.1) (at9.toNat + 1) : Nat) : Int); omega⟩, (((up2_o hV181 (by decide)).trans ((up2_o hV189 (by decide)).trans (up2_o hV168 (by decide)))).trans q74)⟩
          have esu : ESw U0 V := ESw.sy (ESw.ag (show agr [] [84] V U0 from agr.up agr.rf hU0 rfl) (by decide))
          have rlu : RWl V181 gB (Fwork lv o c sc me ps ((at9.toNat + 1 : Nat) : Int) v (-x9 :: p9) :: gr) (t2 + 1) := ⟨t0, (show t2 + 1 = t0 + (Fwork lv o c sc me ps ((at9.toNat + 1 : Nat) : Int) v (-x9 :: p9) : Fr).2.2.2.length from by show _ = t0 + (_ + 1); omega), fo8, fun _ _ => (by rw [gl9, ((up2_o hV181 (by decide)).trans ((up2_o hV189 (by decide)).trans (up2_o hV168 (by decide))))]; exact hb8), ⟨t2, rfl, (by rw [← tx9]; exact (up2_s hV181).trans ng9), plC.mv hp2 (fun j9 hj9 => ((up2_k hV181 (by omega)).trans ((up2_o hV189 (by decide)).trans (up2_o hV168 (by decide)))))⟩, rl221⟩
          have rz9 : RW V181 gB (gm, ga, Fwork lv o c sc me ps ((at9.toNat + 1 : Nat) : Int) v (-x9 :: p9) :: gr) := RW.id rwu (ESw.tr esu (ESw.ag (show agr [(5, 7)] [39] V V181 from (agr.up (agr.up (agr.up agr.rf hV168 rfl) hV189 rfl) hV181 rfl)) (by decide))) ((((up2_o hV181 (by decide)).trans ((up2_k hV189 (by decide)).trans (up2_k hV168 (by decide))))).trans (up2_o hU0 (by decide)).symm) ((((up2_o hV181 (by decide)).trans ((up2_k hV189 (by decide)).trans (up2_k hV168 (by decide))))).trans (up2_o hU0 (by decide)).symm) ((((up2_o hV181 (by decide)).trans ((up2_k hV189 (by decide)).trans (up2_k hV168 (by decide))))).trans (up2_o hU0 (by decide)).symm) ((((up2_o hV181 (by decide)).trans ((up2_k hV189 (by decide)).trans (up2_k hV168 (by decide))))).trans (up2_o hU0 (by decide)).symm) (show (V181 5 6).toInt = ((gr.length + 1 : Nat) : Int) from by omega) (show (V181 5 7).toInt = ((t2 + 1 : Nat) : Int) from by omega) rlu
          have rx223 : ∃ f2, stM gB (gm, ga, gfr :: gr) = (gm, ga, f2 :: gr) ∧ RW V181 gB (gm, ga, f2 :: gr) := ⟨_, (by rw [hfe, st_12.trans (or_4 o9), hpe]; rfl), rz9⟩
          refine W.know (fun kr1 kr2 => ?_)
          refine W.widen (k := zcc Z) (n := zss Z) (Nat.sub_le _ _) (Nat.sub_le _ _) ?_
          exact W.zret (v := 1) hx hb hr rfl (fun t ht hW => ⟨⟨1, (V181, L, Z), rfl, ⟨hMV181, agV181, rfl, zoZ, (by decide), (Imp.mk (fun _ => mo206)), (Imp.mk (fun hp => absurd hp (by decide))), (Imp.mk (fun _ => (show (V181 5 6).toInt = (V 5 6).toInt ∧ (V181 67 gf).toInt = 4 ∧ (V181 68 gf).toInt = 0 from by omega))), (Imp.mk (fun _ => rfl)), (Or.inl ⟨rfl, _, rx223⟩)⟩, ⟨by rw [ht]; exact hP, va_K.moved hW.alike hK, hD⟩, by rw [ht]; exact kr1, by rw [ht]; exact kr2⟩, hS.F ht⟩) hS.2.2 dX5_worksAlone_68
        · skip
          have ajV181 : agr [] [] V168 V181 := by rw [hw186]; exact agr.rf
          refine lv_iconst (v := 1) hx hb dX5_worksAlone_67 (by decide) ?_
          have pq224 : (V181 5 6).toInt = ((V 5 6)).toInt := congrArg Int32.toInt ((ajV181 5 6 rfl).trans (up2_k hV168 (by decide)))
          have pq225 : (V181 67 gf).toInt = ((V 67 gf)).toInt := congrArg Int32.toInt ((ajV181 67 gf rfl).trans (up2_o hV168 (by decide)))
          have pq226 : (V181 68 gf).toInt = ((V 68 gf)).toInt := congrArg Int32.toInt ((ajV181 68 gf rfl).trans (up2_o hV168 (by decide)))
          have me227 : ME V V181 gf := (ME.tr (ME.up ME.rf hV168 (Or.inr (by omega))) (ME.ag ajV181 (by decide)))
          have pq228 : (V181 70 gf).toInt = ((V 70 gf)).toInt := congrArg Int32.toInt ((ajV181 70 gf rfl).trans (up2_o hV168 (by decide)))
          have pq229 : (V181 71 gf).toInt = ((V 71 gf)).toInt := congrArg Int32.toInt ((ajV181 71 gf rfl).trans (up2_o hV168 (by decide)))
          have pq230 : (V181 75 gf).toInt = ((V 75 gf)).toInt := congrArg Int32.toInt ((ajV181 75 gf rfl).trans (up2_o hV168 (by decide)))
          have pq231 : (V181 76 gf).toInt = ((V 76 gf)).toInt := congrArg Int32.toInt ((ajV181 76 gf rfl).trans (up2_o hV168 (by decide)))
          have pq232 : (V181 80 gf).toInt = ((V 80 gf)).toInt := congrArg Int32.toInt ((ajV181 80 gf rfl).trans (up2_o hV168 (by decide)))
          have pq233 : (V181 84 gf).toInt = ((V 84 gf)).toInt := congrArg Int32.toInt ((ajV181 84 gf rfl).trans (up2_o hV168 (by decide)))
          have pq234 : (V181 5 8).toInt = ((V 5 8)).toInt := congrArg Int32.toInt ((ajV181 5 8 rfl).trans (up2_k hV168 (by decide)))
          have pq235 : (V181 5 9).toInt = ((V 5 9)).toInt := congrArg Int32.toInt ((ajV181 5 9 rfl).trans (up2_k hV168 (by decide)))
          have pq236 : (V181 3 13).toInt = ((V 3 13)).toInt := congrArg Int32.toInt ((ajV181 3 13 rfl).trans (up2_o hV168 (by decide)))
          have pq237 : (V181 43 (5 * b + 2)).toInt = ((V 43 (5 * b + 2))).toInt := congrArg Int32.toInt ((ajV181 43 (5 * b + 2) rfl).trans (up2_o hV168 (by decide)))
          have pq238 : (V181 42 b).toInt = ((V 42 b)).toInt := congrArg Int32.toInt ((ajV181 42 b rfl).trans (up2_o hV168 (by decide)))
          have pq239 : (V181 41 b).toInt = ((V 41 b)).toInt := congrArg Int32.toInt ((ajV181 41 b rfl).trans (up2_o hV168 (by decide)))
          have ep242 : V181 84 gf = (V 84 gf) := ((ajV181 84 gf rfl).trans (up2_o hV168 (by decide)))
          have af241 : (V181 42 b).toInt ≤ (V181 84 gf).toInt ∨ (bdp V181 b (V181 84 gf).toInt.toNat).1 = true := by rw [ep242, me227.1.bd, me227.1 42 b (by decide) (by decide)]; exact ft
          have mo240 : MO V181 Z b gf True True True := MO.ch mo me227 ((ajV181 67 gf rfl).trans (up2_o hV168 (by decide))) ((ajV181 80 gf rfl).trans (up2_o hV168 (by decide))) (fun _ => Or.inl (by omega)) (fun x h => FK.k4 (by omega) (by omega) (by omega) af241 (by omega) (fun hph => absurd hph (by omega)))
          have pq243 : (V168 5 7).toInt = z174.toInt := congrArg Int32.toInt (up2_s hV168)
          have o9 : opf gB.1 at9.toNat = 4 := ((enO_i ⟨opf gB.1 at9.toNat, op9⟩).2.2.2.1).mp (show enO (opf gB.1 at9.toNat) = 3 from c48.symm.trans (by omega))
          have pl9 : 1 ≤ p.length := (OQ.i4 oq9 o9).1
          refine W.know (fun kr1 kr2 => ?_)
          refine W.widen (k := zcc Z) (n := zss Z) (Nat.sub_le _ _) (Nat.sub_le _ _) ?_
          exact W.zret (v := 1) hx hb hr rfl (fun t ht hW => ⟨⟨1, (V181, L, Z), rfl, ⟨hMV181, agV181, rfl, zoZ, (by decide), (Imp.mk (fun _ => mo240)), (Imp.mk (fun hp => absurd hp (by decide))), (Imp.mk (fun _ => (show (V181 5 6).toInt = (V 5 6).toInt ∧ (V181 67 gf).toInt = 4 ∧ (V181 68 gf).toInt = 0 from by omega))), (Imp.mk (fun _ => rfl)), (by exfalso; omega)⟩, ⟨by rw [ht]; exact hP, va_K.moved hW.alike hK, hD⟩, by rw [ht]; exact kr1, by rw [ht]; exact kr2⟩, hS.F ht⟩) hS.2.2 dX5_worksAlone_68
      · skip
        have ajV168 : agr [] [] V V168 := by rw [hw173]; exact agr.rf
        refine lv_ineg hx hb dX5_worksAlone_63 ?_
        refine lv_topi (fun z244 ez244 => ?_)
        refine gA_void (gA_runV (As := [.int z244]) (rest := []) (ci := 5) (q0 := 5) hx hb hml hown hg hP hD hK hS hA hnw hgk (x_put9 l D ks H.size ad kk V168 L Z z244 hMV168 ) w1466 w1468 w72 w171 w1469 rfl xgMachine hdV_yX5_put ⟨Nat.le_of_ble_eq_true rfl, Nat.le_of_ble_eq_true rfl⟩ rfl hl.1 rfl (Nat.le_of_ble_eq_true rfl) dX5_worksAlone_64 ⟨z0, z0⟩) hP hD hK hS hA (fun u246 H locs w247 hP hD hK hS => ?_)
        obtain ⟨V249, L250⟩ := u246
        obtain ⟨hMV249, ajV249, axL250, t248⟩ := w247
        have axL250 : L = L250 := Eq.symm axL250
        subst axL250
        replace hP : va_P D vwCl (xw ad kk V249 L Z) H := hP
        replace hD : va_D A (xw ad kk V249 L Z) := hD
        replace hMV249 : rgd bX V249 := hMV249
        replace ajV249 : agr [(5, 7)] [39] V168 V249 := ajV249
        have agV249 : agr [(5, 6), (5, 7), (5, 9), (5, 10), (5, 13), (5, 14)] [39, 67, 68, 69, 70, 71, 72, 73, 74, 75, 76, 77, 78, 79, 80, 81, 82, 83, 84, 85] V V249 := agV168.tr ajV249 (by decide) (by decide)
        replace t248 : (((V168 5 7).toInt < 2048) ∧ V249 = (up2 (up2 V168 5 7 (V168 5 7 + 1)) 39 (Int32.toNatClampNeg (V168 5 7)) z244)) ∨ ((2048 ≤ (V168 5 7).toInt) ∧ V249 = V168) := t248
        rcases t248 with ⟨hc251, hw252⟩ | ⟨hc253, hw254⟩
        · skip
          have pq256 : (V168 5 7).toInt = ((V 5 7)).toInt := congrArg Int32.toInt (ajV168 5 7 rfl)
          have r257 : 0 ≤ ((V 5 7)).toInt ∧ ((V 5 7)).toInt ≤ 2048 := hMV 5 7
          obtain ⟨z255, ez255⟩ : ∃ y : Int32, y = V168 5 7 + 1 := ⟨_, rfl⟩
          have hz255 : z255.toInt = (V168 5 7).toInt + 1 := i_add ez255 rfl (by decide) (by omega)
          obtain ⟨V258, hV258⟩ : ∃ z, z = up2 V168 5 7 z255 := ⟨_, rfl⟩
          have hV249 : V249 = up2 V258 39 (Int32.toNatClampNeg (V168 5 7)) z244 := by rw [hw252, hV258, ez255]
          refine lv_iconst (v := 1) hx hb dX5_worksAlone_67 (by decide) ?_
          have pq259 : (V249 5 6).toInt = ((V 5 6)).toInt := congrArg Int32.toInt ((up2_o hV249 (by decide)).trans ((up2_k hV258 (by decide)).trans (ajV168 5 6 rfl)))
          have pq260 : (V249 67 gf).toInt = ((V 67 gf)).toInt := congrArg Int32.toInt ((up2_o hV249 (by decide)).trans ((up2_o hV258 (by decide)).trans (ajV168 67 gf rfl)))
          have pq261 : (V249 68 gf).toInt = ((V 68 gf)).toInt := congrArg Int32.toInt ((up2_o hV249 (by decide)).trans ((up2_o hV258 (by decide)).trans (ajV168 68 gf rfl)))
          have me262 : ME V V249 gf := (ME.up (ME.up (ME.tr ME.rf (ME.ag ajV168 (by decide))) hV258 (Or.inr (by omega))) hV249 (Or.inr (by omega)))
          have pq263 : (V249 70 gf).toInt = ((V 70 gf)).toInt := congrArg Int32.toInt ((up2_o hV249 (by decide)).trans ((up2_o hV258 (by decide)).trans (ajV168 70 gf rfl)))
          have pq264 : (V249 71 gf).toInt = ((V 71 gf)).toInt := congrArg Int32.toInt ((up2_o hV249 (by decide)).trans ((up2_o hV258 (by decide)).trans (ajV168 71 gf rfl)))
          have pq265 : (V249 75 gf).toInt = ((V 75 gf)).toInt := congrArg Int32.toInt ((up2_o hV249 (by decide)).trans ((up2_o hV258 (by decide)).trans (ajV168 75 gf rfl)))
          have pq266 : (V249 76 gf).toInt = ((V 76 gf)).toInt := congrArg Int32.toInt ((up2_o hV249 (by decide)).trans ((up2_o hV258 (by decide)).trans (ajV168 76 gf rfl)))
          have pq267 : (V249 80 gf).toInt = ((V 80 gf)).toInt := congrArg Int32.toInt ((up2_o hV249 (by decide)).trans ((up2_o hV258 (by decide)).trans (ajV168 80 gf rfl)))
          have pq268 : (V249 84 gf).toInt = ((V 84 gf)).toInt := congrArg Int32.toInt ((up2_o hV249 (by decide)).trans ((up2_o hV258 (by decide)).trans (ajV168 84 gf rfl)))
          have pq269 : (V249 5 8).toInt = ((V 5 8)).toInt := congrArg Int32.toInt ((up2_o hV249 (by decide)).trans ((up2_k hV258 (by decide)).trans (ajV168 5 8 rfl)))
          have pq270 : (V249 5 9).toInt = ((V 5 9)).toInt := congrArg Int32.toInt ((up2_o hV249 (by decide)).trans ((up2_k hV258 (by decide)).trans (ajV168 5 9 rfl)))
          have pq271 : (V249 3 13).toInt = ((V 3 13)).toInt := congrArg Int32.toInt ((up2_o hV249 (by decide)).trans ((up2_o hV258 (by decide)).trans (ajV168 3 13 rfl)))
          have pq272 : (V249 43 (5 * b + 2)).toInt = ((V 43 (5 * b + 2))).toInt := congrArg Int32.toInt ((up2_o hV249 (by decide)).trans ((up2_o hV258 (by decide)).trans (ajV168 43 (5 * b + 2) rfl)))
          have pq273 : (V249 42 b).toInt = ((V 42 b)).toInt := congrArg Int32.toInt ((up2_o hV249 (by decide)).trans ((up2_o hV258 (by decide)).trans (ajV168 42 b rfl)))
          have pq274 : (V249 41 b).toInt = ((V 41 b)).toInt := congrArg Int32.toInt ((up2_o hV249 (by decide)).trans ((up2_o hV258 (by decide)).trans (ajV168 41 b rfl)))
          have ep277 : V249 84 gf = (V 84 gf) := ((up2_o hV249 (by decide)).trans ((up2_o hV258 (by decide)).trans (ajV168 84 gf rfl)))
          have af276 : (V249 42 b).toInt ≤ (V249 84 gf).toInt ∨ (bdp V249 b (V249 84 gf).toInt.toNat).1 = true := by rw [ep277, me262.1.bd, me262.1 42 b (by decide) (by decide)]; exact ft
          have mo275 : MO V249 Z b gf True True True := MO.ch mo me262 ((up2_o hV249 (by decide)).trans ((up2_o hV258 (by decide)).trans (ajV168 67 gf rfl))) ((up2_o hV249 (by decide)).trans ((up2_o hV258 (by decide)).trans (ajV168 80 gf rfl))) (fun _ => Or.inl (by omega)) (fun x h => FK.k4 (by omega) (by omega) (by omega) af276 (by omega) (fun hph => absurd hph (by omega)))
          have o9 : opf gB.1 at9.toNat = 4 := ((enO_i ⟨opf gB.1 at9.toNat, op9⟩).2.2.2.1).mp (show enO (opf gB.1 at9.toNat) = 3 from c48.symm.trans (by omega))
          have pl9 : 1 ≤ p.length := (OQ.i4 oq9 o9).1
          refine W.know (fun kr1 kr2 => ?_)
          refine W.widen (k := zcc Z) (n := zss Z) (Nat.sub_le _ _) (Nat.sub_le _ _) ?_
          exact W.zret (v := 1) hx hb hr rfl (fun t ht hW => ⟨⟨1, (V249, L, Z), rfl, ⟨hMV249, agV249, rfl, zoZ, (by decide), (Imp.mk (fun _ => mo275)), (Imp.mk (fun hp => absurd hp (by decide))), (Imp.mk (fun _ => (show (V249 5 6).toInt = (V 5 6).toInt ∧ (V249 67 gf).toInt = 4 ∧ (V249 68 gf).toInt = 0 from by omega))), (Imp.mk (fun _ => rfl)), (by exfalso; omega)⟩, ⟨by rw [ht]; exact hP, va_K.moved hW.alike hK, hD⟩, by rw [ht]; exact kr1, by rw [ht]; exact kr2⟩, hS.F ht⟩) hS.2.2 dX5_worksAlone_68
        · skip
          have ajV249 : agr [] [] V168 V249 := by rw [hw254]; exact agr.rf
          refine lv_iconst (v := 1) hx hb dX5_worksAlone_67 (by decide) ?_
          have pq278 : (V249 5 6).toInt = ((V 5 6)).toInt := congrArg Int32.toInt ((ajV249 5 6 rfl).trans (ajV168 5 6 rfl))
          have pq279 : (V249 67 gf).toInt = ((V 67 gf)).toInt := congrArg Int32.toInt ((ajV249 67 gf rfl).trans (ajV168 67 gf rfl))
          have pq280 : (V249 68 gf).toInt = ((V 68 gf)).toInt := congrArg Int32.toInt ((ajV249 68 gf rfl).trans (ajV168 68 gf rfl))
          have me281 : ME V V249 gf := (ME.tr (ME.tr ME.rf (ME.ag ajV168 (by decide))) (ME.ag ajV249 (by decide)))
          have pq282 : (V249 70 gf).toInt = ((V 70 gf)).toInt := congrArg Int32.toInt ((ajV249 70 gf rfl).trans (ajV168 70 gf rfl))
          have pq283 : (V249 71 gf).toInt = ((V 71 gf)).toInt := congrArg Int32.toInt ((ajV249 71 gf rfl).trans (ajV168 71 gf rfl))
          have pq284 : (V249 75 gf).toInt = ((V 75 gf)).toInt := congrArg Int32.toInt ((ajV249 75 gf rfl).trans (ajV168 75 gf rfl))
          have pq285 : (V249 76 gf).toInt = ((V 76 gf)).toInt := congrArg Int32.toInt ((ajV249 76 gf rfl).trans (ajV168 76 gf rfl))
          have pq286 : (V249 80 gf).toInt = ((V 80 gf)).toInt := congrArg Int32.toInt ((ajV249 80 gf rfl).trans (ajV168 80 gf rfl))
          have pq287 : (V249 84 gf).toInt = ((V 84 gf)).toInt := congrArg Int32.toInt ((ajV249 84 gf rfl).trans (ajV168 84 gf rfl))
          have pq288 : (V249 5 8).toInt = ((V 5 8)).toInt := congrArg Int32.toInt ((ajV249 5 8 rfl).trans (ajV168 5 8 rfl))
          have pq289 : (V249 5 9).toInt = ((V 5 9)).toInt := congrArg Int32.toInt ((ajV249 5 9 rfl).trans (ajV168 5 9 rfl))
          have pq290 : (V249 3 13).toInt = ((V 3 13)).toInt := congrArg Int32.toInt ((ajV249 3 13 rfl).trans (ajV168 3 13 rfl))
          have pq291 : (V249 43 (5 * b + 2)).toInt = ((V 43 (5 * b + 2))).toInt := congrArg Int32.toInt ((ajV249 43 (5 * b + 2) rfl).trans (ajV168 43 (5 * b + 2) rfl))
          have pq292 : (V249 42 b).toInt = ((V 42 b)).toInt := congrArg Int32.toInt ((ajV249 42 b rfl).trans (ajV168 42 b rfl))
          have pq293 : (V249 41 b).toInt = ((V 41 b)).toInt := congrArg Int32.toInt ((ajV249 41 b rfl).trans (ajV168 41 b rfl))
          have af295 : (V249 42 b).toInt ≤ (V249 84 gf).toInt ∨ (bdp V249 b (V249 84 gf).toInt.toNat).1 = true := by rw [((ajV249 84 gf rfl).trans (ajV168 84 gf rfl)), me281.1.bd, me281.1 42 b (by decide) (by decide)]; exact ft
          have mo294 : MO V249 Z b gf True True True := MO.ch mo me281 ((ajV249 67 gf rfl).trans (ajV168 67 gf rfl)) ((ajV249 80 gf rfl).trans (ajV168 80 gf rfl)) (fun _ => Or.inl (by omega)) (fun x h => FK.k4 (by omega) (by omega) (by omega) af295 (by omega) (fun hph => absurd hph (by omega)))
          have pq296 : (V168 5 7).toInt = ((V 5 7)).toInt := congrArg Int32.toInt (ajV168 5 7 rfl)
          have r297 : 0 ≤ ((V 5 7)).toInt ∧ ((V 5 7)).toInt ≤ 2048 := hMV 5 7
          have o9 : opf gB.1 at9.toNat = 4 := ((enO_i ⟨opf gB.1 at9.toNat, op9⟩).2.2.2.1).mp (show enO (opf gB.1 at9.toNat) = 3 from c48.symm.trans (by omega))
          have pl9 : 1 ≤ p.length := (OQ.i4 oq9 o9).1
          refine W.know (fun kr1 kr2 => ?_)
          refine W.widen (k := zcc Z) (n := zss Z) (Nat.sub_le _ _) (Nat.sub_le _ _) ?_
          exact W.zret (v := 1) hx hb hr rfl (fun t ht hW => ⟨⟨1, (V249, L, Z), rfl, ⟨hMV249, agV249, rfl, zoZ, (by decide), (Imp.mk (fun _ => mo294)), (Imp.mk (fun hp => absurd hp (by decide))), (Imp.mk (fun _ => (show (V249 5 6).toInt = (V 5 6).toInt ∧ (V249 67 gf).toInt = 4 ∧ (V249 68 gf).toInt = 0 from by omega))), (Imp.mk (fun _ => rfl)), (by exfalso; omega)⟩, ⟨by rw [ht]; exact hP, va_K.moved hW.alike hK, hD⟩, by rw [ht]; exact kr1, by rw [ht]; exact kr2⟩, hS.F ht⟩) hS.2.2 dX5_worksAlone_68
    have gq163 : p1.toInt ≠ 3 := b_neq rfl (by decide) q163
    by_cases q298 : p1 = 4
    · refine g_top (v := 4) q298 ?_
      have fq298 : p1.toInt = 4 := b_eq rfl (by decide) q298
      refine lv_tableIn (x := 4) (off := 68) (tgt := 69) hx hb dX5_worksAlone_1 (by decide) (by decide) (by decide) (by decide) ?_
      refine lv_aload_n hx hb dX5_worksAlone_69 rfl (lv_at hl 1 rfl) ?_
      refine lv_iconst (v := 1) hx hb dX5_worksAlone_70 (by decide) ?_
      refine va_putN (D := D) (ci := 4) (v := .int 1) (ty := tyX4 1) (fs := (xfFrame V gf)) (C := RX4) (T := TX4) (N := 19) hx hb hg inX4 tyX4 tyX4_ok nmX4 hown hK hP hD hS (336 + gf) (xgFrame hgf) rfl 1 (by decide) (hnw.use 1190 n1190 rfl) (fun _ h9 => h9) rfl (tyX4_ok 1 (by decide)) rfl rfl (Nat.le_of_ble_eq_true rfl) dX5_worksAlone_71 (fun H locs hP hD hS => ?_)
      obtain ⟨V299, hV299⟩ : ∃ z, z = up2 V 68 gf 1 := ⟨_, rfl⟩
      have ew300 : (xw ad kk V L Z).set (336 + gf) ((Z.fa gf), .inr (4, (xfFrame V gf).set 1 (.int 1))) = xw ad kk V299 L Z := by rw [hV299]; exact xpFrame_phase hgf
      have hP : va_P D vwCl (xw ad kk V299 L Z) H := by rw [← ew300]; exact hP
      have hD : va_D A (xw ad kk V299 L Z) := by rw [← ew300]; exact hD
      have hMV299 : rgd bX V299 := hMV.put hV299 (i_full _)
      have agV299 : agr [(5, 6), (5, 7), (5, 9), (5, 10), (5, 13), (5, 14)] [39, 67, 68, 69, 70, 71, 72, 73, 74, 75, 76, 77, 78, 79, 80, 81, 82, 83, 84, 85] V V299 := agV.up hV299 rfl
      refine lv_aload_n hx hb dX5_worksAlone_74 rfl (lv_at hl 0 rfl) ?_
      refine lv_aload_n hx hb dX5_worksAlone_75 rfl (lv_at hl 1 rfl) ?_
      refine lv_aload_n hx hb dX5_worksAlone_76 rfl (lv_at hl 1 rfl) ?_
      refine va_getN (D := D) (ci := 4) (v := .int (V299 75 gf)) (fs := (xfFrame V299 gf)) (C := RX4) (T := TX4) (N := 19) hx hb hg inX4 hown hK hP (336 + gf) (xgFrame hgf) rfl 8 (by decide) (hnw.use 1197 n1197 rfl) (fun _ h9 => h9) rfl dX5_worksAlone_77 ?_
      refine g_top (v := (V 75 gf)) (up2_o hV299 (by decide)) ?_
      refine lv_aload_n hx hb dX5_worksAlone_80 rfl (lv_at hl 0 rfl) ?_
      refine gA_int (gA_runV (As := []) (rest := [.int (V 75 gf), .ref (Z.fa gf), .ref (ad 5)]) (ci := 5) (q0 := 5) hx hb hml hown hg hP hD hK hS hA hnw hgk (x_pull9 l D ks H.size ad kk V299 L Z  hMV299 ) w1482 w1484 w76 w171 w1485 rfl xgMachine hdV_yX5_pull ⟨Nat.le_of_ble_eq_true rfl, Nat.le_of_ble_eq_true rfl⟩ rfl hl.1 rfl (Nat.le_of_ble_eq_true rfl) dX5_worksAlone_81 ⟨z0, z0⟩) hP hD hK hS hA (fun z301 u302 H locs w303 hP hD hK hS => ?_)
      obtain ⟨V305, L306⟩ := u302
      obtain ⟨hMV305, ajV305, axL306, t304⟩ := w303
      have axL306 : L = L306 := Eq.symm axL306
      subst axL306
      replace hP : va_P D vwCl (xw ad kk V305 L Z) H := hP
      replace hD : va_D A (xw ad kk V305 L Z) := hD
      replace hMV305 : rgd bX V305 := hMV305
      replace ajV305 : agr [(5, 7)] [] V299 V305 := ajV305
      have agV305 : agr [(5, 6), (5, 7), (5, 9), (5, 10), (5, 13), (5, 14)] [39, 67, 68, 69, 70, 71, 72, 73, 74, 75, 76, 77, 78, 79, 80, 81, 82, 83, 84, 85] V V305 := agV299.tr ajV305 (by decide) (by decide)
      replace t304 : ((0 < (V299 5 7).toInt ∧ z301 = V299 39 (Int32.toNatClampNeg (V299 5 7 - 1))) ∧ V305 = (up2 V299 5 7 (V299 5 7 - 1))) ∨ (((V299 5 7).toInt ≤ 0 ∧ z301 = 0) ∧ V305 = V299) := t304
      rcases t304 with ⟨hc307, hw308⟩ | ⟨hc309, hw310⟩
      · skip
        have pq312 : (V299 5 7).toInt = ((V 5 7)).toInt := congrArg Int32.toInt (up2_o hV299 (by decide))
        have r313 : 0 ≤ ((V 5 7)).toInt ∧ ((V 5 7)).toInt ≤ 2048 := hMV 5 7
        obtain ⟨z311, ez311⟩ : ∃ y : Int32, y = V299 5 7 - 1 := ⟨_, rfl⟩
        have hz311 : z311.toInt = (V299 5 7).toInt - 1 := i_sub ez311 rfl (by decide) (by omega)
        have hV305 : V305 = up2 V299 5 7 z311 := by rw [hw308, ez311]
        have pq314 : (V305 71 gf).toInt = ((V 71 gf)).toInt := congrArg Int32.toInt ((up2_o hV305 (by decide)).trans (up2_o hV299 (by decide)))
        have pq315 : (V305 43 (5 * b + 2)).toInt = ((V 43 (5 * b + 2))).toInt := congrArg Int32.toInt ((up2_o hV305 (by decide)).trans (up2_o hV299 (by decide)))
        have pq316 : (V305 3 13).toInt = ((V 3 13)).toInt := congrArg Int32.toInt ((up2_o hV305 (by decide)).trans (up2_o hV299 (by decide)))
        have pq317 : (V305 70 gf).toInt = ((V 70 gf)).toInt := congrArg Int32.toInt ((up2_o hV305 (by decide)).trans (up2_o hV299 (by decide)))
        have me318 : ME V V305 gf := (ME.up (ME.up ME.rf hV299 (Or.inl ⟨by decide, by decide, Nat.le_refl _⟩)) hV305 (Or.inr (by omega)))
        have pq319 : (V305 67 gf).toInt = ((V 67 gf)).toInt := congrArg Int32.toInt ((up2_o hV305 (by decide)).trans (up2_o hV299 (by decide)))
        have pq320 : (V305 68 gf).toInt = 1 := (congrArg Int32.toInt ((up2_o hV305 (by decide)).trans (up2_s hV299))).trans (by decide)
        have pq321 : (V305 75 gf).toInt = ((V 75 gf)).toInt := congrArg Int32.toInt ((up2_o hV305 (by decide)).trans (up2_o hV299 (by decide)))
        have pq322 : (V305 76 gf).toInt = ((V 76 gf)).toInt := congrArg Int32.toInt ((up2_o hV305 (by decide)).trans (up2_o hV299 (by decide)))
        have pq323 : (V305 80 gf).toInt = ((V 80 gf)).toInt := congrArg Int32.toInt ((up2_o hV305 (by decide)).trans (up2_o hV299 (by decide)))
        have pq324 : (V305 84 gf).toInt = ((V 84 gf)).toInt := congrArg Int32.toInt ((up2_o hV305 (by decide)).trans (up2_o hV299 (by decide)))
        have pq325 : (V305 5 6).toInt = ((V 5 6)).toInt := congrArg Int32.toInt ((up2_k hV305 (by decide)).trans (up2_o hV299 (by decide)))
        have pq326 : (V305 5 8).toInt = ((V 5 8)).toInt := congrArg Int32.toInt ((up2_k hV305 (by decide)).trans (up2_o hV299 (by decide)))
        have pq327 : (V305 5 9).toInt = ((V 5 9)).toInt := congrArg Int32.toInt ((up2_k hV305 (by decide)).trans (up2_o hV299 (by decide)))
        have pq328 : (V305 42 b).toInt = ((V 42 b)).toInt := congrArg Int32.toInt ((up2_o hV305 (by decide)).trans (up2_o hV299 (by decide)))
        have pq329 : (V305 41 b).toInt = ((V 41 b)).toInt := congrArg Int32.toInt ((up2_o hV305 (by decide)).trans (up2_o hV299 (by decide)))
        have ep332 : V305 84 gf = (V 84 gf) := ((up2_o hV305 (by decide)).trans (up2_o hV299 (by decide)))
        have af331 : (V305 42 b).toInt ≤ (V305 84 gf).toInt ∨ (bdp V305 b (V305 84 gf).toInt.toNat).1 = true := by rw [ep332, me318.1.bd, me318.1 42 b (by decide) (by decide)]; exact ft
        have mo330 : MO V305 Z b gf True True True := MO.ch mo me318 ((up2_o hV305 (by decide)).trans (up2_o hV299 (by decide))) ((up2_o hV305 (by decide)).trans (up2_o hV299 (by decide))) (fun _ => Or.inl (by omega)) (fun x h => FK.k4 (by omega) (by omega) (by omega) af331 (by omega) (fun hph => absurd hph (by omega)))
        have mt333 : MT V305 Z b := MO.mt mo330 (by omega) (by omega)
        refine W.know (fun k335 k336 => ?_)
        obtain ⟨Hk334, hHk334⟩ : ∃ z, z = H := ⟨_, rfl⟩
        have k335 : Hk334.size ≤ s.heap.size + (zcc Z - zcc Z) := by rw [hHk334]; exact k335
        have k336 : tot Hk334 ≤ tot s.heap + (zss Z - zss Z) := by rw [hHk334]; exact k336
        refine gZ_void (gA_runV (As := [.ref (Z.fa gf), .int (V 75 gf), .int z301]) (rest := []) (ci := 5) (q0 := 5) hx hb hml hown hg hP hD hK hS hA hnw hgk (x_pushInside9 l D ks H.size ad kk V305 L Z (V 75 gf) z301 (b) (gf) hMV305 (by omega) (show b < 2 from by omega) (show gf < Z.nf from by omega) mt333 (show 0 ≤ (V305 71 gf).toInt ∧ (V305 71 gf).toInt < (V305 43 (5 * b + 2)).toInt from by omega) (show 0 ≤ (V305 70 gf).toInt ∧ (V305 70 gf).toInt < (V305 3 13).toInt from by omega)) w1388 w1390 w60 w171 w1391 rfl xgMachine hdV_yX5_pushInside ⟨Nat.le_of_ble_eq_true rfl, Nat.le_of_ble_eq_true rfl⟩ rfl hl.1 rfl (Nat.le_of_ble_eq_true rfl) dX5_worksAlone_84 ⟨z1 zoZ.1, z1 zoZ.2.1⟩) hD hS hA (fun u338 H locs w339 hP hD hK hS y340 y341 => ?_)
        obtain ⟨V342, L343, Z344⟩ := u338
        obtain ⟨hMV342, ajV342, axL343, zlZ344, t346, t347⟩ := w339
        have axL343 : L = L343 := Eq.symm axL343
        subst axL343
        replace hP : va_P D vwCl (xw ad kk V342 L Z344) H := hP
        replace hD : va_D A (xw ad kk V342 L Z344) := hD
        replace hK : va_K D vwCl (xty kk Z344) s := hK
        replace hMV342 : rgd bX V342 := hMV342
        replace ajV342 : agr [(5, 6), (5, 9)] [67, 68, 69, 70, 71, 72, 73, 74, 75, 76, 77, 78, 79, 80, 81, 82, 83, 84, 85] V305 V342 := ajV342
        have agV342 : agr [(5, 6), (5, 7), (5, 9), (5, 10), (5, 13), (5, 14)] [39, 67, 68, 69, 70, 71, 72, 73, 74, 75, 76, 77, 78, 79, 80, 81, 82, 83, 84, 85] V V342 := agV305.tr ajV342 (by decide) (by decide)
        replace zlZ344 : ZL Z Z344 := zlZ344
        have zoZ344 : ZL Z Z344 := ZL.tr zoZ zlZ344
        have ziZ344 := zlZ344.1
        have zjZ344 := zlZ344.2.1
        have zkZ344 := zlZ344.2.2.1
        have zmZ344 := zoZ344.1
        have znZ344 := zoZ344.2.1
        have zpZ_Z344 := zoZ.1
        have zqZ_Z344 := zoZ.2.1
        have y340 : H.size ≤ Hk334.size + (zcc Z - zcc Z344) := by rw [hHk334]; exact y340
        have y341 : tot H ≤ tot Hk334 + (zss Z - zss Z344) := by rw [hHk334]; exact y341
        refine W.tight (k := zcc Z - zcc Z344) (n := zss Z - zss Z344) (by first | exact tg9 y340 k335 zlZ344.1 zoZ.1 | omega) (by first | exact tg9 y341 k336 zlZ344.2.1 zoZ.2.1 | omega) ?_
        have hl : lv_has ls 3 [(0, .ref (ad 5)), (1, .ref (Z344.fa gf)), (2, .int p1)] := by rw [zlZ344.2.2.2.2 gf hgf]; exact hl
        replace t346 : MJ V342 Z344 b := t346
        replace t347 : Imp ((V305 5 6).toInt < 400 ∧ (gf : Int) < (V305 5 6).toInt) (PIn V305 V342 gf ((V305 5 6).toInt.toNat) (V 75 gf) z301) := t347
        refine lv_iconst (v := 0) hx hb dX5_worksAlone_87 (by decide) ?_
        have r348 : 0 ≤ ((V342 5 6)).toInt ∧ ((V342 5 6)).toInt ≤ 400 := hMV342 5 6
        have o9 : opf gB.1 at9.toNat = 15 := ((enO_i ⟨opf gB.1 at9.toNat, op9⟩).2.2.2.2.1).mp (show enO (opf gB.1 at9.toNat) = 4 from c48.symm.trans (by omega))
        have pl9 : 1 ≤ p.length := (by obtain ⟨_, t8, h8, _⟩ := OQ.i15 oq9 o9; omega)
        obtain ⟨x9, p9, hpe⟩ : ∃ x9 p9, p = x9 :: p9 := by cases p with | nil => exact absurd pl9 (by decide) | cons x y => exact ⟨x, y, rfl⟩
        obtain ⟨t2, ht2, hx2, hp2⟩ : plC V tw9 (x9 :: p9) := by rw [← hpe]; exact hp8
        have lp9 : p.length = p9.length + 1 := by rw [hpe]; rfl
        have cz9 : Int32.toNatClampNeg (V299 5 7 - 1) = t2 := by have h9 : (V299 5 7 - 1).toInt = (V299 5 7).toInt - 1 := i_sub rfl rfl (by decide) (by omega); have h8 := i_clamp (x := V299 5 7 - 1) rfl (by omega); omega
        have zx9 : z301 = x9 := by rw [hc307.2, cz9, (up2_o hV299 (by decide))]; exact hx2
        have p84 : psz (opf gB.1) (at9.toNat + 1) = psz (opf gB.1) at9.toNat + 1 := psz_1 (show opf gB.1 at9.toNat ≠ 2 ∧ ¬ (10 ≤ opf gB.1 at9.toNat ∧ opf gB.1 at9.toNat ≤ 14) from by omega)
        have ps9 : 0 < ps := by obtain ⟨h8, _⟩ := OQ.i15 oq9 o9; exact of_decide_eq_true h8
        have hq9 := hps9 ps9
        have pw := Imp.go t347 ⟨by omega, by omega⟩
        have pi9 : (V305 5 6).toInt.toNat = gr.length + 1 := by omega
        rw [pi9] at pw
        obtain ⟨⟨pd1, pd2, pke⟩, ⟨pk1, pk2⟩, ⟨p69, p70, p71, p72, p73⟩, pag, pps⟩ := pw
        have wr349 : (V342 3 13).toInt = (V 3 13).toInt := congrArg Int32.toInt ((ajV342 3 13 rfl).trans ((up2_o hV305 (by decide)).trans (up2_o hV299 (by decide))))
        have wr350 : (V342 3 12).toInt = (V 3 12).toInt := congrArg Int32.toInt ((ajV342 3 12 rfl).trans ((up2_o hV305 (by decide)).trans (up2_o hV299 (by decide))))
        have wr351 : (V342 67 gf).toInt = ((V 67 gf)).toInt := (congrArg Int32.toInt ((pke gf (by omega) 67 (by decide) (by decide)).trans ((up2_o hV305 (by decide)).trans (up2_o hV299 (by decide)))))
        have wr352 : (V342 68 gf).toInt = 1 := (congrArg Int32.toInt ((pke gf (by omega) 68 (by decide) (by decide)).trans ((up2_o hV305 (by decide)).trans (up2_s hV299)))).trans (by decide)
        have wr353 : (V342 69 gf).toInt = ((V 69 gf)).toInt := (congrArg Int32.toInt ((pke gf (by omega) 69 (by decide) (by decide)).trans ((up2_o hV305 (by decide)).trans (up2_o hV299 (by decide)))))
        have wr354 : (V342 70 gf).toInt = ((V 70 gf)).toInt := (congrArg Int32.toInt ((pke gf (by omega) 70 (by decide) (by decide)).trans ((up2_o hV305 (by decide)).trans (up2_o hV299 (by decide)))))
        have wr355 : (V342 71 gf).toInt = ((V 71 gf)).toInt := (congrArg Int32.toInt ((pke gf (by omega) 71 (by decide) (by decide)).trans ((up2_o hV305 (by decide)).trans (up2_o hV299 (by decide)))))
        have wr356 : (V342 72 gf).toInt = ((V 72 gf)).toInt := (congrArg Int32.toInt ((pke gf (by omega) 72 (by decide) (by decide)).trans ((up2_o hV305 (by decide)).trans (up2_o hV299 (by decide)))))
        have wr357 : (V342 73 gf).toInt = ((V 73 gf)).toInt := (congrArg Int32.toInt ((pke gf (by omega) 73 (by decide) (by decide)).trans ((up2_o hV305 (by decide)).trans (up2_o hV299 (by decide)))))
        have wr358 : (V342 75 gf).toInt = ((V 75 gf)).toInt := (congrArg Int32.toInt ((pke gf (by omega) 75 (by decide) (by decide)).trans ((up2_o hV305 (by decide)).trans (up2_o hV299 (by decide)))))
        have wr359 : (V342 84 gf).toInt = ((V 84 gf)).toInt := (congrArg Int32.toInt ((pke gf (by omega) 84 (by decide) (by decide)).trans ((up2_o hV305 (by decide)).trans (up2_o hV299 (by decide)))))
        have wr360 : (V342 69 (gr.length + 1)).toInt = ((V 69 gf)).toInt := (congrArg Int32.toInt (p69.trans ((up2_o hV305 (by decide)).trans (up2_o hV299 (by decide)))))
        have wr361 : (V342 70 (gr.length + 1)).toInt = ((V 70 gf)).toInt := (congrArg Int32.toInt (p70.trans ((up2_o hV305 (by decide)).trans (up2_o hV299 (by decide)))))
        have wr362 : (V342 71 (gr.length + 1)).toInt = ((V 71 gf)).toInt := (congrArg Int32.toInt (p71.trans ((up2_o hV305 (by decide)).trans (up2_o hV299 (by decide)))))
        have wr363 : (V342 72 (gr.length + 1)).toInt = ((V 72 gf)).toInt := (congrArg Int32.toInt (p72.trans ((up2_o hV305 (by decide)).trans (up2_o hV299 (by decide)))))
        have wr364 : (V342 73 (gr.length + 1)).toInt = ((V 73 gf)).toInt := (congrArg Int32.toInt (p73.trans ((up2_o hV305 (by decide)).trans (up2_o hV299 (by decide)))))
        have me365 : ME V V305 gf := (ME.up (ME.up ME.rf hV299 (Or.inl ⟨by decide, by decide, Nat.le_refl _⟩)) hV305 (Or.inr (by omega)))
        have rl366 : RWl V342 gB gr t0 := RWl.mv hlr (fun i9 hi9 c9 h1 h2 => ((pke i9 (by omega) c9 h1 h2)).trans (me365.2.1 c9 i9 h1 h2 (by omega))) (fun j9 hj9 => ((ajV342 39 j9 rfl).trans ((up2_o hV305 (by decide)).trans (up2_o hV299 (by decide))))) (by rw [((ajV342 3 13 rfl).trans ((up2_o hV305 (by decide)).trans (up2_o hV299 (by decide))))]; exact Int.le_refl _) ((ajV342 3 12 rfl).trans ((up2_o hV305 (by decide)).trans (up2_o hV299 (by decide))))
        have fb8 : FRc V342 gB gr.length (Fwait lv o c sc me ps ((at9.toNat + 1 : Nat) : Int) v p9) := by rw [gl9]; exact ⟨⟨by omega, by omega⟩, ⟨by omega, ⟨by omega, by omega, by omega⟩, ⟨by omega, by omega, by omega⟩, ⟨by omega, by omega, by omega⟩⟩, (fun _ => ⟨by omega, by omega, by omega, by omega⟩), ⟨Int.natCast_nonneg _, by show _ = ((psz (opf gB.1) (at9.toNat + 1) : Nat) : Int); omega⟩, ((pke gf (by omega) 74 (by decide) (by decide)).trans (((up2_o hV305 (by decide)).trans (up2_o hV299 (by decide))).trans q74))⟩
        have w75 := congrArg Int32.toInt pps
        have ft9 : FRc V342 gB (gr.length + 1) (Fin0 lv o c sc me ps x9) := ⟨⟨pk1, pk2⟩, ⟨by omega, ⟨by omega, by omega, by omega⟩, ⟨by omega, by omega, by omega⟩, ⟨by omega, by omega, by omega⟩⟩, ⟨by omega, by omega, by omega⟩, by omega, pag.trans zx9⟩
        have pq367 : (V305 5 7).toInt = z311.toInt := congrArg Int32.toInt (up2_s hV305)
        have pq368 : (V342 5 7).toInt = z311.toInt := congrArg Int32.toInt ((ajV342 5 7 rfl).trans (up2_s hV305))
        have rlu : RWl V342 gB (Fin0 lv o c sc me ps x9 :: Fwait lv o c sc me ps ((at9.toNat + 1 : Nat) : Int) v p9 :: gr) t2 := RWl.push ⟨t0, (show t2 = t0 + p9.length from by omega), fb8, (fun _ _ => by rw [gl9, ((pke gf (by omega) 85 (by decide) (by decide)).trans ((up2_o hV305 (by decide)).trans (up2_o hV299 (by decide))))]; exact hb8), plC.mv hp2 (fun j9 _ => ((ajV342 39 j9 rfl).trans ((up2_o hV305 (by decide)).trans (up2_o hV299 (by decide))))), rl366⟩ ft9 rfl (np9 rfl)
        have esu : ESw U0 V := ESw.sy (ESw.ag (show agr [] [84] V U0 from agr.up agr.rf hU0 rfl) (by decide))
        have rz9 : RW V342 gB (mU gm 0 6 0, ga, Fin0 lv o c sc me ps x9 :: Fwait lv o c sc me ps ((at9.toNat + 1 : Nat) : Int) v p9 :: gr) := RW.sgn rwu (ESw.tr esu (ESw.ag (show agr [(5, 6), (5, 7), (5, 9)] [67, 68, 69, 70, 71, 72, 73, 74, 75, 76, 77, 78, 79, 80, 81, 82, 83, 84, 85] V V342 from (agr.tr (agr.up (agr.up agr.rf hV299 rfl) hV305 rfl) ajV342 (by decide) (by decide))) (by decide))) pd2 (fun h9 => absurd h9 (by decide)) (fun h9 => absurd h9 (by decide)) (show (V342 5 6).toInt = ((gr.length + 1 + 1 : Nat) : Int) from by omega) (show (V342 5 7).toInt = ((t2 : Nat) : Int) from by omega) rlu
        have rx369 : RW V342 gB (stM gB (gm, ga, gfr :: gr)) := by rw [hfe, st_12.trans (or_15 o9), hpe]; exact rz9
        refine W.know (fun kr1 kr2 => ?_)
        refine W.widen (k := zcc Z) (n := zss Z) (Nat.sub_le _ _) (Nat.sub_le _ _) ?_
        exact W.zret (v := 0) hx hb hr rfl (fun t ht hW => ⟨⟨0, (V342, L, Z344), rfl, ⟨hMV342, agV342, rfl, zoZ344, (by decide), (Imp.mk (fun hp => absurd hp (by decide))), (Imp.mk (fun _ => t346)), (Imp.mk (fun hp => absurd hp (by decide))), (Imp.mk (fun hp => absurd hp (by decide))), (Or.inr ⟨rfl, rx369⟩)⟩, ⟨by rw [ht]; exact hP, va_K.moved hW.alike hK, hD⟩, by rw [ht]; exact kr1, by rw [ht]; exact kr2⟩, hS.F ht⟩) hS.2.2 dX5_worksAlone_88
      · skip
        have ajV305 : agr [] [] V299 V305 := by rw [hw310]; exact agr.rf
        have pq370 : (V305 71 gf).toInt = ((V 71 gf)).toInt := congrArg Int32.toInt ((ajV305 71 gf rfl).trans (up2_o hV299 (by decide)))
        have pq371 : (V305 43 (5 * b + 2)).toInt = ((V 43 (5 * b + 2))).toInt := congrArg Int32.toInt ((ajV305 43 (5 * b + 2) rfl).trans (up2_o hV299 (by decide)))
        have pq372 : (V305 3 13).toInt = ((V 3 13)).toInt := congrArg Int32.toInt ((ajV305 3 13 rfl).trans (up2_o hV299 (by decide)))
        have pq373 : (V305 70 gf).toInt = ((V 70 gf)).toInt := congrArg Int32.toInt ((ajV305 70 gf rfl).trans (up2_o hV299 (by decide)))
        have me374 : ME V V305 gf := (ME.tr (ME.up ME.rf hV299 (Or.inl ⟨by decide, by decide, Nat.le_refl _⟩)) (ME.ag ajV305 (by decide)))
        have pq375 : (V305 67 gf).toInt = ((V 67 gf)).toInt := congrArg Int32.toInt ((ajV305 67 gf rfl).trans (up2_o hV299 (by decide)))
        have pq376 : (V305 68 gf).toInt = 1 := (congrArg Int32.toInt ((ajV305 68 gf rfl).trans (up2_s hV299))).trans (by decide)
        have pq377 : (V305 75 gf).toInt = ((V 75 gf)).toInt := congrArg Int32.toInt ((ajV305 75 gf rfl).trans (up2_o hV299 (by decide)))
        have pq378 : (V305 76 gf).toInt = ((V 76 gf)).toInt := congrArg Int32.toInt ((ajV305 76 gf rfl).trans (up2_o hV299 (by decide)))
        have pq379 : (V305 80 gf).toInt = ((V 80 gf)).toInt := congrArg Int32.toInt ((ajV305 80 gf rfl).trans (up2_o hV299 (by decide)))
        have pq380 : (V305 84 gf).toInt = ((V 84 gf)).toInt := congrArg Int32.toInt ((ajV305 84 gf rfl).trans (up2_o hV299 (by decide)))
        have pq381 : (V305 5 6).toInt = ((V 5 6)).toInt := congrArg Int32.toInt ((ajV305 5 6 rfl).trans (up2_o hV299 (by decide)))
        have pq382 : (V305 5 8).toInt = ((V 5 8)).toInt := congrArg Int32.toInt ((ajV305 5 8 rfl).trans (up2_o hV299 (by decide)))
        have pq383 : (V305 5 9).toInt = ((V 5 9)).toInt := congrArg Int32.toInt ((ajV305 5 9 rfl).trans (up2_o hV299 (by decide)))
        have pq384 : (V305 42 b).toInt = ((V 42 b)).toInt := congrArg Int32.toInt ((ajV305 42 b rfl).trans (up2_o hV299 (by decide)))
        have pq385 : (V305 41 b).toInt = ((V 41 b)).toInt := congrArg Int32.toInt ((ajV305 41 b rfl).trans (up2_o hV299 (by decide)))
        have ep388 : V305 84 gf = (V 84 gf) := ((ajV305 84 gf rfl).trans (up2_o hV299 (by decide)))
        have af387 : (V305 42 b).toInt ≤ (V305 84 gf).toInt ∨ (bdp V305 b (V305 84 gf).toInt.toNat).1 = true := by rw [ep388, me374.1.bd, me374.1 42 b (by decide) (by decide)]; exact ft
        have mo386 : MO V305 Z b gf True True True := MO.ch mo me374 ((ajV305 67 gf rfl).trans (up2_o hV299 (by decide))) ((ajV305 80 gf rfl).trans (up2_o hV299 (by decide))) (fun _ => Or.inl (by omega)) (fun x h => FK.k4 (by omega) (by omega) (by omega) af387 (by omega) (fun hph => absurd hph (by omega)))
        have mt389 : MT V305 Z b := MO.mt mo386 (by omega) (by omega)
        refine W.know (fun k391 k392 => ?_)
        obtain ⟨Hk390, hHk390⟩ : ∃ z, z = H := ⟨_, rfl⟩
        have k391 : Hk390.size ≤ s.heap.size + (zcc Z - zcc Z) := by rw [hHk390]; exact k391
        have k392 : tot Hk390 ≤ tot s.heap + (zss Z - zss Z) := by rw [hHk390]; exact k392
        refine gZ_void (gA_runV (As := [.ref (Z.fa gf), .int (V 75 gf), .int z301]) (rest := []) (ci := 5) (q0 := 5) hx hb hml hown hg hP hD hK hS hA hnw hgk (x_pushInside9 l D ks H.size ad kk V305 L Z (V 75 gf) z301 (b) (gf) hMV305 (by omega) (show b < 2 from by omega) (show gf < Z.nf from by omega) mt389 (show 0 ≤ (V305 71 gf).toInt ∧ (V305 71 gf).toInt < (V305 43 (5 * b + 2)).toInt from by omega) (show 0 ≤ (V305 70 gf).toInt ∧ (V305 70 gf).toInt < (V305 3 13).toInt from by omega)) w1388 w1390 w60 w171 w1391 rfl xgMachine hdV_yX5_pushInside ⟨Nat.le_of_ble_eq_true rfl, Nat.le_of_ble_eq_true rfl⟩ rfl hl.1 rfl (Nat.le_of_ble_eq_true rfl) dX5_worksAlone_84 ⟨z1 zoZ.1, z1 zoZ.2.1⟩) hD hS hA (fun u394 H locs w395 hP hD hK hS y396 y397 => ?_)
        obtain ⟨V398, L399, Z400⟩ := u394
        obtain ⟨hMV398, ajV398, axL399, zlZ400, t402, t403⟩ := w395
        have axL399 : L = L399 := Eq.symm axL399
        subst axL399
        replace hP : va_P D vwCl (xw ad kk V398 L Z400) H := hP
        replace hD : va_D A (xw ad kk V398 L Z400) := hD
        replace hK : va_K D vwCl (xty kk Z400) s := hK
        replace hMV398 : rgd bX V398 := hMV398
        replace ajV398 : agr [(5, 6), (5, 9)] [67, 68, 69, 70, 71, 72, 73, 74, 75, 76, 77, 78, 79, 80, 81, 82, 83, 84, 85] V305 V398 := ajV398
        have agV398 : agr [(5, 6), (5, 7), (5, 9), (5, 10), (5, 13), (5, 14)] [39, 67, 68, 69, 70, 71, 72, 73, 74, 75, 76, 77, 78, 79, 80, 81, 82, 83, 84, 85] V V398 := agV305.tr ajV398 (by decide) (by decide)
        replace zlZ400 : ZL Z Z400 := zlZ400
        have zoZ400 : ZL Z Z400 := ZL.tr zoZ zlZ400
        have ziZ400 := zlZ400.1
        have zjZ400 := zlZ400.2.1
        have zkZ400 := zlZ400.2.2.1
        have zmZ400 := zoZ400.1
        have znZ400 := zoZ400.2.1
        have zpZ_Z400 := zoZ.1
        have zqZ_Z400 := zoZ.2.1
        have y396 : H.size ≤ Hk390.size + (zcc Z - zcc Z400) := by rw [hHk390]; exact y396
        have y397 : tot H ≤ tot Hk390 + (zss Z - zss Z400) := by rw [hHk390]; exact y397
        refine W.tight (k := zcc Z - zcc Z400) (n := zss Z - zss Z400) (by first | exact tg9 y396 k391 zlZ400.1 zoZ.1 | omega) (by first | exact tg9 y397 k392 zlZ400.2.1 zoZ.2.1 | omega) ?_
        have hl : lv_has ls 3 [(0, .ref (ad 5)), (1, .ref (Z400.fa gf)), (2, .int p1)] := by rw [zlZ400.2.2.2.2 gf hgf]; exact hl
        replace t402 : MJ V398 Z400 b := t402
        replace t403 : Imp ((V305 5 6).toInt < 400 ∧ (gf : Int) < (V305 5 6).toInt) (PIn V305 V398 gf ((V305 5 6).toInt.toNat) (V 75 gf) z301) := t403
        refine lv_iconst (v := 0) hx hb dX5_worksAlone_87 (by decide) ?_
        have r404 : 0 ≤ ((V398 5 6)).toInt ∧ ((V398 5 6)).toInt ≤ 400 := hMV398 5 6
        have pq405 : (V299 5 7).toInt = ((V 5 7)).toInt := congrArg Int32.toInt (up2_o hV299 (by decide))
        have r406 : 0 ≤ ((V 5 7)).toInt ∧ ((V 5 7)).toInt ≤ 2048 := hMV 5 7
        have o9 : opf gB.1 at9.toNat = 15 := ((enO_i ⟨opf gB.1 at9.toNat, op9⟩).2.2.2.2.1).mp (show enO (opf gB.1 at9.toNat) = 4 from c48.symm.trans (by omega))
        have pl9 : 1 ≤ p.length := by obtain ⟨_, t8, h8, _⟩ := OQ.i15 oq9 o9; omega
        refine W.know (fun kr1 kr2 => ?_)
        refine W.widen (k := zcc Z) (n := zss Z) (Nat.sub_le _ _) (Nat.sub_le _ _) ?_
        exact W.zret (v := 0) hx hb hr rfl (fun t ht hW => ⟨⟨0, (V398, L, Z400), rfl, ⟨hMV398, agV398, rfl, zoZ400, (by decide), (Imp.mk (fun hp => absurd hp (by decide))), (Imp.mk (fun _ => t402)), (Imp.mk (fun hp => absurd hp (by decide))), (Imp.mk (fun hp => absurd hp (by decide))), (by exfalso; omega)⟩, ⟨by rw [ht]; exact hP, va_K.moved hW.alike hK, hD⟩, by rw [ht]; exact kr1, by rw [ht]; exact kr2⟩, hS.F ht⟩) hS.2.2 dX5_worksAlone_88
    have gq298 : p1.toInt ≠ 4 := b_neq rfl (by decide) q298
    refine lv_tableOut (x := p1) (tgt := 89) hx hb dX5_worksAlone_1 (by omega) (by decide) ?_
    refine lv_aload_n hx hb dX5_worksAlone_89 rfl (lv_at hl 0 rfl) ?_
    refine lv_aload_n hx hb dX5_worksAlone_90 rfl (lv_at hl 0 rfl) ?_
    refine gA_int (gA_runV (As := []) (rest := [.ref (ad 5)]) (ci := 5) (q0 := 5) hx hb hml hown hg hP hD hK hS hA hnw hgk (x_pull9 l D ks H.size ad kk V L Z  hMV ) w1482 w1484 w76 w171 w1485 rfl xgMachine hdV_yX5_pull ⟨Nat.le_of_ble_eq_true rfl, Nat.le_of_ble_eq_true rfl⟩ rfl hl.1 rfl (Nat.le_of_ble_eq_true rfl) dX5_worksAlone_91 ⟨z0, z0⟩) hP hD hK hS hA (fun z407 u408 H locs w409 hP hD hK hS => ?_)
    obtain ⟨V411, L412⟩ := u408
    obtain ⟨hMV411, ajV411, axL412, t410⟩ := w409
    have axL412 : L = L412 := Eq.symm axL412
    subst axL412
    replace hP : va_P D vwCl (xw ad kk V411 L Z) H := hP
    replace hD : va_D A (xw ad kk V411 L Z) := hD
    replace hMV411 : rgd bX V411 := hMV411
    replace ajV411 : agr [(5, 7)] [] V V411 := ajV411
    have agV411 : agr [(5, 6), (5, 7), (5, 9), (5, 10), (5, 13), (5, 14)] [39, 67, 68, 69, 70, 71, 72, 73, 74, 75, 76, 77, 78, 79, 80, 81, 82, 83, 84, 85] V V411 := agV.tr ajV411 (by decide) (by decide)
    replace t410 : ((0 < (V 5 7).toInt ∧ z407 = V 39 (Int32.toNatClampNeg (V 5 7 - 1))) ∧ V411 = (up2 V 5 7 (V 5 7 - 1))) ∨ (((V 5 7).toInt ≤ 0 ∧ z407 = 0) ∧ V411 = V) := t410
    rcases t410 with ⟨hc413, hw414⟩ | ⟨hc415, hw416⟩
    · skip
      have r418 : 0 ≤ ((V 5 7)).toInt ∧ ((V 5 7)).toInt ≤ 2048 := hMV 5 7
      obtain ⟨z417, ez417⟩ : ∃ y : Int32, y = V 5 7 - 1 := ⟨_, rfl⟩
      have hz417 : z417.toInt = (V 5 7).toInt - 1 := i_sub ez417 rfl (by decide) (by omega)
      have hV411 : V411 = up2 V 5 7 z417 := by rw [hw414, ez417]
      refine gA_void (gA_runV (As := [.int z407]) (rest := []) (ci := 5) (q0 := 5) hx hb hml hown hg hP hD hK hS hA hnw hgk (x_answerWith9 l D ks H.size ad kk V411 L Z z407 hMV411 ) w1304 w1306 w49 w171 w1307 rfl xgMachine hdV_yX5_answerWith ⟨Nat.le_of_ble_eq_true rfl, Nat.le_of_ble_eq_true rfl⟩ rfl hl.1 rfl (Nat.le_of_ble_eq_true rfl) dX5_worksAlone_94 ⟨z0, z0⟩) hP hD hK hS hA (fun u420 H locs w421 hP hD hK hS => ?_)
      obtain ⟨V425, L426⟩ := u420
      obtain ⟨hMV425, ajV425, axL426, t422, t423, t424⟩ := w421
      have axL426 : L = L426 := Eq.symm axL426
      subst axL426
      replace hP : va_P D vwCl (xw ad kk V425 L Z) H := hP
      replace hD : va_D A (xw ad kk V425 L Z) := hD
      replace hMV425 : rgd bX V425 := hMV425
      replace ajV425 : agr [(5, 9), (5, 10)] [] V411 V425 := ajV425
      have agV425 : agr [(5, 6), (5, 7), (5, 9), (5, 10), (5, 13), (5, 14)] [39, 67, 68, 69, 70, 71, 72, 73, 74, 75, 76, 77, 78, 79, 80, 81, 82, 83, 84, 85] V V425 := agV411.tr ajV425 (by decide) (by decide)
      replace t422 : (V425 5 9).toInt = 1 := t422
      replace t423 : (V425 5 10).toInt = z407.toInt := t423
      replace t424 : ((True) ∧ V425 = (up2 (up2 V411 5 9 1) 5 10 z407)) := t424
      have r427 : 0 ≤ ((V425 5 9)).toInt ∧ ((V425 5 9)).toInt ≤ 3 := hMV425 5 9
      have hw428 := t424.2
      obtain ⟨V429, hV429⟩ : ∃ z, z = up2 V411 5 9 1 := ⟨_, rfl⟩
      have hV425 : V425 = up2 V429 5 10 z407 := by rw [hw428, hV429]
      refine lv_aload_n hx hb dX5_worksAlone_97 rfl (lv_at hl 0 rfl) ?_
      refine lv_aload_n hx hb dX5_worksAlone_98 rfl (lv_at hl 1 rfl) ?_
      have pq430 : (V425 5 6).toInt = ((V 5 6)).toInt := congrArg Int32.toInt ((up2_k hV425 (by decide)).trans ((up2_k hV429 (by decide)).trans (up2_k hV411 (by decide))))
      have pq431 : (V425 67 gf).toInt = ((V 67 gf)).toInt := congrArg Int32.toInt ((up2_o hV425 (by decide)).trans ((up2_o hV429 (by decide)).trans (up2_o hV411 (by decide))))
      have me432 : ME V V425 gf := (ME.up (ME.up (ME.up ME.rf hV411 (Or.inr (by omega))) hV429 (Or.inr (by omega))) hV425 (Or.inr (by omega)))
      have pq433 : (V425 68 gf).toInt = ((V 68 gf)).toInt := congrArg Int32.toInt ((up2_o hV425 (by decide)).trans ((up2_o hV429 (by decide)).trans (up2_o hV411 (by decide))))
      have pq434 : (V425 70 gf).toInt = ((V 70 gf)).toInt := congrArg Int32.toInt ((up2_o hV425 (by decide)).trans ((up2_o hV429 (by decide)).trans (up2_o hV411 (by decide))))
      have pq435 : (V425 71 gf).toInt = ((V 71 gf)).toInt := congrArg Int32.toInt ((up2_o hV425 (by decide)).trans ((up2_o hV429 (by decide)).trans (up2_o hV411 (by decide))))
      have pq436 : (V425 75 gf).toInt = ((V 75 gf)).toInt := congrArg Int32.toInt ((up2_o hV425 (by decide)).trans ((up2_o hV429 (by decide)).trans (up2_o hV411 (by decide))))
      have pq437 : (V425 76 gf).toInt = ((V 76 gf)).toInt := congrArg Int32.toInt ((up2_o hV425 (by decide)).trans ((up2_o hV429 (by decide)).trans (up2_o hV411 (by decide))))
      have pq438 : (V425 80 gf).toInt = ((V 80 gf)).toInt := congrArg Int32.toInt ((up2_o hV425 (by decide)).trans ((up2_o hV429 (by decide)).trans (up2_o hV411 (by decide))))
      have pq439 : (V425 84 gf).toInt = ((V 84 gf)).toInt := congrArg Int32.toInt ((up2_o hV425 (by decide)).trans ((up2_o hV429 (by decide)).trans (up2_o hV411 (by decide))))
      have pq440 : (V425 5 8).toInt = ((V 5 8)).toInt := congrArg Int32.toInt ((up2_k hV425 (by decide)).trans ((up2_k hV429 (by decide)).trans (up2_k hV411 (by decide))))
      have pq441 : (V425 5 9).toInt = 1 := (congrArg Int32.toInt ((up2_k hV425 (by decide)).trans (up2_s hV429))).trans (by decide)
      have pq442 : (V425 3 13).toInt = ((V 3 13)).toInt := congrArg Int32.toInt ((up2_o hV425 (by decide)).trans ((up2_o hV429 (by decide)).trans (up2_o hV411 (by decide))))
      have pq443 : (V425 43 (5 * b + 2)).toInt = ((V 43 (5 * b + 2))).toInt := congrArg Int32.toInt ((up2_o hV425 (by decide)).trans ((up2_o hV429 (by decide)).trans (up2_o hV411 (by decide))))
      have pq444 : (V425 42 b).toInt = ((V 42 b)).toInt := congrArg Int32.toInt ((up2_o hV425 (by decide)).trans ((up2_o hV429 (by decide)).trans (up2_o hV411 (by decide))))
      have pq445 : (V425 41 b).toInt = ((V 41 b)).toInt := congrArg Int32.toInt ((up2_o hV425 (by decide)).trans ((up2_o hV429 (by decide)).trans (up2_o hV411 (by decide))))
      have ep448 : V425 84 gf = (V 84 gf) := ((up2_o hV425 (by decide)).trans ((up2_o hV429 (by decide)).trans (up2_o hV411 (by decide))))
      have af447 : (V425 42 b).toInt ≤ (V425 84 gf).toInt ∨ (bdp V425 b (V425 84 gf).toInt.toNat).1 = true := by rw [ep448, me432.1.bd, me432.1 42 b (by decide) (by decide)]; exact ft
      have mo446 : MO V425 Z b gf True False True := MO.ch mo me432 ((up2_o hV425 (by decide)).trans ((up2_o hV429 (by decide)).trans (up2_o hV411 (by decide)))) ((up2_o hV425 (by decide)).trans ((up2_o hV429 (by decide)).trans (up2_o hV411 (by decide)))) (fun _ => Or.inl (by omega)) (fun x h => FK.k4 (by omega) (by omega) (by omega) af447 (by omega) (fun _ z => z.elim))
      refine gA_void (gA_runV (As := [.ref (Z.fa gf)]) (rest := []) (ci := 5) (q0 := 5) hx hb hml hown hg hP hD hK hS hA hnw hgk (x_endWork9 l D ks H.size ad kk V425 L Z (b) (gf) hMV425 (show b < 2 from by omega) (show gf < Z.nf from by omega) mo446 (show (gf : Int) + 1 = (V425 5 6).toInt from by omega) (show (V425 67 gf).toInt = 4 from by omega)) w1458 w1460 w70 w171 w1461 rfl xgMachine hdV_yX5_endWork ⟨Nat.le_of_ble_eq_true rfl, Nat.le_of_ble_eq_true rfl⟩ rfl hl.1 rfl (Nat.le_of_ble_eq_true rfl) dX5_worksAlone_99 ⟨z0, z0⟩) hP hD hK hS hA (fun u450 H locs w451 hP hD hK hS => ?_)
      obtain ⟨V454, L455⟩ := u450
      obtain ⟨hMV454, ajV454, axL455, t452, t453⟩ := w451
      have axL455 : L = L455 := Eq.symm axL455
      subst axL455
      replace hP : va_P D vwCl (xw ad kk V454 L Z) H := hP
      replace hD : va_D A (xw ad kk V454 L Z) := hD
      replace hMV454 : rgd bX V454 := hMV454
      replace ajV454 : agr [(5, 6), (5, 7)] [] V425 V454 := ajV454
      have agV454 : agr [(5, 6), (5, 7), (5, 9), (5, 10), (5, 13), (5, 14)] [39, 67, 68, 69, 70, 71, 72, 73, 74, 75, 76, 77, 78, 79, 80, 81, 82, 83, 84, 85] V V454 := agV425.tr ajV454 (by decide) (by decide)
      replace t452 : MJ V454 Z b := t452
      replace t453 : ((True) ∧ V454 = (up2 (up2 V425 5 7 (V425 85 gf)) 5 6 (V425 5 6 - 1))) := t453
      have hw456 := t453.2
      have qv457 : V425 85 gf = (V 85 gf) := ((up2_o hV425 (by decide)).trans ((up2_o hV429 (by decide)).trans (up2_o hV411 (by decide))))
      obtain ⟨V458, hV458⟩ : ∃ z, z = up2 V425 5 7 (V 85 gf) := ⟨_, rfl⟩
      obtain ⟨z459, ez459⟩ : ∃ y : Int32, y = V425 5 6 - 1 := ⟨_, rfl⟩
      have hz459 : z459.toInt = (V425 5 6).toInt - 1 := i_sub ez459 rfl (by decide) (by omega)
      have hV454 : V454 = up2 V458 5 6 z459 := by rw [hw456, hV458, qv457, ez459]
      refine lv_iconst (v := 0) hx hb dX5_worksAlone_102 (by decide) ?_
      have pq460 : (V454 5 6).toInt = z459.toInt := congrArg Int32.toInt (up2_s hV454)
      have pq461 : (V454 67 gf).toInt = ((V 67 gf)).toInt := congrArg Int32.toInt ((up2_o hV454 (by decide)).trans ((up2_o hV458 (by decide)).trans ((up2_o hV425 (by decide)).trans ((up2_o hV429 (by decide)).trans (up2_o hV411 (by decide))))))
      have pq462 : (V454 68 gf).toInt = ((V 68 gf)).toInt := congrArg Int32.toInt ((up2_o hV454 (by decide)).trans ((up2_o hV458 (by decide)).trans ((up2_o hV425 (by decide)).trans ((up2_o hV429 (by decide)).trans (up2_o hV411 (by decide))))))
      have o9 : opf gB.1 at9.toNat = 0 := ((enO_i ⟨opf gB.1 at9.toNat, op9⟩).1).mp (show enO (opf gB.1 at9.toNat) = 0 from c48.symm.trans (by omega))
      have pl9 : 1 ≤ p.length := (by have h8 := OQ.i0 oq9 o9; omega)
      obtain ⟨x9, p9, hpe⟩ : ∃ x9 p9, p = x9 :: p9 := by cases p with | nil => exact absurd pl9 (by decide) | cons x y => exact ⟨x, y, rfl⟩
      obtain ⟨t2, ht2, hx2, hp2⟩ : plC V tw9 (x9 :: p9) := by rw [← hpe]; exact hp8
      have lp9 : p.length = p9.length + 1 := by rw [hpe]; rfl
      have cz9 : Int32.toNatClampNeg (V 5 7 - 1) = t2 := by have h9 : (V 5 7 - 1).toInt = (V 5 7).toInt - 1 := i_sub rfl rfl (by decide) (by omega); have h8 := i_clamp (x := V 5 7 - 1) rfl (by omega); omega
      have zx9 : z407 = x9 := by rw [hc413.2, cz9, (Eq.refl (V 39 t2))]; exact hx2
      have p84 : psz (opf gB.1) (at9.toNat + 1) = psz (opf gB.1) at9.toNat + 1 := psz_1 (show opf gB.1 at9.toNat ≠ 2 ∧ ¬ (10 ≤ opf gB.1 at9.toNat ∧ opf gB.1 at9.toNat ≤ 14) from by omega)
      have me463 : ME V V454 gf := (ME.up (ME.up (ME.up (ME.up (ME.up ME.rf hV411 (Or.inr (by omega))) hV429 (Or.inr (by omega))) hV425 (Or.inr (by omega))) hV458 (Or.inr (by omega))) hV454 (Or.inr (by omega)))
      have rl464 : RWl V454 gB gr t0 := RWl.mv hlr (fun i9 hi9 c9 h1 h2 => me463.2.1 c9 i9 h1 h2 (by omega)) (fun j9 hj9 => ((up2_o hV454 (by decide)).trans ((up2_o hV458 (by decide)).trans ((up2_o hV425 (by decide)).trans ((up2_o hV429 (by decide)).trans (up2_o hV411 (by decide))))))) (by rw [((up2_o hV454 (by decide)).trans ((up2_o hV458 (by decide)).trans ((up2_o hV425 (by decide)).trans ((up2_o hV429 (by decide)).trans (up2_o hV411 (by decide))))))]; exact Int.le_refl _) ((up2_o hV454 (by decide)).trans ((up2_o hV458 (by decide)).trans ((up2_o hV425 (by decide)).trans ((up2_o hV429 (by decide)).trans (up2_o hV411 (by decide))))))
      have pq465 : (V454 5 9).toInt = 1 := (congrArg Int32.toInt ((up2_k hV454 (by decide)).trans ((up2_k hV458 (by decide)).trans ((up2_k hV425 (by decide)).trans (up2_s hV429))))).trans (by decide)
      have pq466 : (V454 5 11).toInt = ((V 5 11)).toInt := congrArg Int32.toInt ((up2_k hV454 (by decide)).trans ((up2_k hV458 (by decide)).trans ((up2_k hV425 (by decide)).trans ((up2_k hV429 (by decide)).trans (up2_k hV411 (by decide))))))
      have pq467 : (V454 5 12).toInt = ((V 5 12)).toInt := congrArg Int32.toInt ((up2_k hV454 (by decide)).trans ((up2_k hV458 (by decide)).trans ((up2_k hV425 (by decide)).trans ((up2_k hV429 (by decide)).trans (up2_k hV411 (by decide))))))
      have tp9 : (V454 5 7).toInt = ((t0 : Nat) : Int) := by rw [((up2_k hV454 (by decide)).trans (up2_s hV458))]; exact hb8
      have esu : ESw U0 V := ESw.sy (ESw.ag (show agr [] [84] V U0 from agr.up agr.rf hU0 rfl) (by decide))
      have rz9 : RW V454 gB (mU gm 0 6 1, x9, gr) := RW.sgn rwu (ESw.tr esu (ESw.ag (show agr [(5, 6), (5, 7), (5, 9), (5, 10)] [] V V454 from (agr.up (agr.up (agr.up (agr.up (agr.up agr.rf hV411 rfl) hV429 rfl) hV425 rfl) hV458 rfl) hV454 rfl)) (by decide))) (by omega) (fun _ => ((up2_k hV454 (by decide)).trans ((up2_k hV458 (by decide)).trans (up2_s hV425))).trans zx9) (fun h9 => absurd h9 (by decide)) (show (V454 5 6).toInt = ((gr.length : Nat) : Int) from by omega) tp9 rl464
      have rx468 : RW V454 gB (stM gB (gm, ga, gfr :: gr)) := by rw [hfe, st_12.trans (or_0 o9), hpe]; exact rz9
      refine W.know (fun kr1 kr2 => ?_)
      refine W.widen (k := zcc Z) (n := zss Z) (Nat.sub_le _ _) (Nat.sub_le _ _) ?_
      exact W.zret (v := 0) hx hb hr rfl (fun t ht hW => ⟨⟨0, (V454, L, Z), rfl, ⟨hMV454, agV454, rfl, zoZ, (by decide), (Imp.mk (fun hp => absurd hp (by decide))), (Imp.mk (fun _ => t452)), (Imp.mk (fun hp => absurd hp (by decide))), (Imp.mk (fun hp => absurd hp (by decide))), (Or.inr ⟨rfl, rx468⟩)⟩, ⟨by rw [ht]; exact hP, va_K.moved hW.alike hK, hD⟩, by rw [ht]; exact kr1, by rw [ht]; exact kr2⟩, hS.F ht⟩) hS.2.2 dX5_worksAlone_103
    · skip
      have ajV411 : agr [] [] V V411 := by rw [hw416]; exact agr.rf
      refine gA_void (gA_runV (As := [.int z407]) (rest := []) (ci := 5) (q0 := 5) hx hb hml hown hg hP hD hK hS hA hnw hgk (x_answerWith9 l D ks H.size ad kk V411 L Z z407 hMV411 ) w1304 w1306 w49 w171 w1307 rfl xgMachine hdV_yX5_answerWith ⟨Nat.le_of_ble_eq_true rfl, Nat.le_of_ble_eq_true rfl⟩ rfl hl.1 rfl (Nat.le_of_ble_eq_true rfl) dX5_worksAlone_94 ⟨z0, z0⟩) hP hD hK hS hA (fun u470 H locs w471 hP hD hK hS => ?_)
      obtain ⟨V475, L476⟩ := u470
      obtain ⟨hMV475, ajV475, axL476, t472, t473, t474⟩ := w471
      have axL476 : L = L476 := Eq.symm axL476
      subst axL476
      replace hP : va_P D vwCl (xw ad kk V475 L Z) H := hP
      replace hD : va_D A (xw ad kk V475 L Z) := hD
      replace hMV475 : rgd bX V475 := hMV475
      replace ajV475 : agr [(5, 9), (5, 10)] [] V411 V475 := ajV475
      have agV475 : agr [(5, 6), (5, 7), (5, 9), (5, 10), (5, 13), (5, 14)] [39, 67, 68, 69, 70, 71, 72, 73, 74, 75, 76, 77, 78, 79, 80, 81, 82, 83, 84, 85] V V475 := agV411.tr ajV475 (by decide) (by decide)
      replace t472 : (V475 5 9).toInt = 1 := t472
      replace t473 : (V475 5 10).toInt = z407.toInt := t473
      replace t474 : ((True) ∧ V475 = (up2 (up2 V411 5 9 1) 5 10 z407)) := t474
      have r477 : 0 ≤ ((V475 5 9)).toInt ∧ ((V475 5 9)).toInt ≤ 3 := hMV475 5 9
      have hw478 := t474.2
      obtain ⟨V479, hV479⟩ : ∃ z, z = up2 V411 5 9 1 := ⟨_, rfl⟩
      have hV475 : V475 = up2 V479 5 10 z407 := by rw [hw478, hV479]
      refine lv_aload_n hx hb dX5_worksAlone_97 rfl (lv_at hl 0 rfl) ?_
      refine lv_aload_n hx hb dX5_worksAlone_98 rfl (lv_at hl 1 rfl) ?_
      have pq480 : (V475 5 6).toInt = ((V 5 6)).toInt := congrArg Int32.toInt ((up2_k hV475 (by decide)).trans ((up2_k hV479 (by decide)).trans (ajV411 5 6 rfl)))
      have pq481 : (V475 67 gf).toInt = ((V 67 gf)).toInt := congrArg Int32.toInt ((up2_o hV475 (by decide)).trans ((up2_o hV479 (by decide)).trans (ajV411 67 gf rfl)))
      have me482 : ME V V475 gf := (ME.up (ME.up (ME.tr ME.rf (ME.ag ajV411 (by decide))) hV479 (Or.inr (by omega))) hV475 (Or.inr (by omega)))
      have pq483 : (V475 68 gf).toInt = ((V 68 gf)).toInt := congrArg Int32.toInt ((up2_o hV475 (by decide)).trans ((up2_o hV479 (by decide)).trans (ajV411 68 gf rfl)))
      have pq484 : (V475 70 gf).toInt = ((V 70 gf)).toInt := congrArg Int32.toInt ((up2_o hV475 (by decide)).trans ((up2_o hV479 (by decide)).trans (ajV411 70 gf rfl)))
      have pq485 : (V475 71 gf).toInt = ((V 71 gf)).toInt := congrArg Int32.toInt ((up2_o hV475 (by decide)).trans ((up2_o hV479 (by decide)).trans (ajV411 71 gf rfl)))
      have pq486 : (V475 75 gf).toInt = ((V 75 gf)).toInt := congrArg Int32.toInt ((up2_o hV475 (by decide)).trans ((up2_o hV479 (by decide)).trans (ajV411 75 gf rfl)))
      have pq487 : (V475 76 gf).toInt = ((V 76 gf)).toInt := congrArg Int32.toInt ((up2_o hV475 (by decide)).trans ((up2_o hV479 (by decide)).trans (ajV411 76 gf rfl)))
      have pq488 : (V475 80 gf).toInt = ((V 80 gf)).toInt := congrArg Int32.toInt ((up2_o hV475 (by decide)).trans ((up2_o hV479 (by decide)).trans (ajV411 80 gf rfl)))
      have pq489 : (V475 84 gf).toInt = ((V 84 gf)).toInt := congrArg Int32.toInt ((up2_o hV475 (by decide)).trans ((up2_o hV479 (by decide)).trans (ajV411 84 gf rfl)))
      have pq490 : (V475 5 8).toInt = ((V 5 8)).toInt := congrArg Int32.toInt ((up2_k hV475 (by decide)).trans ((up2_k hV479 (by decide)).trans (ajV411 5 8 rfl)))
      have pq491 : (V475 5 9).toInt = 1 := (congrArg Int32.toInt ((up2_k hV475 (by decide)).trans (up2_s hV479))).trans (by decide)
      have pq492 : (V475 3 13).toInt = ((V 3 13)).toInt := congrArg Int32.toInt ((up2_o hV475 (by decide)).trans ((up2_o hV479 (by decide)).trans (ajV411 3 13 rfl)))
      have pq493 : (V475 43 (5 * b + 2)).toInt = ((V 43 (5 * b + 2))).toInt := congrArg Int32.toInt ((up2_o hV475 (by decide)).trans ((up2_o hV479 (by decide)).trans (ajV411 43 (5 * b + 2) rfl)))
      have pq494 : (V475 42 b).toInt = ((V 42 b)).toInt := congrArg Int32.toInt ((up2_o hV475 (by decide)).trans ((up2_o hV479 (by decide)).trans (ajV411 42 b rfl)))
      have pq495 : (V475 41 b).toInt = ((V 41 b)).toInt := congrArg Int32.toInt ((up2_o hV475 (by decide)).trans ((up2_o hV479 (by decide)).trans (ajV411 41 b rfl)))
      have ep498 : V475 84 gf = (V 84 gf) := ((up2_o hV475 (by decide)).trans ((up2_o hV479 (by decide)).trans (ajV411 84 gf rfl)))
      have af497 : (V475 42 b).toInt ≤ (V475 84 gf).toInt ∨ (bdp V475 b (V475 84 gf).toInt.toNat).1 = true := by rw [ep498, me482.1.bd, me482.1 42 b (by decide) (by decide)]; exact ft
      have mo496 : MO V475 Z b gf True False True := MO.ch mo me482 ((up2_o hV475 (by decide)).trans ((up2_o hV479 (by decide)).trans (ajV411 67 gf rfl))) ((up2_o hV475 (by decide)).trans ((up2_o hV479 (by decide)).trans (ajV411 80 gf rfl))) (fun _ => Or.inl (by omega)) (fun x h => FK.k4 (by omega) (by omega) (by omega) af497 (by omega) (fun _ z => z.elim))
      refine gA_void (gA_runV (As := [.ref (Z.fa gf)]) (rest := []) (ci := 5) (q0 := 5) hx hb hml hown hg hP hD hK hS hA hnw hgk (x_endWork9 l D ks H.size ad kk V475 L Z (b) (gf) hMV475 (show b < 2 from by omega) (show gf < Z.nf from by omega) mo496 (show (gf : Int) + 1 = (V475 5 6).toInt from by omega) (show (V475 67 gf).toInt = 4 from by omega)) w1458 w1460 w70 w171 w1461 rfl xgMachine hdV_yX5_endWork ⟨Nat.le_of_ble_eq_true rfl, Nat.le_of_ble_eq_true rfl⟩ rfl hl.1 rfl (Nat.le_of_ble_eq_true rfl) dX5_worksAlone_99 ⟨z0, z0⟩) hP hD hK hS hA (fun u500 H locs w501 hP hD hK hS => ?_)
      obtain ⟨V504, L505⟩ := u500
      obtain ⟨hMV504, ajV504, axL505, t502, t503⟩ := w501
      have axL505 : L = L505 := Eq.symm axL505
      subst axL505
      replace hP : va_P D vwCl (xw ad kk V504 L Z) H := hP
      replace hD : va_D A (xw ad kk V504 L Z) := hD
      replace hMV504 : rgd bX V504 := hMV504
      replace ajV504 : agr [(5, 6), (5, 7)] [] V475 V504 := ajV504
      have agV504 : agr [(5, 6), (5, 7), (5, 9), (5, 10), (5, 13), (5, 14)] [39, 67, 68, 69, 70, 71, 72, 73, 74, 75, 76, 77, 78, 79, 80, 81, 82, 83, 84, 85] V V504 := agV475.tr ajV504 (by decide) (by decide)
      replace t502 : MJ V504 Z b := t502
      replace t503 : ((True) ∧ V504 = (up2 (up2 V475 5 7 (V475 85 gf)) 5 6 (V475 5 6 - 1))) := t503
      have hw506 := t503.2
      have qv507 : V475 85 gf = (V 85 gf) := ((up2_o hV475 (by decide)).trans ((up2_o hV479 (by decide)).trans (ajV411 85 gf rfl)))
      obtain ⟨V508, hV508⟩ : ∃ z, z = up2 V475 5 7 (V 85 gf) := ⟨_, rfl⟩
      obtain ⟨z509, ez509⟩ : ∃ y : Int32, y = V475 5 6 - 1 := ⟨_, rfl⟩
      have hz509 : z509.toInt = (V475 5 6).toInt - 1 := i_sub ez509 rfl (by decide) (by omega)
      have hV504 : V504 = up2 V508 5 6 z509 := by rw [hw506, hV508, qv507, ez509]
      refine lv_iconst (v := 0) hx hb dX5_worksAlone_102 (by decide) ?_
      have pq510 : (V504 5 6).toInt = z509.toInt := congrArg Int32.toInt (up2_s hV504)
      have pq511 : (V504 67 gf).toInt = ((V 67 gf)).toInt := congrArg Int32.toInt ((up2_o hV504 (by decide)).trans ((up2_o hV508 (by decide)).trans ((up2_o hV475 (by decide)).trans ((up2_o hV479 (by decide)).trans (ajV411 67 gf rfl)))))
      have pq512 : (V504 68 gf).toInt = ((V 68 gf)).toInt := congrArg Int32.toInt ((up2_o hV504 (by decide)).trans ((up2_o hV508 (by decide)).trans ((up2_o hV475 (by decide)).trans ((up2_o hV479 (by decide)).trans (ajV411 68 gf rfl)))))
      have r513 : 0 ≤ ((V 5 7)).toInt ∧ ((V 5 7)).toInt ≤ 2048 := hMV 5 7
      have o9 : opf gB.1 at9.toNat = 0 := ((enO_i ⟨opf gB.1 at9.toNat, op9⟩).1).mp (show enO (opf gB.1 at9.toNat) = 0 from c48.symm.trans (by omega))
      have pl9 : 1 ≤ p.length := by have h8 := OQ.i0 oq9 o9; omega
      refine W.know (fun kr1 kr2 => ?_)
      refine W.widen (k := zcc Z) (n := zss Z) (Nat.sub_le _ _) (Nat.sub_le _ _) ?_
      exact W.zret (v := 0) hx hb hr rfl (fun t ht hW => ⟨⟨0, (V504, L, Z), rfl, ⟨hMV504, agV504, rfl, zoZ, (by decide), (Imp.mk (fun hp => absurd hp (by decide))), (Imp.mk (fun _ => t502)), (Imp.mk (fun hp => absurd hp (by decide))), (Imp.mk (fun hp => absurd hp (by decide))), (by exfalso; omega)⟩, ⟨by rw [ht]; exact hP, va_K.moved hW.alike hK, hD⟩, by rw [ht]; exact kr1, by rw [ht]; exact kr2⟩, hS.F ht⟩) hS.2.2 dX5_worksAlone_103
  · skip
    have hf : FRc U0 gB gf (Fwait lv o c sc me ps at9 v p) := by rw [← hfe]; exact hf0
    have h9 := hf.1.2
    exfalso; omega
  · skip
    have hf : FRc U0 gB gf (Fask lv o c sc at9 nd tg v g p) := by rw [← hfe]; exact hf0
    have h9 := hf.1.2
    exfalso; omega
  · skip
    have hf : FRc U0 gB gf (Fget lv o c sc at9 nd tg v g p) := by rw [← hfe]; exact hf0
    have h9 := hf.1.2
    exfalso; omega
  · skip
    have hf : FRc U0 gB gf (Fsum lv o c sc at9 nd tg it v g u p) := by rw [← hfe]; exact hf0
    have h9 := hf.1.2
    exfalso; omega
abbrev r_x_worksWith9 : Room := { frames := 2, cells := 0, slots := 0, locals := 41 }
abbrev q_x_worksWith9 (D : va_G) (ks : KS) (ad : Nat → Nat) (kk : Nat → ClassId) (V : Vf) (L : Lf) (Z : XZ) (p1 : Int32) (b : Nat) (gf : Nat) (gB : Bk) (gm : Mm) (ga : Int32) (gfr : Fr) (gr : List Fr) (gA : Int32) (A : Nat → Prop) : Array Value → State → Outcome → State → Prop := va_Qi (fun (r : Int32) (u : Vf × Lf) => rgd bX u.1 ∧ agr [(5, 6), (5, 7), (5, 9), (5, 11), (5, 12)] [39, 68, 75, 77, 78, 84] V u.1 ∧ u.2 = L ∧ (0 ≤ r.toInt ∧ r.toInt ≤ 1) ∧ (Imp (r.toInt = 1) (MO u.1 Z b gf True True True)) ∧ (Imp (r.toInt = 0) (MJ u.1 Z b)) ∧ (Imp (r.toInt = 1) ((u.1 5 6).toInt = (V 5 6).toInt ∧ (u.1 67 gf).toInt = 4 ∧ (u.1 68 gf).toInt = 0)) ∧ ((r.toInt = 1 ∧ ∃ mz8 fz8, stM gB (gm, ga, gfr :: gr) = (mz8, ga, fz8 :: gr) ∧ RW u.1 gB (mz8, ga, fz8 :: gr)) ∨ (r.toInt = 0 ∧ RW u.1 gB (stM gB (gm, ga, gfr :: gr))))) (fun u t => gq D A (xw ad kk u.1 u.2 Z) (xty kk Z) t) A
set_option maxHeartbeats 4000000 in
set_option maxRecDepth 100000 in
theorem x_worksWith9 (l : Launch) (D : va_G) (ks : KS) (sz : Nat) (ad : Nat → Nat) (kk : Nat → ClassId) (V : Vf) (L : Lf) (Z : XZ) (p1 : Int32) (b : Nat) (gf : Nat) (gB : Bk) (gm : Mm) (ga : Int32) (gfr : Fr) (gr : List Fr) (gA : Int32) (hMV : rgd bX V) (rg_p1 : 10 ≤ p1.toInt ∧ p1.toInt ≤ 15) (hb2 : b < 2) (hgf : gf < Z.nf) (moa : MOa V Z b gf) (gd : (gf : Int) + 1 = (V 5 6).toInt) (gk : (V 67 gf).toInt = 4) (gph : (V 68 gf).toInt = 0) (hal : (V 84 gf).toInt ≤ 8200) (hop : ∀ a : Nat, (a : Int) = (V 84 gf).toInt → (a : Int) < (V 42 b).toInt → okO V b p1.toInt (V 48 (8200 * b + a)).toInt ∧ (bdp V b (a + 1)).1 = true) (rwq : RW (up2 V 84 gf gA) gB (gm, ga, gfr :: gr)) (bc : BKc V b gB) (sf : SF gB (gm, ga, gfr :: gr)) (n84 : (V 84 gf).toInt = gA.toInt + 1) (ga0 : 0 ≤ gA.toInt) (op8 : p1.toInt = (V 48 (8200 * b + gA.toInt.toNat)).toInt)  : Met l yX5_worksWith (Cond.code yX5_worksWith cX5_worksWith 4 (some .boolean) :: GW) r_x_worksWith9 (va_Pc [.ref (ad 5), .ref (Z.fa gf), .int p1] (gp D ks (xw ad kk V L Z) (xty kk Z) sz)) (q_x_worksWith9 D ks ad kk V L Z p1 b gf gB gm ga gfr gr gA (va_A (xw ad kk V L Z) sz)) 0 0 (va_A (xw ad kk V L Z) sz) := by
  refine g_met (q_x_worksWith9 D ks ad kk V L Z p1 b gf gB gm ga gfr gr gA) (by decide) (Nat.le_of_ble_eq_true rfl) ?_
  intro p e s m below meth c A ls H locs hx hb hr hml hown hg hlocks hin hnw hgk hP hK hD hS hA hl
  replace hown : s.vm.findClass RX5 = some m.cls := hown
  replace hl : lv_has ls 4 [(0, .ref (ad 5)), (1, .ref (Z.fa gf)), (2, .int p1)] := hl
  replace hP : va_P D vwCl (xw ad kk V L Z) H := hP
  replace hD : va_D A (xw ad kk V L Z) := hD
  replace hK : va_K D vwCl (xty kk Z) s := hK
  have agV : agr [(5, 6), (5, 7), (5, 9), (5, 11), (5, 12)] [39, 68, 75, 77, 78, 84] V V := agr.rf
  have r1 : 0 ≤ ((V 5 6)).toInt ∧ ((V 5 6)).toInt ≤ 400 := hMV 5 6
  have r2 : 0 ≤ ((V 84 gf)).toInt ∧ ((V 84 gf)).toInt ≤ 2147483647 := hMV 84 gf
  have kdp := i_clamp (x := V 5 6) rfl (by omega)
  have hdn : (gf : Int) + 1 ≤ (Z.nf : Int) := by omega
  obtain ⟨Va, hVa⟩ : ∃ z, z = up2 V 84 gf 2147483647 := ⟨_, rfl⟩
  have mo : MO Va Z b gf True True True := by rw [hVa]; exact moa
  have hVV : V = up2 Va 84 gf (V 84 gf) := by rw [hVa]; exact up2_back.symm
  have mV : ME Va V gf := ME.up ME.rf hVV (Or.inl ⟨by decide, by decide, Nat.le_refl _⟩)
  have ea67 : Va 67 gf = V 67 gf := by rw [hVa]; exact up2_pl (by omega)
  have eb67 := congrArg Int32.toInt ea67
  have ea68 : Va 68 gf = V 68 gf := by rw [hVa]; exact up2_pl (by omega)
  have eb68 := congrArg Int32.toInt ea68
  have ea70 : Va 70 gf = V 70 gf := by rw [hVa]; exact up2_pl (by omega)
  have eb70 := congrArg Int32.toInt ea70
  have ea71 : Va 71 gf = V 71 gf := by rw [hVa]; exact up2_pl (by omega)
  have eb71 := congrArg Int32.toInt ea71
  have ea75 : Va 75 gf = V 75 gf := by rw [hVa]; exact up2_pl (by omega)
  have eb75 := congrArg Int32.toInt ea75
  have ea76 : Va 76 gf = V 76 gf := by rw [hVa]; exact up2_pl (by omega)
  have eb76 := congrArg Int32.toInt ea76
  have ea80 : Va 80 gf = V 80 gf := by rw [hVa]; exact up2_pl (by omega)
  have eb80 := congrArg Int32.toInt ea80
  have ea43 : Va 43 (5 * b + 2) = V 43 (5 * b + 2) := by rw [hVa]; exact up2_pl (by omega)
  have eb43 := congrArg Int32.toInt ea43
  have ea42 : Va 42 b = V 42 b := by rw [hVa]; exact up2_pl (by omega)
  have eb42 := congrArg Int32.toInt ea42
  have ea41 : Va 41 b = V 41 b := by rw [hVa]; exact up2_pl (by omega)
  have eb41 := congrArg Int32.toInt ea41
  have ea3 : Va 3 13 = V 3 13 := by rw [hVa]; exact up2_pl (by omega)
  have eb3 := congrArg Int32.toInt ea3
  have ea5 : Va 5 8 = V 5 8 := by rw [hVa]; exact up2_pl (by omega)
  have eb5 := congrArg Int32.toInt ea5
  have mup := MO.upm mo mV
  have msz := mup.1
  have mbk := mup.2.2.2.1
  obtain ⟨xk, fk⟩ := MO.fk mo
  have r3 : (-1) ≤ ((V 71 gf)).toInt ∧ ((V 71 gf)).toInt ≤ 23 := hMV 71 gf
  have r4 : 0 ≤ ((V 75 gf)).toInt ∧ ((V 75 gf)).toInt ≤ 12 := hMV 75 gf
  have r5 : 0 ≤ ((V 80 gf)).toInt ∧ ((V 80 gf)).toInt ≤ 300 := hMV 80 gf
  have r6 : 0 ≤ ((V 5 8)).toInt ∧ ((V 5 8)).toInt ≤ 300 := hMV 5 8
  have r7 : 0 ≤ ((V 5 9)).toInt ∧ ((V 5 9)).toInt ≤ 3 := hMV 5 9
  have r8 : 0 ≤ ((V 3 13)).toInt ∧ ((V 3 13)).toInt ≤ 300 := hMV 3 13
  have r9 : 0 ≤ ((V 43 (5 * b + 2))).toInt ∧ ((V 43 (5 * b + 2))).toInt ≤ ((xcap (5 * b + 2) : Nat) : Int) := hMV 43 (5 * b + 2)
  have r10 : xcap (5 * b + 2) = 24 := xcap_2
  have r11 : 0 ≤ ((V 41 b)).toInt ∧ ((V 41 b)).toInt ≤ 12 := hMV 41 b
  have r12 : 0 ≤ ((V 42 b)).toInt ∧ ((V 42 b)).toInt ≤ 8200 := hMV 42 b
  have fc := fk.1 (by omega)
  have fo := fk.2.1 (by omega) (by omega)
  have m1 : Int32.toInt (-1) = -1 := by decide
  have gl8 : (V 5 6).toInt = ((gr.length + 1 : Nat) : Int) := by have h9 : (up2 V 84 gf gA 5 6).toInt = ((gr.length + 1 : Nat) : Int) := rwq.2.2.1; rw [up2_o rfl (by decide)] at h9; exact h9
  have gl9 : gr.length = gf := by omega
  have sl9 : gr.length ≤ 394 := by have h9 : gr.length + 1 ≤ 395 := sf.1; omega
  obtain ⟨U0, hU0⟩ : ∃ z, z = up2 V 84 gf gA := ⟨_, rfl⟩
  have rwu : RW U0 gB (gm, ga, gfr :: gr) := by rw [hU0]; exact rwq
  obtain ⟨⟨ow, rn⟩, rh, rd, tw9, t0, rt9, tl9, hf0, hbs9, hpl9, hlr⟩ := RW.at rwu (by rw [gl9]; exact hU0)
  rw [gl9] at hf0 hbs9
  have rh1 : (V 5 9).toInt = gm 0 6 := rh.1
  have ra2 : (V 3 13).toInt = gm 0 2 := rn.1.1.2.2.1
  have u67 : (U0 67 gf).toInt = 4 := by rw [up2_o hU0 (by decide)]; exact gk
  have u68 : (U0 68 gf).toInt = 0 := by rw [up2_o hU0 (by decide)]; exact gph
  rcases FRc.k4 hf0 u67 with ⟨lv, o, c, sc, me, ps, at9, v, p, hfe⟩ | ⟨lv, o, c, sc, me, ps, at9, v, p, hfe⟩ | ⟨lv, o, c, sc, at9, nd, tg, v, g, p, hfe⟩ | ⟨lv, o, c, sc, at9, nd, tg, v, g, p, hfe⟩ | ⟨lv, o, c, sc, at9, nd, tg, it, v, g, u, p, hfe⟩
  · skip
    have hf : FRc U0 gB gf (Fwork lv o c sc me ps at9 v p) := by rw [← hfe]; exact hf0
    obtain ⟨⟨k67, k68⟩, hoc, hps9, ⟨a0, q84⟩, q74⟩ := hf
    unfold ocs at hoc
    have u69 : U0 69 gf = V 69 gf := up2_o hU0 (by decide)
    have u70 : U0 70 gf = V 70 gf := up2_o hU0 (by decide)
    have u71 : U0 71 gf = V 71 gf := up2_o hU0 (by decide)
    have u72 : U0 72 gf = V 72 gf := up2_o hU0 (by decide)
    have u73 : U0 73 gf = V 73 gf := up2_o hU0 (by decide)
    have u74 : U0 74 gf = V 74 gf := up2_o hU0 (by decide)
    have u75 : U0 75 gf = V 75 gf := up2_o hU0 (by decide)
    have u312 : U0 3 12 = V 3 12 := up2_o hU0 (by decide)
    have u313 : U0 3 13 = V 3 13 := up2_o hU0 (by decide)
    rw [u69, u70, u71, u72, u312, u313] at hoc
    rw [u73, u75] at hps9
    rw [u74] at q74
    rw [up2_s hU0] at q84
    obtain ⟨q69, ⟨q70, o0, o1⟩, ⟨q71, c0, c1⟩, ⟨q72, s0, s1⟩⟩ := hoc
    have cn9 : c.toNat < nC gB := by omega
    have kc9 : Int32.toNatClampNeg (V 71 gf) = c.toNat := by have h9 := i_clamp (x := V 71 gf) rfl (by omega); omega
    have tl7 : tw9 = t0 + p.length := by have h9 := tl9; rw [hfe] at h9; exact h9
    have hb8 : (V 85 gf).toInt = (t0 : Int) := hbs9 (by rw [hfe]; exact (by decide : (12 : Nat) ≤ 12)) (by rw [hfe]; exact (by decide : (12 : Nat) ≤ 16))
    have hp8 : plC V tw9 p := by have h9 := hpl9; rw [hfe] at h9; exact h9
    have sft : SFt gB gm ga (Fwork lv o c sc me ps at9 v p) := by rw [← hfe]; exact sf.2.2.2.2 gfr gr rfl
    obtain ⟨q9, oq9⟩ := sft
    have hi9 := OQ.lt oq9
    have op9 := OQ.op oq9
    have cd9 := bc.1.2 at9.toNat hi9
    have pz9 : gA.toInt.toNat = psz (opf gB.1) at9.toNat := by omega
    have c48 : p1.toInt = enO (opf gB.1 at9.toNat) := by rw [op8, pz9]; exact cd9.1
    have en0 : 0 ≤ enO (opf gB.1 at9.toNat) := enO_0 ⟨opf gB.1 at9.toNat, op9⟩
    have tt9 : t0 = totP gr := RWl.tot hlr
    have tt8 : p.length + totP gr ≤ 2000 := by have h9 : totP (gfr :: gr) ≤ 2000 := sf.2.1; rw [hfe] at h9; exact h9
    refine lv_aload_n hx hb dX5_worksWith_0 rfl (lv_at hl 1 rfl) ?_
    refine va_getN (D := D) (ci := 4) (v := .int (V 84 gf)) (fs := (xfFrame V gf)) (C := RX4) (T := TX4) (N := 19) hx hb hg inX4 hown hK hP (336 + gf) (xgFrame hgf) rfl 17 (by decide) (hnw.use 1206 n1206 rfl) (fun _ h9 => h9) rfl dX5_worksWith_1 ?_
    refine lv_aload_n hx hb dX5_worksWith_4 rfl (lv_at hl 0 rfl) ?_
    refine va_get (D := D) (ci := 5) (v := .ref (ad (38 + Int32.toNatClampNeg (V 5 5)))) (fs := (xfMachine ad V L Z)) (C := RX5) (T := TX5) (N := 15) hx hb hg inX5 hown hK hP 5 xgMachine rfl 5 (by decide) (hg _ w672) (fun _ h9 => h9) rfl dX5_worksWith_5 ?_
    have r13 : 0 ≤ ((V 5 5)).toInt ∧ ((V 5 5)).toInt ≤ 1 := hMV 5 5
    refine g_topv (v := .ref (ad (38 + b))) (rfP (by first | omega | ((try (have i_op8 := Imp.go op8 (by omega))); (try (have i_sf := Imp.go sf (by omega))); (try (have i_bc := Imp.go bc (by omega))); (try (have i_rwq := Imp.go rwq (by omega))); (try (have i_hop := Imp.go hop (by omega))); (try (have i_moa := Imp.go moa (by omega))); (try (have i_moa := Imp.go moa (by omega))); (try (have i_hop := Imp.go hop (by omega))); (try (have i_rwq := Imp.go rwq (by omega))); (try (have i_bc := Imp.go bc (by omega))); (try (have i_sf := Imp.go sf (by omega))); (try (have i_op8 := Imp.go op8 (by omega))); omega))) ?_
    refine va_getN (D := D) (ci := 0) (v := .int (V 42 b)) (fs := (xfBook ad V b)) (C := RX0) (T := TX0) (N := 13) hx hb hg inX0 hown hK hP (38 + b) (xgBook hb2) rfl 12 (by decide) (hnw.use 631 n631 rfl) (fun _ h9 => h9) rfl dX5_worksWith_8 ?_
    refine lv_icmp_ge (tgt := 29) hx hb dX5_worksWith_11 (by decide) (fun c14 => ?_) (fun c14 => ?_)
    · skip
      have f15 : ((V 42 b)).toInt ≤ ((V 84 gf)).toInt := b_le rfl rfl c14
      refine lv_iconst (v := 0) hx hb dX5_worksWith_29 (by decide) ?_
      refine lv_istore_n (lv' := [(3, .int 0), (0, .ref (ad 5)), (1, .ref (Z.fa gf)), (2, .int p1)]) hx hb dX5_worksWith_30 rfl hl (by decide) rfl (fun ls hl => ?_)
      refine lv_aload_n hx hb dX5_worksWith_31 rfl (lv_at hl 2 rfl) ?_
      refine lv_dup hx hb dX5_worksWith_32 rfl ?_
      refine va_getN (D := D) (ci := 4) (v := .int (V 84 gf)) (fs := (xfFrame V gf)) (C := RX4) (T := TX4) (N := 19) hx hb hg inX4 hown hK hP (336 + gf) (xgFrame hgf) rfl 17 (by decide) (hnw.use 1206 n1206 rfl) (fun _ h9 => h9) rfl dX5_worksWith_33 ?_
      refine lv_iconst (v := 1) hx hb dX5_worksWith_36 (by decide) ?_
      refine lv_iadd hx hb dX5_worksWith_37 ?_
      have r16 := i_full (V 84 gf)
      refine lv_topi (fun z17 ez17 => ?_)
      have hz17 : Imp (-2147483648 ≤ ((V 84 gf)).toInt + 1 ∧ ((V 84 gf)).toInt + 1 ≤ 2147483647) (z17.toInt = ((V 84 gf)).toInt + 1) := Imp.mk (fun hp => i_add ez17 rfl (by decide) hp)
      refine va_putN (D := D) (ci := 4) (v := .int z17) (ty := tyX4 17) (fs := (xfFrame V gf)) (C := RX4) (T := TX4) (N := 19) hx hb hg inX4 tyX4 tyX4_ok nmX4 hown hK hP hD hS (336 + gf) (xgFrame hgf) rfl 17 (by decide) (hnw.use 1206 n1206 rfl) (fun _ h9 => h9) rfl (tyX4_ok 17 (by decide)) rfl rfl (Nat.le_of_ble_eq_true rfl) dX5_worksWith_38 (fun H locs hP hD hS => ?_)
      obtain ⟨V18, hV18⟩ : ∃ z, z = up2 V 84 gf z17 := ⟨_, rfl⟩
      have ew19 : (xw ad kk V L Z).set (336 + gf) ((Z.fa gf), .inr (4, (xfFrame V gf).set 17 (.int z17))) = xw ad kk V18 L Z := by rw [hV18]; exact xpFrame_at hgf
      have hP : va_P D vwCl (xw ad kk V18 L Z) H := by rw [← ew19]; exact hP
      have hD : va_D A (xw ad kk V18 L Z) := by rw [← ew19]; exact hD
      have hMV18 : rgd bX V18 := hMV.put hV18 (show 0 ≤ z17.toInt ∧ z17.toInt ≤ 2147483647 from by first | omega | ((try (have i_hz17 := Imp.go hz17 (by omega))); (try (have i_op8 := Imp.go op8 (by omega))); (try (have i_sf := Imp.go sf (by omega))); (try (have i_bc := Imp.go bc (by omega))); (try (have i_rwq := Imp.go rwq (by omega))); (try (have i_hop := Imp.go hop (by omega))); (try (have i_moa := Imp.go moa (by omega))); (try (have i_moa := Imp.go moa (by omega))); (try (have i_hop := Imp.go hop (by omega))); (try (have i_rwq := Imp.go rwq (by omega))); (try (have i_bc := Imp.go bc (by omega))); (try (have i_sf := Imp.go sf (by omega))); (try (have i_op8 := Imp.go op8 (by omega))); (try (have i_hz17 := Imp.go hz17 (by omega))); omega))
      have agV18 : agr [(5, 6), (5, 7), (5, 9), (5, 11), (5, 12)] [39, 68, 75, 77, 78, 84] V V18 := agV.up hV18 rfl
      have atn : (V 42 b).toInt ≤ z17.toInt ∨ (bdp V b z17.toInt.toNat).1 = true := Or.inl (by first | omega | ((try (have i_hz17 := Imp.go hz17 (by omega))); (try (have i_op8 := Imp.go op8 (by omega))); (try (have i_sf := Imp.go sf (by omega))); (try (have i_bc := Imp.go bc (by omega))); (try (have i_rwq := Imp.go rwq (by omega))); (try (have i_hop := Imp.go hop (by omega))); (try (have i_moa := Imp.go moa (by omega))); (try (have i_moa := Imp.go moa (by omega))); (try (have i_hop := Imp.go hop (by omega))); (try (have i_rwq := Imp.go rwq (by omega))); (try (have i_bc := Imp.go bc (by omega))); (try (have i_sf := Imp.go sf (by omega))); (try (have i_op8 := Imp.go op8 (by omega))); (try (have i_hz17 := Imp.go hz17 (by omega))); omega))
      have at0 : (V 42 b).toInt ≤ Int32.toInt 0 ∨ (bdp V b (Int32.toInt 0).toNat).1 = true := Or.inr rfl
      refine lv_iload_n hx hb dX5_worksWith_41 rfl (lv_at hl 3 rfl) ?_
      by_cases q20 : p1 = 10
      · refine g_top (v := 10) q20 ?_
        have fq20 : p1.toInt = 10 := b_eq rfl (by decide) q20
        refine lv_tableIn (x := 10) (off := 34) (tgt := 76) hx hb dX5_worksWith_42 (by decide) (by decide) (by decide) (by decide) ?_
        refine lv_aload_n hx hb dX5_worksWith_76 rfl (lv_at hl 1 rfl) ?_
        refine lv_iload_n hx hb dX5_worksWith_77 rfl (lv_at hl 0 rfl) ?_
        have r21 : Int32.toInt 0 = 0 := by decide
        refine gA_void (gA_runV (As := [.int 0]) (rest := []) (ci := 5) (q0 := 5) hx hb hml hown hg hP hD hK hS hA hnw hgk (x_put9 l D ks H.size ad kk V18 L Z 0 hMV18 ) w1466 w1468 w72 w171 w1469 rfl xgMachine hdV_yX5_put ⟨Nat.le_of_ble_eq_true rfl, Nat.le_of_ble_eq_true rfl⟩ rfl hl.1 rfl (Nat.le_of_ble_eq_true rfl) dX5_worksWith_78 ⟨Nat.le_of_ble_eq_true rfl, Nat.le_of_ble_eq_true rfl⟩) hP hD hK hS hA (fun u23 H locs w24 hP hD hK hS => ?_)
        obtain ⟨V26, L27⟩ := u23
        obtain ⟨hMV26, ajV26, axL27, t25⟩ := w24
        have axL27 : L = L27 := Eq.symm axL27
        subst axL27
        replace hP : va_P D vwCl (xw ad kk V26 L Z) H := hP
        replace hD : va_D A (xw ad kk V26 L Z) := hD
        replace hMV26 : rgd bX V26 := hMV26
        replace ajV26 : agr [(5, 7)] [39] V18 V26 := ajV26
        have agV26 : agr [(5, 6), (5, 7), (5, 9), (5, 11), (5, 12)] [39, 68, 75, 77, 78, 84] V V26 := agV18.tr ajV26 (by decide) (by decide)
        replace t25 : (((V18 5 7).toInt < 2048) ∧ V26 = (up2 (up2 V18 5 7 (V18 5 7 + 1)) 39 (Int32.toNatClampNeg (V18 5 7)) 0)) ∨ ((2048 ≤ (V18 5 7).toInt) ∧ V26 = V18) := t25
        rcases t25 with ⟨hc28, hw29⟩ | ⟨hc30, hw31⟩
        · skip
          have pq33 : (V18 5 7).toInt = ((V 5 7)).toInt := congrArg Int32.toInt (up2_o hV18 (by decide))
          have r34 : 0 ≤ ((V 5 7)).toInt ∧ ((V 5 7)).toInt ≤ 2048 := hMV 5 7
          obtain ⟨z32, ez32⟩ : ∃ y : Int32, y = V18 5 7 + 1 := ⟨_, rfl⟩
          have hz32 : z32.toInt = (V18 5 7).toInt + 1 := i_add ez32 rfl (by decide) (by first | omega | ((try (have i_hz17 := Imp.go hz17 (by omega))); (try (have i_op8 := Imp.go op8 (by omega))); (try (have i_sf := Imp.go sf (by omega))); (try (have i_bc := Imp.go bc (by omega))); (try (have i_rwq := Imp.go rwq (by omega))); (try (have i_hop := Imp.go hop (by omega))); (try (have i_moa := Imp.go moa (by omega))); (try (have i_moa := Imp.go moa (by omega))); (try (have i_hop := Imp.go hop (by omega))); (try (have i_rwq := Imp.go rwq (by omega))); (try (have i_bc := Imp.go bc (by omega))); (try (have i_sf := Imp.go sf (by omega))); (try (have i_op8 := Imp.go op8 (by omega))); (try (have i_hz17 := Imp.go hz17 (by omega))); omega))
          obtain ⟨V35, hV35⟩ : ∃ z, z = up2 V18 5 7 z32 := ⟨_, rfl⟩
          have hV26 : V26 = up2 V35 39 (Int32.toNatClampNeg (V18 5 7)) 0 := by rw [hw29, hV35, ez32]
          refine lv_iconst (v := 1) hx hb dX5_worksWith_81 (by decide) ?_
          have pq36 : (V26 5 6).toInt = ((V 5 6)).toInt := congrArg Int32.toInt ((up2_o hV26 (by decide)).trans ((up2_k hV35 (by decide)).trans (up2_o hV18 (by decide))))
          have pq37 : (V26 67 gf).toInt = ((V 67 gf)).toInt := congrArg Int32.toInt ((up2_o hV26 (by decide)).trans ((up2_o hV35 (by decide)).trans (up2_o hV18 (by decide))))
          have pq38 : (V26 68 gf).toInt = ((V 68 gf)).toInt := congrArg Int32.toInt ((up2_o hV26 (by decide)).trans ((up2_o hV35 (by decide)).trans (up2_o hV18 (by decide))))
          have me39 : ME Va V26 gf := (ME.up (ME.up (ME.up mV hV18 (Or.inl ⟨by decide, by decide, Nat.le_refl _⟩)) hV35 (Or.inr (by omega))) hV26 (Or.inr (by omega)))
          have pq40 : (V26 70 gf).toInt = ((V 70 gf)).toInt := congrArg Int32.toInt ((up2_o hV26 (by decide)).trans ((up2_o hV35 (by decide)).trans (up2_o hV18 (by decide))))
          have pq41 : (V26 71 gf).toInt = ((V 71 gf)).toInt := congrArg Int32.toInt ((up2_o hV26 (by decide)).trans ((up2_o hV35 (by decide)).trans (up2_o hV18 (by decide))))
          have pq42 : (V26 75 gf).toInt = ((V 75 gf)).toInt := congrArg Int32.toInt ((up2_o hV26 (by decide)).trans ((up2_o hV35 (by decide)).trans (up2_o hV18 (by decide))))
          have pq43 : (V26 76 gf).toInt = ((V 76 gf)).toInt := congrArg Int32.toInt ((up2_o hV26 (by decide)).trans ((up2_o hV35 (by decide)).trans (up2_o hV18 (by decide))))
          have pq44 : (V26 80 gf).toInt = ((V 80 gf)).toInt := congrArg Int32.toInt ((up2_o hV26 (by decide)).trans ((up2_o hV35 (by decide)).trans (up2_o hV18 (by decide))))
          have pq45 : (V26 84 gf).toInt = z17.toInt := congrArg Int32.toInt ((up2_o hV26 (by decide)).trans ((up2_o hV35 (by decide)).trans (up2_s hV18)))
          have pq46 : (V26 5 8).toInt = ((V 5 8)).toInt := congrArg Int32.toInt ((up2_o hV26 (by decide)).trans ((up2_k hV35 (by decide)).trans (up2_o hV18 (by decide))))
          have pq47 : (V26 5 9).toInt = ((V 5 9)).toInt := congrArg Int32.toInt ((up2_o hV26 (by decide)).trans ((up2_k hV35 (by decide)).trans (up2_o hV18 (by decide))))
          have pq48 : (V26 3 13).toInt = ((V 3 13)).toInt := congrArg Int32.toInt ((up2_o hV26 (by decide)).trans ((up2_o hV35 (by decide)).trans (up2_o hV18 (by decide))))
          have pq49 : (V26 43 (5 * b + 2)).toInt = ((V 43 (5 * b + 2))).toInt := congrArg Int32.toInt ((up2_o hV26 (by decide)).trans ((up2_o hV35 (by decide)).trans (up2_o hV18 (by decide))))
          have pq50 : (V26 42 b).toInt = ((V 42 b)).toInt := congrArg Int32.toInt ((up2_o hV26 (by decide)).trans ((up2_o hV35 (by decide)).trans (up2_o hV18 (by decide))))
          have pq51 : (V26 41 b).toInt = ((V 41 b)).toInt := congrArg Int32.toInt ((up2_o hV26 (by decide)).trans ((up2_o hV35 (by decide)).trans (up2_o hV18 (by decide))))
          have me54 : ME V V26 0 := (ME.up (ME.up (ME.up ME.rf hV18 (Or.inl ⟨by decide, by decide, by first | omega | ((try (have i_hz17 := Imp.go hz17 (by omega))); (try (have i_op8 := Imp.go op8 (by omega))); (try (have i_sf := Imp.go sf (by omega))); (try (have i_bc := Imp.go bc (by omega))); (try (have i_rwq := Imp.go rwq (by omega))); (try (have i_hop := Imp.go hop (by omega))); (try (have i_moa := Imp.go moa (by omega))); (try (have i_moa := Imp.go moa (by omega))); (try (have i_hop := Imp.go hop (by omega))); (try (have i_rwq := Imp.go rwq (by omega))); (try (have i_bc := Imp.go bc (by omega))); (try (have i_sf := Imp.go sf (by omega))); (try (have i_op8 := Imp.go op8 (by omega))); (try (have i_hz17 := Imp.go hz17 (by omega))); omega)⟩)) hV35 (Or.inr (by omega))) hV26 (Or.inr (by omega)))
          have ep55 : V26 84 gf = z17 := ((up2_o hV26 (by decide)).trans ((up2_o hV35 (by decide)).trans (up2_s hV18)))
          have af53 : (V26 42 b).toInt ≤ (V26 84 gf).toInt ∨ (bdp V26 b (V26 84 gf).toInt.toNat).1 = true := by rw [ep55, me54.1.bd, me54.1 42 b (by decide) (by decide)]; exact atn
          have mo52 : MO V26 Z b gf True True True := MO.ch mo me39 ((up2_o hV26 (by decide)).trans ((up2_o hV35 (by decide)).trans ((up2_o hV18 (by decide)).trans ea67.symm))) ((up2_o hV26 (by decide)).trans ((up2_o hV35 (by decide)).trans ((up2_o hV18 (by decide)).trans ea80.symm))) (fun _ => Or.inl (by omega)) (fun x h => FK.k4 (by first | omega | ((try (have i_hz17 := Imp.go hz17 (by omega))); (try (have i_op8 := Imp.go op8 (by omega))); (try (have i_sf := Imp.go sf (by omega))); (try (have i_bc := Imp.go bc (by omega))); (try (have i_rwq := Imp.go rwq (by omega))); (try (have i_hop := Imp.go hop (by omega))); (try (have i_moa := Imp.go moa (by omega))); (try (have i_moa := Imp.go moa (by omega))); (try (have i_hop := Imp.go hop (by omega))); (try (have i_rwq := Imp.go rwq (by omega))); (try (have i_bc := Imp.go bc (by omega))); (try (have i_sf := Imp.go sf (by omega))); (try (have i_op8 := Imp.go op8 (by omega))); (try (have i_hz17 := Imp.go hz17 (by omega))); omega)) (by first | omega | ((try (have i_hz17 := Imp.go hz17 (by omega))); (try (have i_op8 := Imp.go op8 (by omega))); (try (have i_sf := Imp.go sf (by omega))); (try (have i_bc := Imp.go bc (by omega))); (try (have i_rwq := Imp.go rwq (by omega))); (try (have i_hop := Imp.go hop (by omega))); (try (have i_moa := Imp.go moa (by omega))); (try (have i_moa := Imp.go moa (by omega))); (try (have i_hop := Imp.go hop (by omega))); (try (have i_rwq := Imp.go rwq (by omega))); (try (have i_bc := Imp.go bc (by omega))); (try (have i_sf := Imp.go sf (by omega))); (try (have i_op8 := Imp.go op8 (by omega))); (try (have i_hz17 := Imp.go hz17 (by omega))); omega)) (by first | omega | ((try (have i_hz17 := Imp.go hz17 (by omega))); (try (have i_op8 := Imp.go op8 (by omega))); (try (have i_sf := Imp.go sf (by omega))); (try (have i_bc := Imp.go bc (by omega))); (try (have i_rwq := Imp.go rwq (by omega))); (try (have i_hop := Imp.go hop (by omega))); (try (have i_moa := Imp.go moa (by omega))); (try (have i_moa := Imp.go moa (by omega))); (try (have i_hop := Imp.go hop (by omega))); (try (have i_rwq := Imp.go rwq (by omega))); (try (have i_bc := Imp.go bc (by omega))); (try (have i_sf := Imp.go sf (by omega))); (try (have i_op8 := Imp.go op8 (by omega))); (try (have i_hz17 := Imp.go hz17 (by omega))); omega)) af53 (by first | omega | ((try (have i_hz17 := Imp.go hz17 (by omega))); (try (have i_op8 := Imp.go op8 (by omega))); (try (have i_sf := Imp.go sf (by omega))); (try (have i_bc := Imp.go bc (by omega))); (try (have i_rwq := Imp.go rwq (by omega))); (try (have i_hop := Imp.go hop (by omega))); (try (have i_moa := Imp.go moa (by omega))); (try (have i_moa := Imp.go moa (by omega))); (try (have i_hop := Imp.go hop (by omega))); (try (have i_rwq := Imp.go rwq (by omega))); (try (have i_bc := Imp.go bc (by omega))); (try (have i_sf := Imp.go sf (by omega))); (try (have i_op8 := Imp.go op8 (by omega))); (try (have i_hz17 := Imp.go hz17 (by omega))); omega)) (fun hph => absurd hph (by omega)))
          have o9 : opf gB.1 at9.toNat = 2 := ((enO_i ⟨opf gB.1 at9.toNat, op9⟩).2.2.2.2.2.2.2.2.2.2.1).mp (show enO (opf gB.1 at9.toNat) = 10 from c48.symm.trans (by omega))
          have p84 : psz (opf gB.1) (at9.toNat + 1) = psz (opf gB.1) at9.toNat + 2 := psz_2 (show opf gB.1 at9.toNat = 2 ∨ (10 ≤ opf gB.1 at9.toNat ∧ opf gB.1 at9.toNat ≤ 14) from by omega)
          have pw9 : psz (opf gB.1) (at9.toNat + 1) ≤ wl gB.1 := psz_le hi9
          have c42 : (V 42 b).toInt = ((wl gB.1 : Nat) : Int) := bc.1.1
          exact W.zret (v := 1) hx hb hr rfl (fun t ht hW => ⟨⟨1, (V26, L), rfl, ⟨hMV26, agV26, rfl, (by decide), (Imp.mk (fun _ => mo52)), (Imp.mk (fun hp => absurd hp (by decide))), (Imp.mk (fun _ => (show (V26 5 6).toInt = (V 5 6).toInt ∧ (V26 67 gf).toInt = 4 ∧ (V26 68 gf).toInt = 0 from by first | omega | ((try (have i_hz17 := Imp.go hz17 (by omega))); (try (have i_op8 := Imp.go op8 (by omega))); (try (have i_sf := Imp.go sf (by omega))); (try (have i_bc := Imp.go bc (by omega))); (try (have i_rwq := Imp.go rwq (by omega))); (try (have i_hop := Imp.go hop (by omega))); (try (have i_moa := Imp.go moa (by omega))); (try (have i_moa := Imp.go moa (by omega))); (try (have i_hop := Imp.go hop (by omega))); (try (have i_rwq := Imp.go rwq (by omega))); (try (have i_bc := Imp.go bc (by omega))); (try (have i_sf := Imp.go sf (by omega))); (try (have i_op8 := Imp.go op8 (by omega))); (try (have i_hz17 := Imp.go hz17 (by omega))); omega)))), (by exfalso; omega)⟩, by rw [ht]; exact hP, va_K.moved hW.alike hK, hD⟩, hS.F ht⟩) hS.2.2 dX5_worksWith_82
        · skip
          have ajV26 : agr [] [] V18 V26 := by rw [hw31]; exact agr.rf
          refine lv_iconst (v := 1) hx hb dX5_worksWith_81 (by decide) ?_
          have pq56 : (V26 5 6).toInt = ((V 5 6)).toInt := congrArg Int32.toInt ((ajV26 5 6 rfl).trans (up2_o hV18 (by decide)))
          have pq57 : (V26 67 gf).toInt = ((V 67 gf)).toInt := congrArg Int32.toInt ((ajV26 67 gf rfl).trans (up2_o hV18 (by decide)))
          have pq58 : (V26 68 gf).toInt = ((V 68 gf)).toInt := congrArg Int32.toInt ((ajV26 68 gf rfl).trans (up2_o hV18 (by decide)))
          have me59 : ME Va V26 gf := (ME.tr (ME.up mV hV18 (Or.inl ⟨by decide, by decide, Nat.le_refl _⟩)) (ME.ag ajV26 (by decide)))
          have pq60 : (V26 70 gf).toInt = ((V 70 gf)).toInt := congrArg Int32.toInt ((ajV26 70 gf rfl).trans (up2_o hV18 (by decide)))
          have pq61 : (V26 71 gf).toInt = ((V 71 gf)).toInt := congrArg Int32.toInt ((ajV26 71 gf rfl).trans (up2_o hV18 (by decide)))
          have pq62 : (V26 75 gf).toInt = ((V 75 gf)).toInt := congrArg Int32.toInt ((ajV26 75 gf rfl).trans (up2_o hV18 (by decide)))
          have pq63 : (V26 76 gf).toInt = ((V 76 gf)).toInt := congrArg Int32.toInt ((ajV26 76 gf rfl).trans (up2_o hV18 (by decide)))
          have pq64 : (V26 80 gf).toInt = ((V 80 gf)).toInt := congrArg Int32.toInt ((ajV26 80 gf rfl).trans (up2_o hV18 (by decide)))
          have pq65 : (V26 84 gf).toInt = z17.toInt := congrArg Int32.toInt ((ajV26 84 gf rfl).trans (up2_s hV18))
          have pq66 : (V26 5 8).toInt = ((V 5 8)).toInt := congrArg Int32.toInt ((ajV26 5 8 rfl).trans (up2_o hV18 (by decide)))
          have pq67 : (V26 5 9).toInt = ((V 5 9)).toInt := congrArg Int32.toInt ((ajV26 5 9 rfl).trans (up2_o hV18 (by decide)))
          have pq68 : (V26 3 13).toInt = ((V 3 13)).toInt := congrArg Int32.toInt ((ajV26 3 13 rfl).trans (up2_o hV18 (by decide)))
          have pq69 : (V26 43 (5 * b + 2)).toInt = ((V 43 (5 * b + 2))).toInt := congrArg Int32.toInt ((ajV26 43 (5 * b + 2) rfl).trans (up2_o hV18 (by decide)))
          have pq70 : (V26 42 b).toInt = ((V 42 b)).toInt := congrArg Int32.toInt ((ajV26 42 b rfl).trans (up2_o hV18 (by decide)))
          have pq71 : (V26 41 b).toInt = ((V 41 b)).toInt := congrArg Int32.toInt ((ajV26 41 b rfl).trans (up2_o hV18 (by decide)))
          have me74 : ME V V26 0 := (ME.tr (ME.up ME.rf hV18 (Or.inl ⟨by decide, by decide, by first | omega | ((try (have i_hz17 := Imp.go hz17 (by omega))); (try (have i_op8 := Imp.go op8 (by omega))); (try (have i_sf := Imp.go sf (by omega))); (try (have i_bc := Imp.go bc (by omega))); (try (have i_rwq := Imp.go rwq (by omega))); (try (have i_hop := Imp.go hop (by omega))); (try (have i_moa := Imp.go moa (by omega))); (try (have i_moa := Imp.go moa (by omega))); (try (have i_hop := Imp.go hop (by omega))); (try (have i_rwq := Imp.go rwq (by omega))); (try (have i_bc := Imp.go bc (by omega))); (try (have i_sf := Imp.go sf (by omega))); (try (have i_op8 := Imp.go op8 (by omega))); (try (have i_hz17 := Imp.go hz17 (by omega))); omega)⟩)) (ME.ag ajV26 (by decide)))
          have af73 : (V26 42 b).toInt ≤ (V26 84 gf).toInt ∨ (bdp V26 b (V26 84 gf).toInt.toNat).1 = true := by rw [((ajV26 84 gf rfl).trans (up2_s hV18)), me74.1.bd, me74.1 42 b (by decide) (by decide)]; exact atn
          have mo72 : MO V26 Z b gf True True True := MO.ch mo me59 ((ajV26 67 gf rfl).trans ((up2_o hV18 (by decide)).trans ea67.symm)) ((ajV26 80 gf rfl).trans ((up2_o hV18 (by decide)).trans ea80.symm)) (fun _ => Or.inl (by omega)) (fun x h => FK.k4 (by first | omega | ((try (have i_hz17 := Imp.go hz17 (by omega))); (try (have i_op8 := Imp.go op8 (by omega))); (try (have i_sf := Imp.go sf (by omega))); (try (have i_bc := Imp.go bc (by omega))); (try (have i_rwq := Imp.go rwq (by omega))); (try (have i_hop := Imp.go hop (by omega))); (try (have i_moa := Imp.go moa (by omega))); (try (have i_moa := Imp.go moa (by omega))); (try (have i_hop := Imp.go hop (by omega))); (try (have i_rwq := Imp.go rwq (by omega))); (try (have i_bc := Imp.go bc (by omega))); (try (have i_sf := Imp.go sf (by omega))); (try (have i_op8 := Imp.go op8 (by omega))); (try (have i_hz17 := Imp.go hz17 (by omega))); omega)) (by first | omega | ((try (have i_hz17 := Imp.go hz17 (by omega))); (try (have i_op8 := Imp.go op8 (by omega))); (try (have i_sf := Imp.go sf (by omega))); (try (have i_bc := Imp.go bc (by omega))); (try (have i_rwq := Imp.go rwq (by omega))); (try (have i_hop := Imp.go hop (by omega))); (try (have i_moa := Imp.go moa (by omega))); (try (have i_moa := Imp.go moa (by omega))); (try (have i_hop := Imp.go hop (by omega))); (try (have i_rwq := Imp.go rwq (by omega))); (try (have i_bc := Imp.go bc (by omega))); (try (have i_sf := Imp.go sf (by omega))); (try (have i_op8 := Imp.go op8 (by omega))); (try (have i_hz17 := Imp.go hz17 (by omega))); omega)) (by first | omega | ((try (have i_hz17 := Imp.go hz17 (by omega))); (try (have i_op8 := Imp.go op8 (by omega))); (try (have i_sf := Imp.go sf (by omega))); (try (have i_bc := Imp.go bc (by omega))); (try (have i_rwq := Imp.go rwq (by omega))); (try (have i_hop := Imp.go hop (by omega))); (try (have i_moa := Imp.go moa (by omega))); (try (have i_moa := Imp.go moa (by omega))); (try (have i_hop := Imp.go hop (by omega))); (try (have i_rwq := Imp.go rwq (by omega))); (try (have i_bc := Imp.go bc (by omega))); (try (have i_sf := Imp.go sf (by omega))); (try (have i_op8 := Imp.go op8 (by omega))); (try (have i_hz17 := Imp.go hz17 (by omega))); omega)) af73 (by first | omega | ((try (have i_hz17 := Imp.go hz17 (by omega))); (try (have i_op8 := Imp.go op8 (by omega))); (try (have i_sf := Imp.go sf (by omega))); (try (have i_bc := Imp.go bc (by omega))); (try (have i_rwq := Imp.go rwq (by omega))); (try (have i_hop := Imp.go hop (by omega))); (try (have i_moa := Imp.go moa (by omega))); (try (have i_moa := Imp.go moa (by omega))); (try (have i_hop := Imp.go hop (by omega))); (try (have i_rwq := Imp.go rwq (by omega))); (try (have i_bc := Imp.go bc (by omega))); (try (have i_sf := Imp.go sf (by omega))); (try (have i_op8 := Imp.go op8 (by omega))); (try (have i_hz17 := Imp.go hz17 (by omega))); omega)) (fun hph => absurd hph (by omega)))
          have o9 : opf gB.1 at9.toNat = 2 := ((enO_i ⟨opf gB.1 at9.toNat, op9⟩).2.2.2.2.2.2.2.2.2.2.1).mp (show enO (opf gB.1 at9.toNat) = 10 from c48.symm.trans (by omega))
          have p84 : psz (opf gB.1) (at9.toNat + 1) = psz (opf gB.1) at9.toNat + 2 := psz_2 (show opf gB.1 at9.toNat = 2 ∨ (10 ≤ opf gB.1 at9.toNat ∧ opf gB.1 at9.toNat ≤ 14) from by omega)
          have pw9 : psz (opf gB.1) (at9.toNat + 1) ≤ wl gB.1 := psz_le hi9
          have c42 : (V 42 b).toInt = ((wl gB.1 : Nat) : Int) := bc.1.1
          exact W.zret (v := 1) hx hb hr rfl (fun t ht hW => ⟨⟨1, (V26, L), rfl, ⟨hMV26, agV26, rfl, (by decide), (Imp.mk (fun _ => mo72)), (Imp.mk (fun hp => absurd hp (by decide))), (Imp.mk (fun _ => (show (V26 5 6).toInt = (V 5 6).toInt ∧ (V26 67 gf).toInt = 4 ∧ (V26 68 gf).toInt = 0 from by first | omega | ((try (have i_hz17 := Imp.go hz17 (by omega))); (try (have i_op8 := Imp.go op8 (by omega))); (try (have i_sf := Imp.go sf (by omega))); (try (have i_bc := Imp.go bc (by omega))); (try (have i_rwq := Imp.go rwq (by omega))); (try (have i_hop := Imp.go hop (by omega))); (try (have i_moa := Imp.go moa (by omega))); (try (have i_moa := Imp.go moa (by omega))); (try (have i_hop := Imp.go hop (by omega))); (try (have i_rwq := Imp.go rwq (by omega))); (try (have i_bc := Imp.go bc (by omega))); (try (have i_sf := Imp.go sf (by omega))); (try (have i_op8 := Imp.go op8 (by omega))); (try (have i_hz17 := Imp.go hz17 (by omega))); omega)))), (by exfalso; omega)⟩, by rw [ht]; exact hP, va_K.moved hW.alike hK, hD⟩, hS.F ht⟩) hS.2.2 dX5_worksWith_82
      have gq20 : p1.toInt ≠ 10 := b_neq rfl (by decide) q20
      by_cases q75 : p1 = 11
      · refine g_top (v := 11) q75 ?_
        have fq75 : p1.toInt = 11 := b_eq rfl (by decide) q75
        refine lv_tableIn (x := 11) (off := 41) (tgt := 83) hx hb dX5_worksWith_42 (by decide) (by decide) (by decide) (by decide) ?_
        refine lv_aload_n hx hb dX5_worksWith_83 rfl (lv_at hl 1 rfl) ?_
        refine lv_aload_n hx hb dX5_worksWith_84 rfl (lv_at hl 1 rfl) ?_
        refine va_get (D := D) (ci := 5) (v := .ref (ad (38 + Int32.toNatClampNeg (V18 5 5)))) (fs := (xfMachine ad V18 L Z)) (C := RX5) (T := TX5) (N := 15) hx hb hg inX5 hown hK hP 5 xgMachine rfl 5 (by decide) (hg _ w672) (fun _ h9 => h9) rfl dX5_worksWith_85 ?_
        have pq76 : (V18 5 5).toInt = ((V 5 5)).toInt := congrArg Int32.toInt (up2_o hV18 (by decide))
        refine g_topv (v := .ref (ad (38 + b))) (rfP (by first | omega | ((try (have i_hz17 := Imp.go hz17 (by omega))); (try (have i_op8 := Imp.go op8 (by omega))); (try (have i_sf := Imp.go sf (by omega))); (try (have i_bc := Imp.go bc (by omega))); (try (have i_rwq := Imp.go rwq (by omega))); (try (have i_hop := Imp.go hop (by omega))); (try (have i_moa := Imp.go moa (by omega))); (try (have i_moa := Imp.go moa (by omega))); (try (have i_hop := Imp.go hop (by omega))); (try (have i_rwq := Imp.go rwq (by omega))); (try (have i_bc := Imp.go bc (by omega))); (try (have i_sf := Imp.go sf (by omega))); (try (have i_op8 := Imp.go op8 (by omega))); (try (have i_hz17 := Imp.go hz17 (by omega))); omega))) ?_
        refine va_getN (D := D) (ci := 0) (v := .ref (ad (62 + b))) (fs := (xfBook ad V18 b)) (C := RX0) (T := TX0) (N := 13) hx hb hg inX0 hown hK hP (38 + b) (xgBook hb2) rfl 6 (by decide) (hnw.use 613 n613 rfl) (fun _ h9 => h9) rfl dX5_worksWith_88 ?_
        refine lv_iload_n hx hb dX5_worksWith_91 rfl (lv_at hl 0 rfl) ?_
        have il77 : b < 2 := by first | omega | ((try (have i_hz17 := Imp.go hz17 (by omega))); (try (have i_op8 := Imp.go op8 (by omega))); (try (have i_sf := Imp.go sf (by omega))); (try (have i_bc := Imp.go bc (by omega))); (try (have i_rwq := Imp.go rwq (by omega))); (try (have i_hop := Imp.go hop (by omega))); (try (have i_moa := Imp.go moa (by omega))); (try (have i_moa := Imp.go moa (by omega))); (try (have i_hop := Imp.go hop (by omega))); (try (have i_rwq := Imp.go rwq (by omega))); (try (have i_bc := Imp.go bc (by omega))); (try (have i_sf := Imp.go sf (by omega))); (try (have i_op8 := Imp.go op8 (by omega))); (try (have i_hz17 := Imp.go hz17 (by omega))); omega)
        refine va_iald (D := D) (i := 0) hx hb hK hP (62 + b) (55 + b) (xgsettingValues il77) (xtsettingValues il77) (i_in (a := 0) (by decide) (by decide)) dX5_worksWith_92 ?_
        have kc78 : Int32.toNatClampNeg 0 = 0 := by decide
        refine g_top (v := V18 46 (12 * b + (Int32.toNatClampNeg 0))) (if_pos (by first | omega | ((try (have i_hz17 := Imp.go hz17 (by omega))); (try (have i_op8 := Imp.go op8 (by omega))); (try (have i_sf := Imp.go sf (by omega))); (try (have i_bc := Imp.go bc (by omega))); (try (have i_rwq := Imp.go rwq (by omega))); (try (have i_hop := Imp.go hop (by omega))); (try (have i_moa := Imp.go moa (by omega))); (try (have i_moa := Imp.go moa (by omega))); (try (have i_hop := Imp.go hop (by omega))); (try (have i_rwq := Imp.go rwq (by omega))); (try (have i_bc := Imp.go bc (by omega))); (try (have i_sf := Imp.go sf (by omega))); (try (have i_op8 := Imp.go op8 (by omega))); (try (have i_hz17 := Imp.go hz17 (by omega))); omega))) ?_
        refine g_top (v := (V 46 (12 * b + (Int32.toNatClampNeg 0)))) (up2_o hV18 (by decide)) ?_
        refine gA_void (gA_runV (As := [.int (V 46 (12 * b + (Int32.toNatClampNeg 0)))]) (rest := []) (ci := 5) (q0 := 5) hx hb hml hown hg hP hD hK hS hA hnw hgk (x_put9 l D ks H.size ad kk V18 L Z (V 46 (12 * b + (Int32.toNatClampNeg 0))) hMV18 ) w1466 w1468 w72 w171 w1469 rfl xgMachine hdV_yX5_put ⟨Nat.le_of_ble_eq_true rfl, Nat.le_of_ble_eq_true rfl⟩ rfl hl.1 rfl (Nat.le_of_ble_eq_true rfl) dX5_worksWith_93 ⟨Nat.le_of_ble_eq_true rfl, Nat.le_of_ble_eq_true rfl⟩) hP hD hK hS hA (fun u80 H locs w81 hP hD hK hS => ?_)
        obtain ⟨V83, L84⟩ := u80
        obtain ⟨hMV83, ajV83, axL84, t82⟩ := w81
        have axL84 : L = L84 := Eq.symm axL84
        subst axL84
        replace hP : va_P D vwCl (xw ad kk V83 L Z) H := hP
        replace hD : va_D A (xw ad kk V83 L Z) := hD
        replace hMV83 : rgd bX V83 := hMV83
        replace ajV83 : agr [(5, 7)] [39] V18 V83 := ajV83
        have agV83 : agr [(5, 6), (5, 7), (5, 9), (5, 11), (5, 12)] [39, 68, 75, 77, 78, 84] V V83 := agV18.tr ajV83 (by decide) (by decide)
        replace t82 : (((V18 5 7).toInt < 2048) ∧ V83 = (up2 (up2 V18 5 7 (V18 5 7 + 1)) 39 (Int32.toNatClampNeg (V18 5 7)) (V 46 (12 * b + (Int32.toNatClampNeg 0))))) ∨ ((2048 ≤ (V18 5 7).toInt) ∧ V83 = V18) := t82
        rcases t82 with ⟨hc85, hw86⟩ | ⟨hc87, hw88⟩
        · skip
          have pq90 : (V18 5 7).toInt = ((V 5 7)).toInt := congrArg Int32.toInt (up2_o hV18 (by decide))
          have r91 : 0 ≤ ((V 5 7)).toInt ∧ ((V 5 7)).toInt ≤ 2048 := hMV 5 7
          obtain ⟨z89, ez89⟩ : ∃ y : Int32, y = V18 5 7 + 1 := ⟨_, rfl⟩
          have hz89 : z89.toInt = (V18 5 7).toInt + 1 := i_add ez89 rfl (by decide) (by first | omega | ((try (have i_hz17 := Imp.go hz17 (by omega))); (try (have i_op8 := Imp.go op8 (by omega))); (try (have i_sf := Imp.go sf (by omega))); (try (have i_bc := Imp.go bc (by omega))); (try (have i_rwq := Imp.go rwq (by omega))); (try (have i_hop := Imp.go hop (by omega))); (try (have i_moa := Imp.go moa (by omega))); (try (have i_moa := Imp.go moa (by omega))); (try (have i_hop := Imp.go hop (by omega))); (try (have i_rwq := Imp.go rwq (by omega))); (try (have i_bc := Imp.go bc (by omega))); (try (have i_sf := Imp.go sf (by omega))); (try (have i_op8 := Imp.go op8 (by omega))); (try (have i_hz17 := Imp.go hz17 (by omega))); omega))
          obtain ⟨V92, hV92⟩ : ∃ z, z = up2 V18 5 7 z89 := ⟨_, rfl⟩
          have hV83 : V83 = up2 V92 39 (Int32.toNatClampNeg (V18 5 7)) (V 46 (12 * b + (Int32.toNatClampNeg 0))) := by rw [hw86, hV92, ez89]
          refine lv_iconst (v := 1) hx hb dX5_worksWith_96 (by decide) ?_
          have pq93 : (V83 5 6).toInt = ((V 5 6)).toInt := congrArg Int32.toInt ((up2_o hV83 (by decide)).trans ((up2_k hV92 (by decide)).trans (up2_o hV18 (by decide))))
          have pq94 : (V83 67 gf).toInt = ((V 67 gf)).toInt := congrArg Int32.toInt ((up2_o hV83 (by decide)).trans ((up2_o hV92 (by decide)).trans (up2_o hV18 (by decide))))
          have pq95 : (V83 68 gf).toInt = ((V 68 gf)).toInt := congrArg Int32.toInt ((up2_o hV83 (by decide)).trans ((up2_o hV92 (by decide)).trans (up2_o hV18 (by decide))))
          have me96 : ME Va V83 gf := (ME.up (ME.up (ME.up mV hV18 (Or.inl ⟨by decide, by decide, Nat.le_refl _⟩)) hV92 (Or.inr (by omega))) hV83 (Or.inr (by omega)))
          have pq97 : (V83 70 gf).toInt = ((V 70 gf)).toInt := congrArg Int32.toInt ((up2_o hV83 (by decide)).trans ((up2_o hV92 (by decide)).trans (up2_o hV18 (by decide))))
          have pq98 : (V83 71 gf).toInt = ((V 71 gf)).toInt := congrArg Int32.toInt ((up2_o hV83 (by decide)).trans ((up2_o hV92 (by decide)).trans (up2_o hV18 (by decide))))
          have pq99 : (V83 75 gf).toInt = ((V 75 gf)).toInt := congrArg Int32.toInt ((up2_o hV83 (by decide)).trans ((up2_o hV92 (by decide)).trans (up2_o hV18 (by decide))))
          have pq100 : (V83 76 gf).toInt = ((V 76 gf)).toInt := congrArg Int32.toInt ((up2_o hV83 (by decide)).trans ((up2_o hV92 (by decide)).trans (up2_o hV18 (by decide))))
          have pq101 : (V83 80 gf).toInt = ((V 80 gf)).toInt := congrArg Int32.toInt ((up2_o hV83 (by decide)).trans ((up2_o hV92 (by decide)).trans (up2_o hV18 (by decide))))
          have pq102 : (V83 84 gf).toInt = z17.toInt := congrArg Int32.toInt ((up2_o hV83 (by decide)).trans ((up2_o hV92 (by decide)).trans (up2_s hV18)))
          have pq103 : (V83 5 8).toInt = ((V 5 8)).toInt := congrArg Int32.toInt ((up2_o hV83 (by decide)).trans ((up2_k hV92 (by decide)).trans (up2_o hV18 (by decide))))
          have pq104 : (V83 5 9).toInt = ((V 5 9)).toInt := congrArg Int32.toInt ((up2_o hV83 (by decide)).trans ((up2_k hV92 (by decide)).trans (up2_o hV18 (by decide))))
          have pq105 : (V83 3 13).toInt = ((V 3 13)).toInt := congrArg Int32.toInt ((up2_o hV83 (by decide)).trans ((up2_o hV92 (by decide)).trans (up2_o hV18 (by decide))))
          have pq106 : (V83 43 (5 * b + 2)).toInt = ((V 43 (5 * b + 2))).toInt := congrArg Int32.toInt ((up2_o hV83 (by decide)).trans ((up2_o hV92 (by decide)).trans (up2_o hV18 (by decide))))
          have pq107 : (V83 42 b).toInt = ((V 42 b)).toInt := congrArg Int32.toInt ((up2_o hV83 (by decide)).trans ((up2_o hV92 (by decide)).trans (up2_o hV18 (by decide))))
          have pq108 : (V83 41 b).toInt = ((V 41 b)).toInt := congrArg Int32.toInt ((up2_o hV83 (by decide)).trans ((up2_o hV92 (by decide)).trans (up2_o hV18 (by decide))))
          have me111 : ME V V83 0 := (ME.up (ME.up (ME.up ME.rf hV18 (Or.inl ⟨by decide, by decide, by first | omega | ((try (have i_hz17 := Imp.go hz17 (by omega))); (try (have i_op8 := Imp.go op8 (by omega))); (try (have i_sf := Imp.go sf (by omega))); (try (have i_bc := Imp.go bc (by omega))); (try (have i_rwq := Imp.go rwq (by omega))); (try (have i_hop := Imp.go hop (by omega))); (try (have i_moa := Imp.go moa (by omega))); (try (have i_moa := Imp.go moa (by omega))); (try (have i_hop := Imp.go hop (by omega))); (try (have i_rwq := Imp.go rwq (by omega))); (try (have i_bc := Imp.go bc (by omega))); (try (have i_sf := Imp.go sf (by omega))); (try (have i_op8 := Imp.go op8 (by omega))); (try (have i_hz17 := Imp.go hz17 (by omega))); omega)⟩)) hV92 (Or.inr (by omega))) hV83 (Or.inr (by omega)))
          have ep112 : V83 84 gf = z17 := ((up2_o hV83 (by decide)).trans ((up2_o hV92 (by decide)).trans (up2_s hV18)))
          have af110 : (V83 42 b).toInt ≤ (V83 84 gf).toInt ∨ (bdp V83 b (V83 84 gf).toInt.toNat).1 = true := by rw [ep112, me111.1.bd, me111.1 42 b (by decide) (by decide)]; exact atn
          have mo109 : MO V83 Z b gf True True True := MO.ch mo me96 ((up2_o hV83 (by decide)).trans ((up2_o hV92 (by decide)).trans ((up2_o hV18 (by decide)).trans ea67.symm))) ((up2_o hV83 (by decide)).trans ((up2_o hV92 (by decide)).trans ((up2_o hV18 (by decide)).trans ea80.symm))) (fun _ => Or.inl (by omega)) (fun x h => FK.k4 (by first | omega | ((try (have i_hz17 := Imp.go hz17 (by omega))); (try (have i_op8 := Imp.go op8 (by omega))); (try (have i_sf := Imp.go sf (by omega))); (try (have i_bc := Imp.go bc (by omega))); (try (have i_rwq := Imp.go rwq (by omega))); (try (have i_hop := Imp.go hop (by omega))); (try (have i_moa := Imp.go moa (by omega))); (try (have i_moa := Imp.go moa (by omega))); (try (have i_hop := Imp.go hop (by omega))); (try (have i_rwq := Imp.go rwq (by omega))); (try (have i_bc := Imp.go bc (by omega))); (try (have i_sf := Imp.go sf (by omega))); (try (have i_op8 := Imp.go op8 (by omega))); (try (have i_hz17 := Imp.go hz17 (by omega))); omega)) (by first | omega | ((try (have i_hz17 := Imp.go hz17 (by omega))); (try (have i_op8 := Imp.go op8 (by omega))); (try (have i_sf := Imp.go sf (by omega))); (try (have i_bc := Imp.go bc (by omega))); (try (have i_rwq := Imp.go rwq (by omega))); (try (have i_hop := Imp.go hop (by omega))); (try (have i_moa := Imp.go moa (by omega))); (try (have i_moa := Imp.go moa (by omega))); (try (have i_hop := Imp.go hop (by omega))); (try (have i_rwq := Imp.go rwq (by omega))); (try (have i_bc := Imp.go bc (by omega))); (try (have i_sf := Imp.go sf (by omega))); (try (have i_op8 := Imp.go op8 (by omega))); (try (have i_hz17 := Imp.go hz17 (by omega))); omega)) (by first | omega | ((try (have i_hz17 := Imp.go hz17 (by omega))); (try (have i_op8 := Imp.go op8 (by omega))); (try (have i_sf := Imp.go sf (by omega))); (try (have i_bc := Imp.go bc (by omega))); (try (have i_rwq := Imp.go rwq (by omega))); (try (have i_hop := Imp.go hop (by omega))); (try (have i_moa := Imp.go moa (by omega))); (try (have i_moa := Imp.go moa (by omega))); (try (have i_hop := Imp.go hop (by omega))); (try (have i_rwq := Imp.go rwq (by omega))); (try (have i_bc := Imp.go bc (by omega))); (try (have i_sf := Imp.go sf (by omega))); (try (have i_op8 := Imp.go op8 (by omega))); (try (have i_hz17 := Imp.go hz17 (by omega))); omega)) af110 (by first | omega | ((try (have i_hz17 := Imp.go hz17 (by omega))); (try (have i_op8 := Imp.go op8 (by omega))); (try (have i_sf := Imp.go sf (by omega))); (try (have i_bc := Imp.go bc (by omega))); (try (have i_rwq := Imp.go rwq (by omega))); (try (have i_hop := Imp.go hop (by omega))); (try (have i_moa := Imp.go moa (by omega))); (try (have i_moa := Imp.go moa (by omega))); (try (have i_hop := Imp.go hop (by omega))); (try (have i_rwq := Imp.go rwq (by omega))); (try (have i_bc := Imp.go bc (by omega))); (try (have i_sf := Imp.go sf (by omega))); (try (have i_op8 := Imp.go op8 (by omega))); (try (have i_hz17 := Imp.go hz17 (by omega))); omega)) (fun hph => absurd hph (by omega)))
          have o9 : opf gB.1 at9.toNat = 11 := ((enO_i ⟨opf gB.1 at9.toNat, op9⟩).2.2.2.2.2.2.2.2.2.2.2.1).mp (show enO (opf gB.1 at9.toNat) = 11 from c48.symm.trans (by omega))
          have p84 : psz (opf gB.1) (at9.toNat + 1) = psz (opf gB.1) at9.toNat + 2 := psz_2 (show opf gB.1 at9.toNat = 2 ∨ (10 ≤ opf gB.1 at9.toNat ∧ opf gB.1 at9.toNat ≤ 14) from by omega)
          have pw9 : psz (opf gB.1) (at9.toNat + 1) ≤ wl gB.1 := psz_le hi9
          have c42 : (V 42 b).toInt = ((wl gB.1 : Nat) : Int) := bc.1.1
          exact W.zret (v := 1) hx hb hr rfl (fun t ht hW => ⟨⟨1, (V83, L), rfl, ⟨hMV83, agV83, rfl, (by decide), (Imp.mk (fun _ => mo109)), (Imp.mk (fun hp => absurd hp (by decide))), (Imp.mk (fun _ => (show (V83 5 6).toInt = (V 5 6).toInt ∧ (V83 67 gf).toInt = 4 ∧ (V83 68 gf).toInt = 0 from by first | omega | ((try (have i_hz17 := Imp.go hz17 (by omega))); (try (have i_op8 := Imp.go op8 (by omega))); (try (have i_sf := Imp.go sf (by omega))); (try (have i_bc := Imp.go bc (by omega))); (try (have i_rwq := Imp.go rwq (by omega))); (try (have i_hop := Imp.go hop (by omega))); (try (have i_moa := Imp.go moa (by omega))); (try (have i_moa := Imp.go moa (by omega))); (try (have i_hop := Imp.go hop (by omega))); (try (have i_rwq := Imp.go rwq (by omega))); (try (have i_bc := Imp.go bc (by omega))); (try (have i_sf := Imp.go sf (by omega))); (try (have i_op8 := Imp.go op8 (by omega))); (try (have i_hz17 := Imp.go hz17 (by omega))); omega)))), (by exfalso; omega)⟩, by rw [ht]; exact hP, va_K.moved hW.alike hK, hD⟩, hS.F ht⟩) hS.2.2 dX5_worksWith_97
        · skip
          have ajV83 : agr [] [] V18 V83 := by rw [hw88]; exact agr.rf
          refine lv_iconst (v := 1) hx hb dX5_worksWith_96 (by decide) ?_
          have pq113 : (V83 5 6).toInt = ((V 5 6)).toInt := congrArg Int32.toInt ((ajV83 5 6 rfl).trans (up2_o hV18 (by decide)))
          have pq114 : (V83 67 gf).toInt = ((V 67 gf)).toInt := congrArg Int32.toInt ((ajV83 67 gf rfl).trans (up2_o hV18 (by decide)))
          have pq115 : (V83 68 gf).toInt = ((V 68 gf)).toInt := congrArg Int32.toInt ((ajV83 68 gf rfl).trans (up2_o hV18 (by decide)))
          have me116 : ME Va V83 gf := (ME.tr (ME.up mV hV18 (Or.inl ⟨by decide, by decide, Nat.le_refl _⟩)) (ME.ag ajV83 (by decide)))
          have pq117 : (V83 70 gf).toInt = ((V 70 gf)).toInt := congrArg Int32.toInt ((ajV83 70 gf rfl).trans (up2_o hV18 (by decide)))
          have pq118 : (V83 71 gf).toInt = ((V 71 gf)).toInt := congrArg Int32.toInt ((ajV83 71 gf rfl).trans (up2_o hV18 (by decide)))
          have pq119 : (V83 75 gf).toInt = ((V 75 gf)).toInt := congrArg Int32.toInt ((ajV83 75 gf rfl).trans (up2_o hV18 (by decide)))
          have pq120 : (V83 76 gf).toInt = ((V 76 gf)).toInt := congrArg Int32.toInt ((ajV83 76 gf rfl).trans (up2_o hV18 (by decide)))
          have pq121 : (V83 80 gf).toInt = ((V 80 gf)).toInt := congrArg Int32.toInt ((ajV83 80 gf rfl).trans (up2_o hV18 (by decide)))
          have pq122 : (V83 84 gf).toInt = z17.toInt := congrArg Int32.toInt ((ajV83 84 gf rfl).trans (up2_s hV18))
          have pq123 : (V83 5 8).toInt = ((V 5 8)).toInt := congrArg Int32.toInt ((ajV83 5 8 rfl).trans (up2_o hV18 (by decide)))
          have pq124 : (V83 5 9).toInt = ((V 5 9)).toInt := congrArg Int32.toInt ((ajV83 5 9 rfl).trans (up2_o hV18 (by decide)))
          have pq125 : (V83 3 13).toInt = ((V 3 13)).toInt := congrArg Int32.toInt ((ajV83 3 13 rfl).trans (up2_o hV18 (by decide)))
          have pq126 : (V83 43 (5 * b + 2)).toInt = ((V 43 (5 * b + 2))).toInt := congrArg Int32.toInt ((ajV83 43 (5 * b + 2) rfl).trans (up2_o hV18 (by decide)))
          have pq127 : (V83 42 b).toInt = ((V 42 b)).toInt := congrArg Int32.toInt ((ajV83 42 b rfl).trans (up2_o hV18 (by decide)))
          have pq128 : (V83 41 b).toInt = ((V 41 b)).toInt := congrArg Int32.toInt ((ajV83 41 b rfl).trans (up2_o hV18 (by decide)))
          have me131 : ME V V83 0 := (ME.tr (ME.up ME.rf hV18 (Or.inl ⟨by decide, by decide, by first | omega | ((try (have i_hz17 := Imp.go hz17 (by omega))); (try (have i_op8 := Imp.go op8 (by omega))); (try (have i_sf := Imp.go sf (by omega))); (try (have i_bc := Imp.go bc (by omega))); (try (have i_rwq := Imp.go rwq (by omega))); (try (have i_hop := Imp.go hop (by omega))); (try (have i_moa := Imp.go moa (by omega))); (try (have i_moa := Imp.go moa (by omega))); (try (have i_hop := Imp.go hop (by omega))); (try (have i_rwq := Imp.go rwq (by omega))); (try (have i_bc := Imp.go bc (by omega))); (try (have i_sf := Imp.go sf (by omega))); (try (have i_op8 := Imp.go op8 (by omega))); (try (have i_hz17 := Imp.go hz17 (by omega))); omega)⟩)) (ME.ag ajV83 (by decide)))
          have af130 : (V83 42 b).toInt ≤ (V83 84 gf).toInt ∨ (bdp V83 b (V83 84 gf).toInt.toNat).1 = true := by rw [((ajV83 84 gf rfl).trans (up2_s hV18)), me131.1.bd, me131.1 42 b (by decide) (by decide)]; exact atn
          have mo129 : MO V83 Z b gf True True True := MO.ch mo me116 ((ajV83 67 gf rfl).trans ((up2_o hV18 (by decide)).trans ea67.symm)) ((ajV83 80 gf rfl).trans ((up2_o hV18 (by decide)).trans ea80.symm)) (fun _ => Or.inl (by omega)) (fun x h => FK.k4 (by first | omega | ((try (have i_hz17 := Imp.go hz17 (by omega))); (try (have i_op8 := Imp.go op8 (by omega))); (try (have i_sf := Imp.go sf (by omega))); (try (have i_bc := Imp.go bc (by omega))); (try (have i_rwq := Imp.go rwq (by omega))); (try (have i_hop := Imp.go hop (by omega))); (try (have i_moa := Imp.go moa (by omega))); (try (have i_moa := Imp.go moa (by omega))); (try (have i_hop := Imp.go hop (by omega))); (try (have i_rwq := Imp.go rwq (by omega))); (try (have i_bc := Imp.go bc (by omega))); (try (have i_sf := Imp.go sf (by omega))); (try (have i_op8 := Imp.go op8 (by omega))); (try (have i_hz17 := Imp.go hz17 (by omega))); omega)) (by first | omega | ((try (have i_hz17 := Imp.go hz17 (by omega))); (try (have i_op8 := Imp.go op8 (by omega))); (try (have i_sf := Imp.go sf (by omega))); (try (have i_bc := Imp.go bc (by omega))); (try (have i_rwq := Imp.go rwq (by omega))); (try (have i_hop := Imp.go hop (by omega))); (try (have i_moa := Imp.go moa (by omega))); (try (have i_moa := Imp.go moa (by omega))); (try (have i_hop := Imp.go hop (by omega))); (try (have i_rwq := Imp.go rwq (by omega))); (try (have i_bc := Imp.go bc (by omega))); (try (have i_sf := Imp.go sf (by omega))); (try (have i_op8 := Imp.go op8 (by omega))); (try (have i_hz17 := Imp.go hz17 (by omega))); omega)) (by first | omega | ((try (have i_hz17 := Imp.go hz17 (by omega))); (try (have i_op8 := Imp.go op8 (by omega))); (try (have i_sf := Imp.go sf (by omega))); (try (have i_bc := Imp.go bc (by omega))); (try (have i_rwq := Imp.go rwq (by omega))); (try (have i_hop := Imp.go hop (by omega))); (try (have i_moa := Imp.go moa (by omega))); (try (have i_moa := Imp.go moa (by omega))); (try (have i_hop := Imp.go hop (by omega))); (try (have i_rwq := Imp.go rwq (by omega))); (try (have i_bc := Imp.go bc (by omega))); (try (have i_sf := Imp.go sf (by omega))); (try (have i_op8 := Imp.go op8 (by omega))); (try (have i_hz17 := Imp.go hz17 (by omega))); omega)) af130 (by first | omega | ((try (have i_hz17 := Imp.go hz17 (by omega))); (try (have i_op8 := Imp.go op8 (by omega))); (try (have i_sf := Imp.go sf (by omega))); (try (have i_bc := Imp.go bc (by omega))); (try (have i_rwq := Imp.go rwq (by omega))); (try (have i_hop := Imp.go hop (by omega))); (try (have i_moa := Imp.go moa (by omega))); (try (have i_moa := Imp.go moa (by omega))); (try (have i_hop := Imp.go hop (by omega))); (try (have i_rwq := Imp.go rwq (by omega))); (try (have i_bc := Imp.go bc (by omega))); (try (have i_sf := Imp.go sf (by omega))); (try (have i_op8 := Imp.go op8 (by omega))); (try (have i_hz17 := Imp.go hz17 (by omega))); omega)) (fun hph => absurd hph (by omega)))
          have o9 : opf gB.1 at9.toNat = 11 := ((enO_i ⟨opf gB.1 at9.toNat, op9⟩).2.2.2.2.2.2.2.2.2.2.2.1).mp (show enO (opf gB.1 at9.toNat) = 11 from c48.symm.trans (by omega))
          have p84 : psz (opf gB.1) (at9.toNat + 1) = psz (opf gB.1) at9.toNat + 2 := psz_2 (show opf gB.1 at9.toNat = 2 ∨ (10 ≤ opf gB.1 at9.toNat ∧ opf gB.1 at9.toNat ≤ 14) from by omega)
          have pw9 : psz (opf gB.1) (at9.toNat + 1) ≤ wl gB.1 := psz_le hi9
          have c42 : (V 42 b).toInt = ((wl gB.1 : Nat) : Int) := bc.1.1
          exact W.zret (v := 1) hx hb hr rfl (fun t ht hW => ⟨⟨1, (V83, L), rfl, ⟨hMV83, agV83, rfl, (by decide), (Imp.mk (fun _ => mo129)), (Imp.mk (fun hp => absurd hp (by decide))), (Imp.mk (fun _ => (show (V83 5 6).toInt = (V 5 6).toInt ∧ (V83 67 gf).toInt = 4 ∧ (V83 68 gf).toInt = 0 from by first | omega | ((try (have i_hz17 := Imp.go hz17 (by omega))); (try (have i_op8 := Imp.go op8 (by omega))); (try (have i_sf := Imp.go sf (by omega))); (try (have i_bc := Imp.go bc (by omega))); (try (have i_rwq := Imp.go rwq (by omega))); (try (have i_hop := Imp.go hop (by omega))); (try (have i_moa := Imp.go moa (by omega))); (try (have i_moa := Imp.go moa (by omega))); (try (have i_hop := Imp.go hop (by omega))); (try (have i_rwq := Imp.go rwq (by omega))); (try (have i_bc := Imp.go bc (by omega))); (try (have i_sf := Imp.go sf (by omega))); (try (have i_op8 := Imp.go op8 (by omega))); (try (have i_hz17 := Imp.go hz17 (by omega))); omega)))), (by exfalso; omega)⟩, by rw [ht]; exact hP, va_K.moved hW.alike hK, hD⟩, hS.F ht⟩) hS.2.2 dX5_worksWith_97
      have gq75 : p1.toInt ≠ 11 := b_neq rfl (by decide) q75
      by_cases q132 : p1 = 12
      · refine g_top (v := 12) q132 ?_
        have fq132 : p1.toInt = 12 := b_eq rfl (by decide) q132
        refine lv_tableIn (x := 12) (off := 84) (tgt := 126) hx hb dX5_worksWith_42 (by decide) (by decide) (by decide) (by decide) ?_
        refine lv_aload_n hx hb dX5_worksWith_126 rfl (lv_at hl 1 rfl) ?_
        refine lv_iconst (v := 0) hx hb dX5_worksWith_127 (by decide) ?_
        refine lv_iload_n hx hb dX5_worksWith_128 rfl (lv_at hl 0 rfl) ?_
        have r133 : Int32.toInt 0 = 0 := by decide
        refine gA_void (gA_runV (As := [.int 0, .int 0]) (rest := []) (ci := 5) (q0 := 5) hx hb hml hown hg hP hD hK hS hA hnw hgk (x_failWith9 l D ks H.size ad kk V18 L Z 0 0 hMV18 ) w1261 w1263 w46 w171 w1264 rfl xgMachine hdV_yX5_failWith ⟨Nat.le_of_ble_eq_true rfl, Nat.le_of_ble_eq_true rfl⟩ rfl hl.1 rfl (Nat.le_of_ble_eq_true rfl) dX5_worksWith_129 ⟨Nat.le_of_ble_eq_true rfl, Nat.le_of_ble_eq_true rfl⟩) hP hD hK hS hA (fun u135 H locs w136 hP hD hK hS => ?_)
        obtain ⟨V139, L140⟩ := u135
        obtain ⟨hMV139, ajV139, axL140, t137, t138⟩ := w136
        have axL140 : L = L140 := Eq.symm axL140
        subst axL140
        replace hP : va_P D vwCl (xw ad kk V139 L Z) H := hP
        replace hD : va_D A (xw ad kk V139 L Z) := hD
        replace hMV139 : rgd bX V139 := hMV139
        replace ajV139 : agr [(5, 9), (5, 11), (5, 12)] [] V18 V139 := ajV139
        have agV139 : agr [(5, 6), (5, 7), (5, 9), (5, 11), (5, 12)] [39, 68, 75, 77, 78, 84] V V139 := agV18.tr ajV139 (by decide) (by decide)
        replace t137 : (V139 5 9).toInt = 2 := t137
        replace t138 : ((True) ∧ V139 = (up2 (up2 (up2 V18 5 9 2) 5 11 0) 5 12 0)) := t138
        have r141 : 0 ≤ ((V139 5 9)).toInt ∧ ((V139 5 9)).toInt ≤ 3 := hMV139 5 9
        have hw142 := t138.2
        obtain ⟨V143, hV143⟩ : ∃ z, z = up2 V18 5 9 2 := ⟨_, rfl⟩
        obtain ⟨V144, hV144⟩ : ∃ z, z = up2 V143 5 11 0 := ⟨_, rfl⟩
        have hV139 : V139 = up2 V144 5 12 0 := by rw [hw142, hV144, hV143]
        refine lv_aload_n hx hb dX5_worksWith_132 rfl (lv_at hl 1 rfl) ?_
        refine lv_aload_n hx hb dX5_worksWith_133 rfl (lv_at hl 2 rfl) ?_
        have pq145 : (V139 5 6).toInt = ((V 5 6)).toInt := congrArg Int32.toInt ((up2_k hV139 (by decide)).trans ((up2_k hV144 (by decide)).trans ((up2_k hV143 (by decide)).trans (up2_o hV18 (by decide)))))
        have pq146 : (V139 67 gf).toInt = ((V 67 gf)).toInt := congrArg Int32.toInt ((up2_o hV139 (by decide)).trans ((up2_o hV144 (by decide)).trans ((up2_o hV143 (by decide)).trans (up2_o hV18 (by decide)))))
        have me147 : ME Va V139 gf := (ME.up (ME.up (ME.up (ME.up mV hV18 (Or.inl ⟨by decide, by decide, Nat.le_refl _⟩)) hV143 (Or.inr (by omega))) hV144 (Or.inr (by omega))) hV139 (Or.inr (by omega)))
        have pq148 : (V139 68 gf).toInt = ((V 68 gf)).toInt := congrArg Int32.toInt ((up2_o hV139 (by decide)).trans ((up2_o hV144 (by decide)).trans ((up2_o hV143 (by decide)).trans (up2_o hV18 (by decide)))))
        have pq149 : (V139 70 gf).toInt = ((V 70 gf)).toInt := congrArg Int32.toInt ((up2_o hV139 (by decide)).trans ((up2_o hV144 (by decide)).trans ((up2_o hV143 (by decide)).trans (up2_o hV18 (by decide)))))
        have pq150 : (V139 71 gf).toInt = ((V 71 gf)).toInt := congrArg Int32.toInt ((up2_o hV139 (by decide)).trans ((up2_o hV144 (by decide)).trans ((up2_o hV143 (by decide)).trans (up2_o hV18 (by decide)))))
        have pq151 : (V139 75 gf).toInt = ((V 75 gf)).toInt := congrArg Int32.toInt ((up2_o hV139 (by decide)).trans ((up2_o hV144 (by decide)).trans ((up2_o hV143 (by decide)).trans (up2_o hV18 (by decide)))))
        have pq152 : (V139 76 gf).toInt = ((V 76 gf)).toInt := congrArg Int32.toInt ((up2_o hV139 (by decide)).trans ((up2_o hV144 (by decide)).trans ((up2_o hV143 (by decide)).trans (up2_o hV18 (by decide)))))
        have pq153 : (V139 80 gf).toInt = ((V 80 gf)).toInt := congrArg Int32.toInt ((up2_o hV139 (by decide)).trans ((up2_o hV144 (by decide)).trans ((up2_o hV143 (by decide)).trans (up2_o hV18 (by decide)))))
        have pq154 : (V139 84 gf).toInt = z17.toInt := congrArg Int32.toInt ((up2_o hV139 (by decide)).trans ((up2_o hV144 (by decide)).trans ((up2_o hV143 (by decide)).trans (up2_s hV18))))
        have pq155 : (V139 5 8).toInt = ((V 5 8)).toInt := congrArg Int32.toInt ((up2_k hV139 (by decide)).trans ((up2_k hV144 (by decide)).trans ((up2_k hV143 (by decide)).trans (up2_o hV18 (by decide)))))
        have pq156 : (V139 5 9).toInt = 2 := (congrArg Int32.toInt ((up2_k hV139 (by decide)).trans ((up2_k hV144 (by decide)).trans (up2_s hV143)))).trans (by decide)
        have pq157 : (V139 3 13).toInt = ((V 3 13)).toInt := congrArg Int32.toInt ((up2_o hV139 (by decide)).trans ((up2_o hV144 (by decide)).trans ((up2_o hV143 (by decide)).trans (up2_o hV18 (by decide)))))
        have pq158 : (V139 43 (5 * b + 2)).toInt = ((V 43 (5 * b + 2))).toInt := congrArg Int32.toInt ((up2_o hV139 (by decide)).trans ((up2_o hV144 (by decide)).trans ((up2_o hV143 (by decide)).trans (up2_o hV18 (by decide)))))
        have pq159 : (V139 42 b).toInt = ((V 42 b)).toInt := congrArg Int32.toInt ((up2_o hV139 (by decide)).trans ((up2_o hV144 (by decide)).trans ((up2_o hV143 (by decide)).trans (up2_o hV18 (by decide)))))
        have pq160 : (V139 41 b).toInt = ((V 41 b)).toInt := congrArg Int32.toInt ((up2_o hV139 (by decide)).trans ((up2_o hV144 (by decide)).trans ((up2_o hV143 (by decide)).trans (up2_o hV18 (by decide)))))
        have me163 : ME V V139 0 := (ME.up (ME.up (ME.up (ME.up ME.rf hV18 (Or.inl ⟨by decide, by decide, by first | omega | ((try (have i_hz17 := Imp.go hz17 (by omega))); (try (have i_op8 := Imp.go op8 (by omega))); (try (have i_sf := Imp.go sf (by omega))); (try (have i_bc := Imp.go bc (by omega))); (try (have i_rwq := Imp.go rwq (by omega))); (try (have i_hop := Imp.go hop (by omega))); (try (have i_moa := Imp.go moa (by omega))); (try (have i_moa := Imp.go moa (by omega))); (try (have i_hop := Imp.go hop (by omega))); (try (have i_rwq := Imp.go rwq (by omega))); (try (have i_bc := Imp.go bc (by omega))); (try (have i_sf := Imp.go sf (by omega))); (try (have i_op8 := Imp.go op8 (by omega))); (try (have i_hz17 := Imp.go hz17 (by omega))); omega)⟩)) hV143 (Or.inr (by omega))) hV144 (Or.inr (by omega))) hV139 (Or.inr (by omega)))
        have ep164 : V139 84 gf = z17 := ((up2_o hV139 (by decide)).trans ((up2_o hV144 (by decide)).trans ((up2_o hV143 (by decide)).trans (up2_s hV18))))
        have af162 : (V139 42 b).toInt ≤ (V139 84 gf).toInt ∨ (bdp V139 b (V139 84 gf).toInt.toNat).1 = true := by rw [ep164, me163.1.bd, me163.1 42 b (by decide) (by decide)]; exact atn
        have mo161 : MO V139 Z b gf True False True := MO.ch mo me147 ((up2_o hV139 (by decide)).trans ((up2_o hV144 (by decide)).trans ((up2_o hV143 (by decide)).trans ((up2_o hV18 (by decide)).trans ea67.symm)))) ((up2_o hV139 (by decide)).trans ((up2_o hV144 (by decide)).trans ((up2_o hV143 (by decide)).trans ((up2_o hV18 (by decide)).trans ea80.symm)))) (fun _ => Or.inl (by omega)) (fun x h => FK.k4 (by first | omega | ((try (have i_hz17 := Imp.go hz17 (by omega))); (try (have i_op8 := Imp.go op8 (by omega))); (try (have i_sf := Imp.go sf (by omega))); (try (have i_bc := Imp.go bc (by omega))); (try (have i_rwq := Imp.go rwq (by omega))); (try (have i_hop := Imp.go hop (by omega))); (try (have i_moa := Imp.go moa (by omega))); (try (have i_moa := Imp.go moa (by omega))); (try (have i_hop := Imp.go hop (by omega))); (try (have i_rwq := Imp.go rwq (by omega))); (try (have i_bc := Imp.go bc (by omega))); (try (have i_sf := Imp.go sf (by omega))); (try (have i_op8 := Imp.go op8 (by omega))); (try (have i_hz17 := Imp.go hz17 (by omega))); omega)) (by first | omega | ((try (have i_hz17 := Imp.go hz17 (by omega))); (try (have i_op8 := Imp.go op8 (by omega))); (try (have i_sf := Imp.go sf (by omega))); (try (have i_bc := Imp.go bc (by omega))); (try (have i_rwq := Imp.go rwq (by omega))); (try (have i_hop := Imp.go hop (by omega))); (try (have i_moa := Imp.go moa (by omega))); (try (have i_moa := Imp.go moa (by omega))); (try (have i_hop := Imp.go hop (by omega))); (try (have i_rwq := Imp.go rwq (by omega))); (try (have i_bc := Imp.go bc (by omega))); (try (have i_sf := Imp.go sf (by omega))); (try (have i_op8 := Imp.go op8 (by omega))); (try (have i_hz17 := Imp.go hz17 (by omega))); omega)) (by first | omega | ((try (have i_hz17 := Imp.go hz17 (by omega))); (try (have i_op8 := Imp.go op8 (by omega))); (try (have i_sf := Imp.go sf (by omega))); (try (have i_bc := Imp.go bc (by omega))); (try (have i_rwq := Imp.go rwq (by omega))); (try (have i_hop := Imp.go hop (by omega))); (try (have i_moa := Imp.go moa (by omega))); (try (have i_moa := Imp.go moa (by omega))); (try (have i_hop := Imp.go hop (by omega))); (try (have i_rwq := Imp.go rwq (by omega))); (try (have i_bc := Imp.go bc (by omega))); (try (have i_sf := Imp.go sf (by omega))); (try (have i_op8 := Imp.go op8 (by omega))); (try (have i_hz17 := Imp.go hz17 (by omega))); omega)) af162 (by first | omega | ((try (have i_hz17 := Imp.go hz17 (by omega))); (try (have i_op8 := Imp.go op8 (by omega))); (try (have i_sf := Imp.go sf (by omega))); (try (have i_bc := Imp.go bc (by omega))); (try (have i_rwq := Imp.go rwq (by omega))); (try (have i_hop := Imp.go hop (by omega))); (try (have i_moa := Imp.go moa (by omega))); (try (have i_moa := Imp.go moa (by omega))); (try (have i_hop := Imp.go hop (by omega))); (try (have i_rwq := Imp.go rwq (by omega))); (try (have i_bc := Imp.go bc (by omega))); (try (have i_sf := Imp.go sf (by omega))); (try (have i_op8 := Imp.go op8 (by omega))); (try (have i_hz17 := Imp.go hz17 (by omega))); omega)) (fun _ z => z.elim))
        refine gA_void (gA_runV (As := [.ref (Z.fa gf)]) (rest := []) (ci := 5) (q0 := 5) hx hb hml hown hg hP hD hK hS hA hnw hgk (x_endWork9 l D ks H.size ad kk V139 L Z (b) (gf) hMV139 (show b < 2 from by first | omega | ((try (have i_hz17 := Imp.go hz17 (by omega))); (try (have i_op8 := Imp.go op8 (by omega))); (try (have i_sf := Imp.go sf (by omega))); (try (have i_bc := Imp.go bc (by omega))); (try (have i_rwq := Imp.go rwq (by omega))); (try (have i_hop := Imp.go hop (by omega))); (try (have i_moa := Imp.go moa (by omega))); (try (have i_moa := Imp.go moa (by omega))); (try (have i_hop := Imp.go hop (by omega))); (try (have i_rwq := Imp.go rwq (by omega))); (try (have i_bc := Imp.go bc (by omega))); (try (have i_sf := Imp.go sf (by omega))); (try (have i_op8 := Imp.go op8 (by omega))); (try (have i_hz17 := Imp.go hz17 (by omega))); omega)) (show gf < Z.nf from by first | omega | ((try (have i_hz17 := Imp.go hz17 (by omega))); (try (have i_op8 := Imp.go op8 (by omega))); (try (have i_sf := Imp.go sf (by omega))); (try (have i_bc := Imp.go bc (by omega))); (try (have i_rwq := Imp.go rwq (by omega))); (try (have i_hop := Imp.go hop (by omega))); (try (have i_moa := Imp.go moa (by omega))); (try (have i_moa := Imp.go moa (by omega))); (try (have i_hop := Imp.go hop (by omega))); (try (have i_rwq := Imp.go rwq (by omega))); (try (have i_bc := Imp.go bc (by omega))); (try (have i_sf := Imp.go sf (by omega))); (try (have i_op8 := Imp.go op8 (by omega))); (try (have i_hz17 := Imp.go hz17 (by omega))); omega)) mo161 (show (gf : Int) + 1 = (V139 5 6).toInt from by first | omega | ((try (have i_hz17 := Imp.go hz17 (by omega))); (try (have i_op8 := Imp.go op8 (by omega))); (try (have i_sf := Imp.go sf (by omega))); (try (have i_bc := Imp.go bc (by omega))); (try (have i_rwq := Imp.go rwq (by omega))); (try (have i_hop := Imp.go hop (by omega))); (try (have i_moa := Imp.go moa (by omega))); (try (have i_moa := Imp.go moa (by omega))); (try (have i_hop := Imp.go hop (by omega))); (try (have i_rwq := Imp.go rwq (by omega))); (try (have i_bc := Imp.go bc (by omega))); (try (have i_sf := Imp.go sf (by omega))); (try (have i_op8 := Imp.go op8 (by omega))); (try (have i_hz17 := Imp.go hz17 (by omega))); omega)) (show (V139 67 gf).toInt = 4 from by first | omega | ((try (have i_hz17 := Imp.go hz17 (by omega))); (try (have i_op8 := Imp.go op8 (by omega))); (try (have i_sf := Imp.go sf (by omega))); (try (have i_bc := Imp.go bc (by omega))); (try (have i_rwq := Imp.go rwq (by omega))); (try (have i_hop := Imp.go hop (by omega))); (try (have i_moa := Imp.go moa (by omega))); (try (have i_moa := Imp.go moa (by omega))); (try (have i_hop := Imp.go hop (by omega))); (try (have i_rwq := Imp.go rwq (by omega))); (try (have i_bc := Imp.go bc (by omega))); (try (have i_sf := Imp.go sf (by omega))); (try (have i_op8 := Imp.go op8 (by omega))); (try (have i_hz17 := Imp.go hz17 (by omega))); omega))) w1458 w1460 w70 w171 w1461 rfl xgMachine hdV_yX5_endWork ⟨Nat.le_of_ble_eq_true rfl, Nat.le_of_ble_eq_true rfl⟩ rfl hl.1 rfl (Nat.le_of_ble_eq_true rfl) dX5_worksWith_134 ⟨Nat.le_of_ble_eq_true rfl, Nat.le_of_ble_eq_true rfl⟩) hP hD hK hS hA (fun u166 H locs w167 hP hD hK hS => ?_)
        obtain ⟨V170, L171⟩ := u166
        obtain ⟨hMV170, ajV170, axL171, t168, t169⟩ := w167
        have axL171 : L = L171 := Eq.symm axL171
        subst axL171
        replace hP : va_P D vwCl (xw ad kk V170 L Z) H := hP
        replace hD : va_D A (xw ad kk V170 L Z) := hD
        replace hMV170 : rgd bX V170 := hMV170
        replace ajV170 : agr [(5, 6), (5, 7)] [] V139 V170 := ajV170
        have agV170 : agr [(5, 6), (5, 7), (5, 9), (5, 11), (5, 12)] [39, 68, 75, 77, 78, 84] V V170 := agV139.tr ajV170 (by decide) (by decide)
        replace t168 : MJ V170 Z b := t168
        replace t169 : ((True) ∧ V170 = (up2 (up2 V139 5 7 (V139 85 gf)) 5 6 (V139 5 6 - 1))) := t169
        have hw172 := t169.2
        have qv173 : V139 85 gf = (V 85 gf) := ((up2_o hV139 (by decide)).trans ((up2_o hV144 (by decide)).trans ((up2_o hV143 (by decide)).trans (up2_o hV18 (by decide)))))
        obtain ⟨V174, hV174⟩ : ∃ z, z = up2 V139 5 7 (V 85 gf) := ⟨_, rfl⟩
        obtain ⟨z175, ez175⟩ : ∃ y : Int32, y = V139 5 6 - 1 := ⟨_, rfl⟩
        have hz175 : z175.toInt = (V139 5 6).toInt - 1 := i_sub ez175 rfl (by decide) (by first | omega | ((try (have i_hz17 := Imp.go hz17 (by omega))); (try (have i_op8 := Imp.go op8 (by omega))); (try (have i_sf := Imp.go sf (by omega))); (try (have i_bc := Imp.go bc (by omega))); (try (have i_rwq := Imp.go rwq (by omega))); (try (have i_hop := Imp.go hop (by omega))); (try (have i_moa := Imp.go moa (by omega))); (try (have i_moa := Imp.go moa (by omega))); (try (have i_hop := Imp.go hop (by omega))); (try (have i_rwq := Imp.go rwq (by omega))); (try (have i_bc := Imp.go bc (by omega))); (try (have i_sf := Imp.go sf (by omega))); (try (have i_op8 := Imp.go op8 (by omega))); (try (have i_hz17 := Imp.go hz17 (by omega))); omega))
        have hV170 : V170 = up2 V174 5 6 z175 := by rw [hw172, hV174, qv173, ez175]
        refine lv_iconst (v := 0) hx hb dX5_worksWith_137 (by decide) ?_
        have pq176 : (V170 5 6).toInt = z175.toInt := congrArg Int32.toInt (up2_s hV170)
        have pq177 : (V170 67 gf).toInt = ((V 67 gf)).toInt := congrArg Int32.toInt ((up2_o hV170 (by decide)).trans ((up2_o hV174 (by decide)).trans ((up2_o hV139 (by decide)).trans ((up2_o hV144 (by decide)).trans ((up2_o hV143 (by decide)).trans (up2_o hV18 (by decide)))))))
        have pq178 : (V170 68 gf).toInt = ((V 68 gf)).toInt := congrArg Int32.toInt ((up2_o hV170 (by decide)).trans ((up2_o hV174 (by decide)).trans ((up2_o hV139 (by decide)).trans ((up2_o hV144 (by decide)).trans ((up2_o hV143 (by decide)).trans (up2_o hV18 (by decide)))))))
        have o9 : opf gB.1 at9.toNat = 10 := ((enO_i ⟨opf gB.1 at9.toNat, op9⟩).2.2.2.2.2.2.2.2.2.2.2.2.1).mp (show enO (opf gB.1 at9.toNat) = 12 from c48.symm.trans (by omega))
        have p84 : psz (opf gB.1) (at9.toNat + 1) = psz (opf gB.1) at9.toNat + 2 := psz_2 (show opf gB.1 at9.toNat = 2 ∨ (10 ≤ opf gB.1 at9.toNat ∧ opf gB.1 at9.toNat ≤ 14) from by omega)
        have pw9 : psz (opf gB.1) (at9.toNat + 1) ≤ wl gB.1 := psz_le hi9
        have c42 : (V 42 b).toInt = ((wl gB.1 : Nat) : Int) := bc.1.1
        exact W.zret (v := 0) hx hb hr rfl (fun t ht hW => ⟨⟨0, (V170, L), rfl, ⟨hMV170, agV170, rfl, (by decide), (Imp.mk (fun hp => absurd hp (by decide))), (Imp.mk (fun _ => t168)), (Imp.mk (fun hp => absurd hp (by decide))), (by exfalso; omega)⟩, by rw [ht]; exact hP, va_K.moved hW.alike hK, hD⟩, hS.F ht⟩) hS.2.2 dX5_worksWith_138
      have gq132 : p1.toInt ≠ 12 := b_neq rfl (by decide) q132
      by_cases q179 : p1 = 13
      · refine g_top (v := 13) q179 ?_
        have fq179 : p1.toInt = 13 := b_eq rfl (by decide) q179
        refine lv_tableIn (x := 13) (off := 63) (tgt := 105) hx hb dX5_worksWith_42 (by decide) (by decide) (by decide) (by decide) ?_
        refine lv_aload_n hx hb dX5_worksWith_105 rfl (lv_at hl 2 rfl) ?_
        refine lv_aload_n hx hb dX5_worksWith_106 rfl (lv_at hl 1 rfl) ?_
        refine gA_int (gA_runV (As := []) (rest := [.ref (Z.fa gf)]) (ci := 5) (q0 := 5) hx hb hml hown hg hP hD hK hS hA hnw hgk (x_pull9 l D ks H.size ad kk V18 L Z  hMV18 ) w1482 w1484 w76 w171 w1485 rfl xgMachine hdV_yX5_pull ⟨Nat.le_of_ble_eq_true rfl, Nat.le_of_ble_eq_true rfl⟩ rfl hl.1 rfl (Nat.le_of_ble_eq_true rfl) dX5_worksWith_107 ⟨Nat.le_of_ble_eq_true rfl, Nat.le_of_ble_eq_true rfl⟩) hP hD hK hS hA (fun z180 u181 H locs w182 hP hD hK hS => ?_)
        obtain ⟨V184, L185⟩ := u181
        obtain ⟨hMV184, ajV184, axL185, t183⟩ := w182
        have axL185 : L = L185 := Eq.symm axL185
        subst axL185
        replace hP : va_P D vwCl (xw ad kk V184 L Z) H := hP
        replace hD : va_D A (xw ad kk V184 L Z) := hD
        replace hMV184 : rgd bX V184 := hMV184
        replace ajV184 : agr [(5, 7)] [] V18 V184 := ajV184
        have agV184 : agr [(5, 6), (5, 7), (5, 9), (5, 11), (5, 12)] [39, 68, 75, 77, 78, 84] V V184 := agV18.tr ajV184 (by decide) (by decide)
        replace t183 : ((0 < (V18 5 7).toInt ∧ z180 = V18 39 (Int32.toNatClampNeg (V18 5 7 - 1))) ∧ V184 = (up2 V18 5 7 (V18 5 7 - 1))) ∨ (((V18 5 7).toInt ≤ 0 ∧ z180 = 0) ∧ V184 = V18) := t183
        rcases t183 with ⟨hc186, hw187⟩ | ⟨hc188, hw189⟩
        · skip
          have pq191 : (V18 5 7).toInt = ((V 5 7)).toInt := congrArg Int32.toInt (up2_o hV18 (by decide))
          have r192 : 0 ≤ ((V 5 7)).toInt ∧ ((V 5 7)).toInt ≤ 2048 := hMV 5 7
          obtain ⟨z190, ez190⟩ : ∃ y : Int32, y = V18 5 7 - 1 := ⟨_, rfl⟩
          have hz190 : z190.toInt = (V18 5 7).toInt - 1 := i_sub ez190 rfl (by decide) (by first | omega | ((try (have i_hz17 := Imp.go hz17 (by omega))); (try (have i_op8 := Imp.go op8 (by omega))); (try (have i_sf := Imp.go sf (by omega))); (try (have i_bc := Imp.go bc (by omega))); (try (have i_rwq := Imp.go rwq (by omega))); (try (have i_hop := Imp.go hop (by omega))); (try (have i_moa := Imp.go moa (by omega))); (try (have i_moa := Imp.go moa (by omega))); (try (have i_hop := Imp.go hop (by omega))); (try (have i_rwq := Imp.go rwq (by omega))); (try (have i_bc := Imp.go bc (by omega))); (try (have i_sf := Imp.go sf (by omega))); (try (have i_op8 := Imp.go op8 (by omega))); (try (have i_hz17 := Imp.go hz17 (by omega))); omega))
          have hV184 : V184 = up2 V18 5 7 z190 := by rw [hw187, ez190]
          refine lv_if_ne (tgt := 117) hx hb dX5_worksWith_110 (by decide) (fun c193 => ?_) (fun c193 => ?_)
          · skip
            have f194 : z180.toInt ≠ 0 := b_neq rfl (by decide) c193
            refine lv_aload_n hx hb dX5_worksWith_117 rfl (lv_at hl 2 rfl) ?_
            refine va_getN (D := D) (ci := 4) (v := .int (V184 84 gf)) (fs := (xfFrame V184 gf)) (C := RX4) (T := TX4) (N := 19) hx hb hg inX4 hown hK hP (336 + gf) (xgFrame hgf) rfl 17 (by decide) (hnw.use 1206 n1206 rfl) (fun _ h9 => h9) rfl dX5_worksWith_118 ?_
            refine g_top (v := z17) ((up2_o hV184 (by decide)).trans (up2_s hV18)) ?_
            refine va_putN (D := D) (ci := 4) (v := .int z17) (ty := tyX4 17) (fs := (xfFrame V184 gf)) (C := RX4) (T := TX4) (N := 19) hx hb hg inX4 tyX4 tyX4_ok nmX4 hown hK hP hD hS (336 + gf) (xgFrame hgf) rfl 17 (by decide) (hnw.use 1206 n1206 rfl) (fun _ h9 => h9) rfl (tyX4_ok 17 (by decide)) rfl rfl (Nat.le_of_ble_eq_true rfl) dX5_worksWith_121 (fun H locs hP hD hS => ?_)
            obtain ⟨V195, hV195⟩ : ∃ z, z = up2 V184 84 gf z17 := ⟨_, rfl⟩
            have ew196 : (xw ad kk V184 L Z).set (336 + gf) ((Z.fa gf), .inr (4, (xfFrame V184 gf).set 17 (.int z17))) = xw ad kk V195 L Z := by rw [hV195]; exact xpFrame_at hgf
            have hP : va_P D vwCl (xw ad kk V195 L Z) H := by rw [← ew196]; exact hP
            have hD : va_D A (xw ad kk V195 L Z) := by rw [← ew196]; exact hD
            have hMV195 : rgd bX V195 := hMV184.put hV195 (show 0 ≤ z17.toInt ∧ z17.toInt ≤ 2147483647 from by first | omega | ((try (have i_hz17 := Imp.go hz17 (by omega))); (try (have i_op8 := Imp.go op8 (by omega))); (try (have i_sf := Imp.go sf (by omega))); (try (have i_bc := Imp.go bc (by omega))); (try (have i_rwq := Imp.go rwq (by omega))); (try (have i_hop := Imp.go hop (by omega))); (try (have i_moa := Imp.go moa (by omega))); (try (have i_moa := Imp.go moa (by omega))); (try (have i_hop := Imp.go hop (by omega))); (try (have i_rwq := Imp.go rwq (by omega))); (try (have i_bc := Imp.go bc (by omega))); (try (have i_sf := Imp.go sf (by omega))); (try (have i_op8 := Imp.go op8 (by omega))); (try (have i_hz17 := Imp.go hz17 (by omega))); omega))
            have agV195 : agr [(5, 6), (5, 7), (5, 9), (5, 11), (5, 12)] [39, 68, 75, 77, 78, 84] V V195 := agV184.up hV195 rfl
            refine lv_iconst (v := 1) hx hb dX5_worksWith_124 (by decide) ?_
            have pq197 : (V195 5 6).toInt = ((V 5 6)).toInt := congrArg Int32.toInt ((up2_o hV195 (by decide)).trans ((up2_k hV184 (by decide)).trans (up2_o hV18 (by decide))))
            have pq198 : (V195 67 gf).toInt = ((V 67 gf)).toInt := congrArg Int32.toInt ((up2_o hV195 (by decide)).trans ((up2_o hV184 (by decide)).trans (up2_o hV18 (by decide))))
            have pq199 : (V195 68 gf).toInt = ((V 68 gf)).toInt := congrArg Int32.toInt ((up2_o hV195 (by decide)).trans ((up2_o hV184 (by decide)).trans (up2_o hV18 (by decide))))
            have me200 : ME Va V195 gf := (ME.up (ME.up (ME.up mV hV18 (Or.inl ⟨by decide, by decide, Nat.le_refl _⟩)) hV184 (Or.inr (by omega))) hV195 (Or.inl ⟨by decide, by decide, Nat.le_refl _⟩))
            have pq201 : (V195 70 gf).toInt = ((V 70 gf)).toInt := congrArg Int32.toInt ((up2_o hV195 (by decide)).trans ((up2_o hV184 (by decide)).trans (up2_o hV18 (by decide))))
            have pq202 : (V195 71 gf).toInt = ((V 71 gf)).toInt := congrArg Int32.toInt ((up2_o hV195 (by decide)).trans ((up2_o hV184 (by decide)).trans (up2_o hV18 (by decide))))
            have pq203 : (V195 75 gf).toInt = ((V 75 gf)).toInt := congrArg Int32.toInt ((up2_o hV195 (by decide)).trans ((up2_o hV184 (by decide)).trans (up2_o hV18 (by decide))))
            have pq204 : (V195 76 gf).toInt = ((V 76 gf)).toInt := congrArg Int32.toInt ((up2_o hV195 (by decide)).trans ((up2_o hV184 (by decide)).trans (up2_o hV18 (by decide))))
            have pq205 : (V195 80 gf).toInt = ((V 80 gf)).toInt := congrArg Int32.toInt ((up2_o hV195 (by decide)).trans ((up2_o hV184 (by decide)).trans (up2_o hV18 (by decide))))
            have pq206 : (V195 84 gf).toInt = z17.toInt := congrArg Int32.toInt (up2_s hV195)
            have pq207 : (V195 5 8).toInt = ((V 5 8)).toInt := congrArg Int32.toInt ((up2_o hV195 (by decide)).trans ((up2_k hV184 (by decide)).trans (up2_o hV18 (by decide))))
            have pq208 : (V195 5 9).toInt = ((V 5 9)).toInt := congrArg Int32.toInt ((up2_o hV195 (by decide)).trans ((up2_k hV184 (by decide)).trans (up2_o hV18 (by decide))))
            have pq209 : (V195 3 13).toInt = ((V 3 13)).toInt := congrArg Int32.toInt ((up2_o hV195 (by decide)).trans ((up2_o hV184 (by decide)).trans (up2_o hV18 (by decide))))
            have pq210 : (V195 43 (5 * b + 2)).toInt = ((V 43 (5 * b + 2))).toInt := congrArg Int32.toInt ((up2_o hV195 (by decide)).trans ((up2_o hV184 (by decide)).trans (up2_o hV18 (by decide))))
            have pq211 : (V195 42 b).toInt = ((V 42 b)).toInt := congrArg Int32.toInt ((up2_o hV195 (by decide)).trans ((up2_o hV184 (by decide)).trans (up2_o hV18 (by decide))))
            have pq212 : (V195 41 b).toInt = ((V 41 b)).toInt := congrArg Int32.toInt ((up2_o hV195 (by decide)).trans ((up2_o hV184 (by decide)).trans (up2_o hV18 (by decide))))
            have me215 : ME V V195 0 := (ME.up (ME.up (ME.up ME.rf hV18 (Or.inl ⟨by decide, by decide, by first | omega | ((try (have i_hz17 := Imp.go hz17 (by omega))); (try (have i_op8 := Imp.go op8 (by omega))); (try (have i_sf := Imp.go sf (by omega))); (try (have i_bc := Imp.go bc (by omega))); (try (have i_rwq := Imp.go rwq (by omega))); (try (have i_hop := Imp.go hop (by omega))); (try (have i_moa := Imp.go moa (by omega))); (try (have i_moa := Imp.go moa (by omega))); (try (have i_hop := Imp.go hop (by omega))); (try (have i_rwq := Imp.go rwq (by omega))); (try (have i_bc := Imp.go bc (by omega))); (try (have i_sf := Imp.go sf (by omega))); (try (have i_op8 := Imp.go op8 (by omega))); (try (have i_hz17 := Imp.go hz17 (by omega))); omega)⟩)) hV184 (Or.inr (by omega))) hV195 (Or.inl ⟨by decide, by decide, by first | omega | ((try (have i_hz17 := Imp.go hz17 (by omega))); (try (have i_op8 := Imp.go op8 (by omega))); (try (have i_sf := Imp.go sf (by omega))); (try (have i_bc := Imp.go bc (by omega))); (try (have i_rwq := Imp.go rwq (by omega))); (try (have i_hop := Imp.go hop (by omega))); (try (have i_moa := Imp.go moa (by omega))); (try (have i_moa := Imp.go moa (by omega))); (try (have i_hop := Imp.go hop (by omega))); (try (have i_rwq := Imp.go rwq (by omega))); (try (have i_bc := Imp.go bc (by omega))); (try (have i_sf := Imp.go sf (by omega))); (try (have i_op8 := Imp.go op8 (by omega))); (try (have i_hz17 := Imp.go hz17 (by omega))); omega)⟩))
            have af214 : (V195 42 b).toInt ≤ (V195 84 gf).toInt ∨ (bdp V195 b (V195 84 gf).toInt.toNat).1 = true := by rw [(up2_s hV195), me215.1.bd, me215.1 42 b (by decide) (by decide)]; exact atn
            have mo213 : MO V195 Z b gf True True True := MO.ch mo me200 ((up2_o hV195 (by decide)).trans ((up2_o hV184 (by decide)).trans ((up2_o hV18 (by decide)).trans ea67.symm))) ((up2_o hV195 (by decide)).trans ((up2_o hV184 (by decide)).trans ((up2_o hV18 (by decide)).trans ea80.symm))) (fun _ => Or.inl (by omega)) (fun x h => FK.k4 (by first | omega | ((try (have i_hz17 := Imp.go hz17 (by omega))); (try (have i_op8 := Imp.go op8 (by omega))); (try (have i_sf := Imp.go sf (by omega))); (try (have i_bc := Imp.go bc (by omega))); (try (have i_rwq := Imp.go rwq (by omega))); (try (have i_hop := Imp.go hop (by omega))); (try (have i_moa := Imp.go moa (by omega))); (try (have i_moa := Imp.go moa (by omega))); (try (have i_hop := Imp.go hop (by omega))); (try (have i_rwq := Imp.go rwq (by omega))); (try (have i_bc := Imp.go bc (by omega))); (try (have i_sf := Imp.go sf (by omega))); (try (have i_op8 := Imp.go op8 (by omega))); (try (have i_hz17 := Imp.go hz17 (by omega))); omega)) (by first | omega | ((try (have i_hz17 := Imp.go hz17 (by omega))); (try (have i_op8 := Imp.go op8 (by omega))); (try (have i_sf := Imp.go sf (by omega))); (try (have i_bc := Imp.go bc (by omega))); (try (have i_rwq := Imp.go rwq (by omega))); (try (have i_hop := Imp.go hop (by omega))); (try (have i_moa := Imp.go moa (by omega))); (try (have i_moa := Imp.go moa (by omega))); (try (have i_hop := Imp.go hop (by omega))); (try (have i_rwq := Imp.go rwq (by omega))); (try (have i_bc := Imp.go bc (by omega))); (try (have i_sf := Imp.go sf (by omega))); (try (have i_op8 := Imp.go op8 (by omega))); (try (have i_hz17 := Imp.go hz17 (by omega))); omega)) (by first | omega | ((try (have i_hz17 := Imp.go hz17 (by omega))); (try (have i_op8 := Imp.go op8 (by omega))); (try (have i_sf := Imp.go sf (by omega))); (try (have i_bc := Imp.go bc (by omega))); (try (have i_rwq := Imp.go rwq (by omega))); (try (have i_hop := Imp.go hop (by omega))); (try (have i_moa := Imp.go moa (by omega))); (try (have i_moa := Imp.go moa (by omega))); (try (have i_hop := Imp.go hop (by omega))); (try (have i_rwq := Imp.go rwq (by omega))); (try (have i_bc := Imp.go bc (by omega))); (try (have i_sf := Imp.go sf (by omega))); (try (have i_op8 := Imp.go op8 (by omega))); (try (have i_hz17 := Imp.go hz17 (by omega))); omega)) af214 (by first | omega | ((try (have i_hz17 := Imp.go hz17 (by omega))); (try (have i_op8 := Imp.go op8 (by omega))); (try (have i_sf := Imp.go sf (by omega))); (try (have i_bc := Imp.go bc (by omega))); (try (have i_rwq := Imp.go rwq (by omega))); (try (have i_hop := Imp.go hop (by omega))); (try (have i_moa := Imp.go moa (by omega))); (try (have i_moa := Imp.go moa (by omega))); (try (have i_hop := Imp.go hop (by omega))); (try (have i_rwq := Imp.go rwq (by omega))); (try (have i_bc := Imp.go bc (by omega))); (try (have i_sf := Imp.go sf (by omega))); (try (have i_op8 := Imp.go op8 (by omega))); (try (have i_hz17 := Imp.go hz17 (by omega))); omega)) (fun hph => absurd hph (by omega)))
            have o9 : opf gB.1 at9.toNat = 12 := ((enO_i ⟨opf gB.1 at9.toNat, op9⟩).2.2.2.2.2.2.2.2.2.2.2.2.2.1).mp (show enO (opf gB.1 at9.toNat) = 13 from c48.symm.trans (by omega))
            have p84 : psz (opf gB.1) (at9.toNat + 1) = psz (opf gB.1) at9.toNat + 2 := psz_2 (show opf gB.1 at9.toNat = 2 ∨ (10 ≤ opf gB.1 at9.toNat ∧ opf gB.1 at9.toNat ≤ 14) from by omega)
            have pw9 : psz (opf gB.1) (at9.toNat + 1) ≤ wl gB.1 := psz_le hi9
            have c42 : (V 42 b).toInt = ((wl gB.1 : Nat) : Int) := bc.1.1
            exact W.zret (v := 1) hx hb hr rfl (fun t ht hW => ⟨⟨1, (V195, L), rfl, ⟨hMV195, agV195, rfl, (by decide), (Imp.mk (fun _ => mo213)), (Imp.mk (fun hp => absurd hp (by decide))), (Imp.mk (fun _ => (show (V195 5 6).toInt = (V 5 6).toInt ∧ (V195 67 gf).toInt = 4 ∧ (V195 68 gf).toInt = 0 from by first | omega | ((try (have i_hz17 := Imp.go hz17 (by omega))); (try (have i_op8 := Imp.go op8 (by omega))); (try (have i_sf := Imp.go sf (by omega))); (try (have i_bc := Imp.go bc (by omega))); (try (have i_rwq := Imp.go rwq (by omega))); (try (have i_hop := Imp.go hop (by omega))); (try (have i_moa := Imp.go moa (by omega))); (try (have i_moa := Imp.go moa (by omega))); (try (have i_hop := Imp.go hop (by omega))); (try (have i_rwq := Imp.go rwq (by omega))); (try (have i_bc := Imp.go bc (by omega))); (try (have i_sf := Imp.go sf (by omega))); (try (have i_op8 := Imp.go op8 (by omega))); (try (have i_hz17 := Imp.go hz17 (by omega))); omega)))), (by exfalso; omega)⟩, by rw [ht]; exact hP, va_K.moved hW.alike hK, hD⟩, hS.F ht⟩) hS.2.2 dX5_worksWith_125
          · skip
            have f216 : z180.toInt = 0 := b_eq rfl (by decide) c193
            refine lv_iload_n hx hb dX5_worksWith_113 rfl (lv_at hl 0 rfl) ?_
            refine lv_goto (tgt := 121) hx hb dX5_worksWith_114 (by decide) ?_
            refine va_putN (D := D) (ci := 4) (v := .int 0) (ty := tyX4 17) (fs := (xfFrame V184 gf)) (C := RX4) (T := TX4) (N := 19) hx hb hg inX4 tyX4 tyX4_ok nmX4 hown hK hP hD hS (336 + gf) (xgFrame hgf) rfl 17 (by decide) (hnw.use 1206 n1206 rfl) (fun _ h9 => h9) rfl (tyX4_ok 17 (by decide)) rfl rfl (Nat.le_of_ble_eq_true rfl) dX5_worksWith_121 (fun H locs hP hD hS => ?_)
            obtain ⟨V217, hV217⟩ : ∃ z, z = up2 V184 84 gf 0 := ⟨_, rfl⟩
            have ew218 : (xw ad kk V184 L Z).set (336 + gf) ((Z.fa gf), .inr (4, (xfFrame V184 gf).set 17 (.int 0))) = xw ad kk V217 L Z := by rw [hV217]; exact xpFrame_at hgf
            have hP : va_P D vwCl (xw ad kk V217 L Z) H := by rw [← ew218]; exact hP
            have hD : va_D A (xw ad kk V217 L Z) := by rw [← ew218]; exact hD
            have hMV217 : rgd bX V217 := hMV184.put hV217 (show 0 ≤ Int32.toInt 0 ∧ Int32.toInt 0 ≤ 2147483647 from by decide)
            have agV217 : agr [(5, 6), (5, 7), (5, 9), (5, 11), (5, 12)] [39, 68, 75, 77, 78, 84] V V217 := agV184.up hV217 rfl
            refine lv_iconst (v := 1) hx hb dX5_worksWith_124 (by decide) ?_
            have pq219 : (V217 5 6).toInt = ((V 5 6)).toInt := congrArg Int32.toInt ((up2_o hV217 (by decide)).trans ((up2_k hV184 (by decide)).trans (up2_o hV18 (by decide))))
            have pq220 : (V217 67 gf).toInt = ((V 67 gf)).toInt := congrArg Int32.toInt ((up2_o hV217 (by decide)).trans ((up2_o hV184 (by decide)).trans (up2_o hV18 (by decide))))
            have pq221 : (V217 68 gf).toInt = ((V 68 gf)).toInt := congrArg Int32.toInt ((up2_o hV217 (by decide)).trans ((up2_o hV184 (by decide)).trans (up2_o hV18 (by decide))))
            have me222 : ME Va V217 gf := (ME.up (ME.up (ME.up mV hV18 (Or.inl ⟨by decide, by decide, Nat.le_refl _⟩)) hV184 (Or.inr (by omega))) hV217 (Or.inl ⟨by decide, by decide, Nat.le_refl _⟩))
            have pq223 : (V217 70 gf).toInt = ((V 70 gf)).toInt := congrArg Int32.toInt ((up2_o hV217 (by decide)).trans ((up2_o hV184 (by decide)).trans (up2_o hV18 (by decide))))
            have pq224 : (V217 71 gf).toInt = ((V 71 gf)).toInt := congrArg Int32.toInt ((up2_o hV217 (by decide)).trans ((up2_o hV184 (by decide)).trans (up2_o hV18 (by decide))))
            have pq225 : (V217 75 gf).toInt = ((V 75 gf)).toInt := congrArg Int32.toInt ((up2_o hV217 (by decide)).trans ((up2_o hV184 (by decide)).trans (up2_o hV18 (by decide))))
            have pq226 : (V217 76 gf).toInt = ((V 76 gf)).toInt := congrArg Int32.toInt ((up2_o hV217 (by decide)).trans ((up2_o hV184 (by decide)).trans (up2_o hV18 (by decide))))
            have pq227 : (V217 80 gf).toInt = ((V 80 gf)).toInt := congrArg Int32.toInt ((up2_o hV217 (by decide)).trans ((up2_o hV184 (by decide)).trans (up2_o hV18 (by decide))))
            have pq228 : (V217 84 gf).toInt = 0 := (congrArg Int32.toInt (up2_s hV217)).trans (by decide)
            have pq229 : (V217 5 8).toInt = ((V 5 8)).toInt := congrArg Int32.toInt ((up2_o hV217 (by decide)).trans ((up2_k hV184 (by decide)).trans (up2_o hV18 (by decide))))
            have pq230 : (V217 5 9).toInt = ((V 5 9)).toInt := congrArg Int32.toInt ((up2_o hV217 (by decide)).trans ((up2_k hV184 (by decide)).trans (up2_o hV18 (by decide))))
            have pq231 : (V217 3 13).toInt = ((V 3 13)).toInt := congrArg Int32.toInt ((up2_o hV217 (by decide)).trans ((up2_o hV184 (by decide)).trans (up2_o hV18 (by decide))))
            have pq232 : (V217 43 (5 * b + 2)).toInt = ((V 43 (5 * b + 2))).toInt := congrArg Int32.toInt ((up2_o hV217 (by decide)).trans ((up2_o hV184 (by decide)).trans (up2_o hV18 (by decide))))
            have pq233 : (V217 42 b).toInt = ((V 42 b)).toInt := congrArg Int32.toInt ((up2_o hV217 (by decide)).trans ((up2_o hV184 (by decide)).trans (up2_o hV18 (by decide))))
            have pq234 : (V217 41 b).toInt = ((V 41 b)).toInt := congrArg Int32.toInt ((up2_o hV217 (by decide)).trans ((up2_o hV184 (by decide)).trans (up2_o hV18 (by decide))))
            have me237 : ME V V217 0 := (ME.up (ME.up (ME.up ME.rf hV18 (Or.inl ⟨by decide, by decide, by first | omega | ((try (have i_hz17 := Imp.go hz17 (by omega))); (try (have i_op8 := Imp.go op8 (by omega))); (try (have i_sf := Imp.go sf (by omega))); (try (have i_bc := Imp.go bc (by omega))); (try (have i_rwq := Imp.go rwq (by omega))); (try (have i_hop := Imp.go hop (by omega))); (try (have i_moa := Imp.go moa (by omega))); (try (have i_moa := Imp.go moa (by omega))); (try (have i_hop := Imp.go hop (by omega))); (try (have i_rwq := Imp.go rwq (by omega))); (try (have i_bc := Imp.go bc (by omega))); (try (have i_sf := Imp.go sf (by omega))); (try (have i_op8 := Imp.go op8 (by omega))); (try (have i_hz17 := Imp.go hz17 (by omega))); omega)⟩)) hV184 (Or.inr (by omega))) hV217 (Or.inl ⟨by decide, by decide, by first | omega | ((try (have i_hz17 := Imp.go hz17 (by omega))); (try (have i_op8 := Imp.go op8 (by omega))); (try (have i_sf := Imp.go sf (by omega))); (try (have i_bc := Imp.go bc (by omega))); (try (have i_rwq := Imp.go rwq (by omega))); (try (have i_hop := Imp.go hop (by omega))); (try (have i_moa := Imp.go moa (by omega))); (try (have i_moa := Imp.go moa (by omega))); (try (have i_hop := Imp.go hop (by omega))); (try (have i_rwq := Imp.go rwq (by omega))); (try (have i_bc := Imp.go bc (by omega))); (try (have i_sf := Imp.go sf (by omega))); (try (have i_op8 := Imp.go op8 (by omega))); (try (have i_hz17 := Imp.go hz17 (by omega))); omega)⟩))
            have af236 : (V217 42 b).toInt ≤ (V217 84 gf).toInt ∨ (bdp V217 b (V217 84 gf).toInt.toNat).1 = true := by rw [(up2_s hV217), me237.1.bd, me237.1 42 b (by decide) (by decide)]; exact at0
            have mo235 : MO V217 Z b gf True True True := MO.ch mo me222 ((up2_o hV217 (by decide)).trans ((up2_o hV184 (by decide)).trans ((up2_o hV18 (by decide)).trans ea67.symm))) ((up2_o hV217 (by decide)).trans ((up2_o hV184 (by decide)).trans ((up2_o hV18 (by decide)).trans ea80.symm))) (fun _ => Or.inl (by omega)) (fun x h => FK.k4 (by first | omega | ((try (have i_hz17 := Imp.go hz17 (by omega))); (try (have i_op8 := Imp.go op8 (by omega))); (try (have i_sf := Imp.go sf (by omega))); (try (have i_bc := Imp.go bc (by omega))); (try (have i_rwq := Imp.go rwq (by omega))); (try (have i_hop := Imp.go hop (by omega))); (try (have i_moa := Imp.go moa (by omega))); (try (have i_moa := Imp.go moa (by omega))); (try (have i_hop := Imp.go hop (by omega))); (try (have i_rwq := Imp.go rwq (by omega))); (try (have i_bc := Imp.go bc (by omega))); (try (have i_sf := Imp.go sf (by omega))); (try (have i_op8 := Imp.go op8 (by omega))); (try (have i_hz17 := Imp.go hz17 (by omega))); omega)) (by first | omega | ((try (have i_hz17 := Imp.go hz17 (by omega))); (try (have i_op8 := Imp.go op8 (by omega))); (try (have i_sf := Imp.go sf (by omega))); (try (have i_bc := Imp.go bc (by omega))); (try (have i_rwq := Imp.go rwq (by omega))); (try (have i_hop := Imp.go hop (by omega))); (try (have i_moa := Imp.go moa (by omega))); (try (have i_moa := Imp.go moa (by omega))); (try (have i_hop := Imp.go hop (by omega))); (try (have i_rwq := Imp.go rwq (by omega))); (try (have i_bc := Imp.go bc (by omega))); (try (have i_sf := Imp.go sf (by omega))); (try (have i_op8 := Imp.go op8 (by omega))); (try (have i_hz17 := Imp.go hz17 (by omega))); omega)) (by first | omega | ((try (have i_hz17 := Imp.go hz17 (by omega))); (try (have i_op8 := Imp.go op8 (by omega))); (try (have i_sf := Imp.go sf (by omega))); (try (have i_bc := Imp.go bc (by omega))); (try (have i_rwq := Imp.go rwq (by omega))); (try (have i_hop := Imp.go hop (by omega))); (try (have i_moa := Imp.go moa (by omega))); (try (have i_moa := Imp.go moa (by omega))); (try (have i_hop := Imp.go hop (by omega))); (try (have i_rwq := Imp.go rwq (by omega))); (try (have i_bc := Imp.go bc (by omega))); (try (have i_sf := Imp.go sf (by omega))); (try (have i_op8 := Imp.go op8 (by omega))); (try (have i_hz17 := Imp.go hz17 (by omega))); omega)) af236 (by first | omega | ((try (have i_hz17 := Imp.go hz17 (by omega))); (try (have i_op8 := Imp.go op8 (by omega))); (try (have i_sf := Imp.go sf (by omega))); (try (have i_bc := Imp.go bc (by omega))); (try (have i_rwq := Imp.go rwq (by omega))); (try (have i_hop := Imp.go hop (by omega))); (try (have i_moa := Imp.go moa (by omega))); (try (have i_moa := Imp.go moa (by omega))); (try (have i_hop := Imp.go hop (by omega))); (try (have i_rwq := Imp.go rwq (by omega))); (try (have i_bc := Imp.go bc (by omega))); (try (have i_sf := Imp.go sf (by omega))); (try (have i_op8 := Imp.go op8 (by omega))); (try (have i_hz17 := Imp.go hz17 (by omega))); omega)) (fun hph => absurd hph (by omega)))
            have o9 : opf gB.1 at9.toNat = 12 := ((enO_i ⟨opf gB.1 at9.toNat, op9⟩).2.2.2.2.2.2.2.2.2.2.2.2.2.1).mp (show enO (opf gB.1 at9.toNat) = 13 from c48.symm.trans (by omega))
            have p84 : psz (opf gB.1) (at9.toNat + 1) = psz (opf gB.1) at9.toNat + 2 := psz_2 (show opf gB.1 at9.toNat = 2 ∨ (10 ≤ opf gB.1 at9.toNat ∧ opf gB.1 at9.toNat ≤ 14) from by omega)
            have pw9 : psz (opf gB.1) (at9.toNat + 1) ≤ wl gB.1 := psz_le hi9
            have c42 : (V 42 b).toInt = ((wl gB.1 : Nat) : Int) := bc.1.1
            exact W.zret (v := 1) hx hb hr rfl (fun t ht hW => ⟨⟨1, (V217, L), rfl, ⟨hMV217, agV217, rfl, (by decide), (Imp.mk (fun _ => mo235)), (Imp.mk (fun hp => absurd hp (by decide))), (Imp.mk (fun _ => (show (V217 5 6).toInt = (V 5 6).toInt ∧ (V217 67 gf).toInt = 4 ∧ (V217 68 gf).toInt = 0 from by first | omega | ((try (have i_hz17 := Imp.go hz17 (by omega))); (try (have i_op8 := Imp.go op8 (by omega))); (try (have i_sf := Imp.go sf (by omega))); (try (have i_bc := Imp.go bc (by omega))); (try (have i_rwq := Imp.go rwq (by omega))); (try (have i_hop := Imp.go hop (by omega))); (try (have i_moa := Imp.go moa (by omega))); (try (have i_moa := Imp.go moa (by omega))); (try (have i_hop := Imp.go hop (by omega))); (try (have i_rwq := Imp.go rwq (by omega))); (try (have i_bc := Imp.go bc (by omega))); (try (have i_sf := Imp.go sf (by omega))); (try (have i_op8 := Imp.go op8 (by omega))); (try (have i_hz17 := Imp.go hz17 (by omega))); omega)))), (by exfalso; omega)⟩, by rw [ht]; exact hP, va_K.moved hW.alike hK, hD⟩, hS.F ht⟩) hS.2.2 dX5_worksWith_125
        · skip
          have ajV184 : agr [] [] V18 V184 := by rw [hw189]; exact agr.rf
          refine lv_if_ne (tgt := 117) hx hb dX5_worksWith_110 (by decide) (fun c238 => ?_) (fun c238 => ?_)
          · skip
            have f239 : z180.toInt ≠ 0 := b_neq rfl (by decide) c238
            refine lv_aload_n hx hb dX5_worksWith_117 rfl (lv_at hl 2 rfl) ?_
            refine va_getN (D := D) (ci := 4) (v := .int (V184 84 gf)) (fs := (xfFrame V184 gf)) (C := RX4) (T := TX4) (N := 19) hx hb hg inX4 hown hK hP (336 + gf) (xgFrame hgf) rfl 17 (by decide) (hnw.use 1206 n1206 rfl) (fun _ h9 => h9) rfl dX5_worksWith_118 ?_
            refine g_top (v := z17) ((ajV184 84 gf rfl).trans (up2_s hV18)) ?_
            refine va_putN (D := D) (ci := 4) (v := .int z17) (ty := tyX4 17) (fs := (xfFrame V184 gf)) (C := RX4) (T := TX4) (N := 19) hx hb hg inX4 tyX4 tyX4_ok nmX4 hown hK hP hD hS (336 + gf) (xgFrame hgf) rfl 17 (by decide) (hnw.use 1206 n1206 rfl) (fun _ h9 => h9) rfl (tyX4_ok 17 (by decide)) rfl rfl (Nat.le_of_ble_eq_true rfl) dX5_worksWith_121 (fun H locs hP hD hS => ?_)
            obtain ⟨V240, hV240⟩ : ∃ z, z = up2 V184 84 gf z17 := ⟨_, rfl⟩
            have ew241 : (xw ad kk V184 L Z).set (336 + gf) ((Z.fa gf), .inr (4, (xfFrame V184 gf).set 17 (.int z17))) = xw ad kk V240 L Z := by rw [hV240]; exact xpFrame_at hgf
            have hP : va_P D vwCl (xw ad kk V240 L Z) H := by rw [← ew241]; exact hP
            have hD : va_D A (xw ad kk V240 L Z) := by rw [← ew241]; exact hD
            have hMV240 : rgd bX V240 := hMV184.put hV240 (show 0 ≤ z17.toInt ∧ z17.toInt ≤ 2147483647 from by first | omega | ((try (have i_hz17 := Imp.go hz17 (by omega))); (try (have i_op8 := Imp.go op8 (by omega))); (try (have i_sf := Imp.go sf (by omega))); (try (have i_bc := Imp.go bc (by omega))); (try (have i_rwq := Imp.go rwq (by omega))); (try (have i_hop := Imp.go hop (by omega))); (try (have i_moa := Imp.go moa (by omega))); (try (have i_moa := Imp.go moa (by omega))); (try (have i_hop := Imp.go hop (by omega))); (try (have i_rwq := Imp.go rwq (by omega))); (try (have i_bc := Imp.go bc (by omega))); (try (have i_sf := Imp.go sf (by omega))); (try (have i_op8 := Imp.go op8 (by omega))); (try (have i_hz17 := Imp.go hz17 (by omega))); omega))
            have agV240 : agr [(5, 6), (5, 7), (5, 9), (5, 11), (5, 12)] [39, 68, 75, 77, 78, 84] V V240 := agV184.up hV240 rfl
            refine lv_iconst (v := 1) hx hb dX5_worksWith_124 (by decide) ?_
            have pq242 : (V240 5 6).toInt = ((V 5 6)).toInt := congrArg Int32.toInt ((up2_o hV240 (by decide)).trans ((ajV184 5 6 rfl).trans (up2_o hV18 (by decide))))
            have pq243 : (V240 67 gf).toInt = ((V 67 gf)).toInt := congrArg Int32.toInt ((up2_o hV240 (by decide)).trans ((ajV184 67 gf rfl).trans (up2_o hV18 (by decide))))
            have pq244 : (V240 68 gf).toInt = ((V 68 gf)).toInt := congrArg Int32.toInt ((up2_o hV240 (by decide)).trans ((ajV184 68 gf rfl).trans (up2_o hV18 (by decide))))
            have me245 : ME Va V240 gf := (ME.up (ME.tr (ME.up mV hV18 (Or.inl ⟨by decide, by decide, Nat.le_refl _⟩)) (ME.ag ajV184 (by decide))) hV240 (Or.inl ⟨by decide, by decide, Nat.le_refl _⟩))
            have pq246 : (V240 70 gf).toInt = ((V 70 gf)).toInt := congrArg Int32.toInt ((up2_o hV240 (by decide)).trans ((ajV184 70 gf rfl).trans (up2_o hV18 (by decide))))
            have pq247 : (V240 71 gf).toInt = ((V 71 gf)).toInt := congrArg Int32.toInt ((up2_o hV240 (by decide)).trans ((ajV184 71 gf rfl).trans (up2_o hV18 (by decide))))
            have pq248 : (V240 75 gf).toInt = ((V 75 gf)).toInt := congrArg Int32.toInt ((up2_o hV240 (by decide)).trans ((ajV184 75 gf rfl).trans (up2_o hV18 (by decide))))
            have pq249 : (V240 76 gf).toInt = ((V 76 gf)).toInt := congrArg Int32.toInt ((up2_o hV240 (by decide)).trans ((ajV184 76 gf rfl).trans (up2_o hV18 (by decide))))
            have pq250 : (V240 80 gf).toInt = ((V 80 gf)).toInt := congrArg Int32.toInt ((up2_o hV240 (by decide)).trans ((ajV184 80 gf rfl).trans (up2_o hV18 (by decide))))
            have pq251 : (V240 84 gf).toInt = z17.toInt := congrArg Int32.toInt (up2_s hV240)
            have pq252 : (V240 5 8).toInt = ((V 5 8)).toInt := congrArg Int32.toInt ((up2_o hV240 (by decide)).trans ((ajV184 5 8 rfl).trans (up2_o hV18 (by decide))))
            have pq253 : (V240 5 9).toInt = ((V 5 9)).toInt := congrArg Int32.toInt ((up2_o hV240 (by decide)).trans ((ajV184 5 9 rfl).trans (up2_o hV18 (by decide))))
            have pq254 : (V240 3 13).toInt = ((V 3 13)).toInt := congrArg Int32.toInt ((up2_o hV240 (by decide)).trans ((ajV184 3 13 rfl).trans (up2_o hV18 (by decide))))
            have pq255 : (V240 43 (5 * b + 2)).toInt = ((V 43 (5 * b + 2))).toInt := congrArg Int32.toInt ((up2_o hV240 (by decide)).trans ((ajV184 43 (5 * b + 2) rfl).trans (up2_o hV18 (by decide))))
            have pq256 : (V240 42 b).toInt = ((V 42 b)).toInt := congrArg Int32.toInt ((up2_o hV240 (by decide)).trans ((ajV184 42 b rfl).trans (up2_o hV18 (by decide))))
            have pq257 : (V240 41 b).toInt = ((V 41 b)).toInt := congrArg Int32.toInt ((up2_o hV240 (by decide)).trans ((ajV184 41 b rfl).trans (up2_o hV18 (by decide))))
            have me260 : ME V V240 0 := (ME.up (ME.tr (ME.up ME.rf hV18 (Or.inl ⟨by decide, by decide, by first | omega | ((try (have i_hz17 := Imp.go hz17 (by omega))); (try (have i_op8 := Imp.go op8 (by omega))); (try (have i_sf := Imp.go sf (by omega))); (try (have i_bc := Imp.go bc (by omega))); (try (have i_rwq := Imp.go rwq (by omega))); (try (have i_hop := Imp.go hop (by omega))); (try (have i_moa := Imp.go moa (by omega))); (try (have i_moa := Imp.go moa (by omega))); (try (have i_hop := Imp.go hop (by omega))); (try (have i_rwq := Imp.go rwq (by omega))); (try (have i_bc := Imp.go bc (by omega))); (try (have i_sf := Imp.go sf (by omega))); (try (have i_op8 := Imp.go op8 (by omega))); (try (have i_hz17 := Imp.go hz17 (by omega))); omega)⟩)) (ME.ag ajV184 (by decide))) hV240 (Or.inl ⟨by decide, by decide, by first | omega | ((try (have i_hz17 := Imp.go hz17 (by omega))); (try (have i_op8 := Imp.go op8 (by omega))); (try (have i_sf := Imp.go sf (by omega))); (try (have i_bc := Imp.go bc (by omega))); (try (have i_rwq := Imp.go rwq (by omega))); (try (have i_hop := Imp.go hop (by omega))); (try (have i_moa := Imp.go moa (by omega))); (try (have i_moa := Imp.go moa (by omega))); (try (have i_hop := Imp.go hop (by omega))); (try (have i_rwq := Imp.go rwq (by omega))); (try (have i_bc := Imp.go bc (by omega))); (try (have i_sf := Imp.go sf (by omega))); (try (have i_op8 := Imp.go op8 (by omega))); (try (have i_hz17 := Imp.go hz17 (by omega))); omega)⟩))
            have af259 : (V240 42 b).toInt ≤ (V240 84 gf).toInt ∨ (bdp V240 b (V240 84 gf).toInt.toNat).1 = true := by rw [(up2_s hV240), me260.1.bd, me260.1 42 b (by decide) (by decide)]; exact atn
            have mo258 : MO V240 Z b gf True True True := MO.ch mo me245 ((up2_o hV240 (by decide)).trans ((ajV184 67 gf rfl).trans ((up2_o hV18 (by decide)).trans ea67.symm))) ((up2_o hV240 (by decide)).trans ((ajV184 80 gf rfl).trans ((up2_o hV18 (by decide)).trans ea80.symm))) (fun _ => Or.inl (by omega)) (fun x h => FK.k4 (by first | omega | ((try (have i_hz17 := Imp.go hz17 (by omega))); (try (have i_op8 := Imp.go op8 (by omega))); (try (have i_sf := Imp.go sf (by omega))); (try (have i_bc := Imp.go bc (by omega))); (try (have i_rwq := Imp.go rwq (by omega))); (try (have i_hop := Imp.go hop (by omega))); (try (have i_moa := Imp.go moa (by omega))); (try (have i_moa := Imp.go moa (by omega))); (try (have i_hop := Imp.go hop (by omega))); (try (have i_rwq := Imp.go rwq (by omega))); (try (have i_bc := Imp.go bc (by omega))); (try (have i_sf := Imp.go sf (by omega))); (try (have i_op8 := Imp.go op8 (by omega))); (try (have i_hz17 := Imp.go hz17 (by omega))); omega)) (by first | omega | ((try (have i_hz17 := Imp.go hz17 (by omega))); (try (have i_op8 := Imp.go op8 (by omega))); (try (have i_sf := Imp.go sf (by omega))); (try (have i_bc := Imp.go bc (by omega))); (try (have i_rwq := Imp.go rwq (by omega))); (try (have i_hop := Imp.go hop (by omega))); (try (have i_moa := Imp.go moa (by omega))); (try (have i_moa := Imp.go moa (by omega))); (try (have i_hop := Imp.go hop (by omega))); (try (have i_rwq := Imp.go rwq (by omega))); (try (have i_bc := Imp.go bc (by omega))); (try (have i_sf := Imp.go sf (by omega))); (try (have i_op8 := Imp.go op8 (by omega))); (try (have i_hz17 := Imp.go hz17 (by omega))); omega)) (by first | omega | ((try (have i_hz17 := Imp.go hz17 (by omega))); (try (have i_op8 := Imp.go op8 (by omega))); (try (have i_sf := Imp.go sf (by omega))); (try (have i_bc := Imp.go bc (by omega))); (try (have i_rwq := Imp.go rwq (by omega))); (try (have i_hop := Imp.go hop (by omega))); (try (have i_moa := Imp.go moa (by omega))); (try (have i_moa := Imp.go moa (by omega))); (try (have i_hop := Imp.go hop (by omega))); (try (have i_rwq := Imp.go rwq (by omega))); (try (have i_bc := Imp.go bc (by omega))); (try (have i_sf := Imp.go sf (by omega))); (try (have i_op8 := Imp.go op8 (by omega))); (try (have i_hz17 := Imp.go hz17 (by omega))); omega)) af259 (by first | omega | ((try (have i_hz17 := Imp.go hz17 (by omega))); (try (have i_op8 := Imp.go op8 (by omega))); (try (have i_sf := Imp.go sf (by omega))); (try (have i_bc := Imp.go bc (by omega))); (try (have i_rwq := Imp.go rwq (by omega))); (try (have i_hop := Imp.go hop (by omega))); (try (have i_moa := Imp.go moa (by omega))); (try (have i_moa := Imp.go moa (by omega))); (try (have i_hop := Imp.go hop (by omega))); (try (have i_rwq := Imp.go rwq (by omega))); (try (have i_bc := Imp.go bc (by omega))); (try (have i_sf := Imp.go sf (by omega))); (try (have i_op8 := Imp.go op8 (by omega))); (try (have i_hz17 := Imp.go hz17 (by omega))); omega)) (fun hph => absurd hph (by omega)))
            have o9 : opf gB.1 at9.toNat = 12 := ((enO_i ⟨opf gB.1 at9.toNat, op9⟩).2.2.2.2.2.2.2.2.2.2.2.2.2.1).mp (show enO (opf gB.1 at9.toNat) = 13 from c48.symm.trans (by omega))
            have p84 : psz (opf gB.1) (at9.toNat + 1) = psz (opf gB.1) at9.toNat + 2 := psz_2 (show opf gB.1 at9.toNat = 2 ∨ (10 ≤ opf gB.1 at9.toNat ∧ opf gB.1 at9.toNat ≤ 14) from by omega)
            have pw9 : psz (opf gB.1) (at9.toNat + 1) ≤ wl gB.1 := psz_le hi9
            have c42 : (V 42 b).toInt = ((wl gB.1 : Nat) : Int) := bc.1.1
            exact W.zret (v := 1) hx hb hr rfl (fun t ht hW => ⟨⟨1, (V240, L), rfl, ⟨hMV240, agV240, rfl, (by decide), (Imp.mk (fun _ => mo258)), (Imp.mk (fun hp => absurd hp (by decide))), (Imp.mk (fun _ => (show (V240 5 6).toInt = (V 5 6).toInt ∧ (V240 67 gf).toInt = 4 ∧ (V240 68 gf).toInt = 0 from by first | omega | ((try (have i_hz17 := Imp.go hz17 (by omega))); (try (have i_op8 := Imp.go op8 (by omega))); (try (have i_sf := Imp.go sf (by omega))); (try (have i_bc := Imp.go bc (by omega))); (try (have i_rwq := Imp.go rwq (by omega))); (try (have i_hop := Imp.go hop (by omega))); (try (have i_moa := Imp.go moa (by omega))); (try (have i_moa := Imp.go moa (by omega))); (try (have i_hop := Imp.go hop (by omega))); (try (have i_rwq := Imp.go rwq (by omega))); (try (have i_bc := Imp.go bc (by omega))); (try (have i_sf := Imp.go sf (by omega))); (try (have i_op8 := Imp.go op8 (by omega))); (try (have i_hz17 := Imp.go hz17 (by omega))); omega)))), (by exfalso; omega)⟩, by rw [ht]; exact hP, va_K.moved hW.alike hK, hD⟩, hS.F ht⟩) hS.2.2 dX5_worksWith_125
          · skip
            have f261 : z180.toInt = 0 := b_eq rfl (by decide) c238
            refine lv_iload_n hx hb dX5_worksWith_113 rfl (lv_at hl 0 rfl) ?_
            refine lv_goto (tgt := 121) hx hb dX5_worksWith_114 (by decide) ?_
            refine va_putN (D := D) (ci := 4) (v := .int 0) (ty := tyX4 17) (fs := (xfFrame V184 gf)) (C := RX4) (T := TX4) (N := 19) hx hb hg inX4 tyX4 tyX4_ok nmX4 hown hK hP hD hS (336 + gf) (xgFrame hgf) rfl 17 (by decide) (hnw.use 1206 n1206 rfl) (fun _ h9 => h9) rfl (tyX4_ok 17 (by decide)) rfl rfl (Nat.le_of_ble_eq_true rfl) dX5_worksWith_121 (fun H locs hP hD hS => ?_)
            obtain ⟨V262, hV262⟩ : ∃ z, z = up2 V184 84 gf 0 := ⟨_, rfl⟩
            have ew263 : (xw ad kk V184 L Z).set (336 + gf) ((Z.fa gf), .inr (4, (xfFrame V184 gf).set 17 (.int 0))) = xw ad kk V262 L Z := by rw [hV262]; exact xpFrame_at hgf
            have hP : va_P D vwCl (xw ad kk V262 L Z) H := by rw [← ew263]; exact hP
            have hD : va_D A (xw ad kk V262 L Z) := by rw [← ew263]; exact hD
            have hMV262 : rgd bX V262 := hMV184.put hV262 (show 0 ≤ Int32.toInt 0 ∧ Int32.toInt 0 ≤ 2147483647 from by decide)
            have agV262 : agr [(5, 6), (5, 7), (5, 9), (5, 11), (5, 12)] [39, 68, 75, 77, 78, 84] V V262 := agV184.up hV262 rfl
            refine lv_iconst (v := 1) hx hb dX5_worksWith_124 (by decide) ?_
            have pq264 : (V262 5 6).toInt = ((V 5 6)).toInt := congrArg Int32.toInt ((up2_o hV262 (by decide)).trans ((ajV184 5 6 rfl).trans (up2_o hV18 (by decide))))
            have pq265 : (V262 67 gf).toInt = ((V 67 gf)).toInt := congrArg Int32.toInt ((up2_o hV262 (by decide)).trans ((ajV184 67 gf rfl).trans (up2_o hV18 (by decide))))
            have pq266 : (V262 68 gf).toInt = ((V 68 gf)).toInt := congrArg Int32.toInt ((up2_o hV262 (by decide)).trans ((ajV184 68 gf rfl).trans (up2_o hV18 (by decide))))
            have me267 : ME Va V262 gf := (ME.up (ME.tr (ME.up mV hV18 (Or.inl ⟨by decide, by decide, Nat.le_refl _⟩)) (ME.ag ajV184 (by decide))) hV262 (Or.inl ⟨by decide, by decide, Nat.le_refl _⟩))
            have pq268 : (V262 70 gf).toInt = ((V 70 gf)).toInt := congrArg Int32.toInt ((up2_o hV262 (by decide)).trans ((ajV184 70 gf rfl).trans (up2_o hV18 (by decide))))
            have pq269 : (V262 71 gf).toInt = ((V 71 gf)).toInt := congrArg Int32.toInt ((up2_o hV262 (by decide)).trans ((ajV184 71 gf rfl).trans (up2_o hV18 (by decide))))
            have pq270 : (V262 75 gf).toInt = ((V 75 gf)).toInt := congrArg Int32.toInt ((up2_o hV262 (by decide)).trans ((ajV184 75 gf rfl).trans (up2_o hV18 (by decide))))
            have pq271 : (V262 76 gf).toInt = ((V 76 gf)).toInt := congrArg Int32.toInt ((up2_o hV262 (by decide)).trans ((ajV184 76 gf rfl).trans (up2_o hV18 (by decide))))
            have pq272 : (V262 80 gf).toInt = ((V 80 gf)).toInt := congrArg Int32.toInt ((up2_o hV262 (by decide)).trans ((ajV184 80 gf rfl).trans (up2_o hV18 (by decide))))
            have pq273 : (V262 84 gf).toInt = 0 := (congrArg Int32.toInt (up2_s hV262)).trans (by decide)
            have pq274 : (V262 5 8).toInt = ((V 5 8)).toInt := congrArg Int32.toInt ((up2_o hV262 (by decide)).trans ((ajV184 5 8 rfl).trans (up2_o hV18 (by decide))))
            have pq275 : (V262 5 9).toInt = ((V 5 9)).toInt := congrArg Int32.toInt ((up2_o hV262 (by decide)).trans ((ajV184 5 9 rfl).trans (up2_o hV18 (by decide))))
            have pq276 : (V262 3 13).toInt = ((V 3 13)).toInt := congrArg Int32.toInt ((up2_o hV262 (by decide)).trans ((ajV184 3 13 rfl).trans (up2_o hV18 (by decide))))
            have pq277 : (V262 43 (5 * b + 2)).toInt = ((V 43 (5 * b + 2))).toInt := congrArg Int32.toInt ((up2_o hV262 (by decide)).trans ((ajV184 43 (5 * b + 2) rfl).trans (up2_o hV18 (by decide))))
            have pq278 : (V262 42 b).toInt = ((V 42 b)).toInt := congrArg Int32.toInt ((up2_o hV262 (by decide)).trans ((ajV184 42 b rfl).trans (up2_o hV18 (by decide))))
            have pq279 : (V262 41 b).toInt = ((V 41 b)).toInt := congrArg Int32.toInt ((up2_o hV262 (by decide)).trans ((ajV184 41 b rfl).trans (up2_o hV18 (by decide))))
            have me282 : ME V V262 0 := (ME.up (ME.tr (ME.up ME.rf hV18 (Or.inl ⟨by decide, by decide, by first | omega | ((try (have i_hz17 := Imp.go hz17 (by omega))); (try (have i_op8 := Imp.go op8 (by omega))); (try (have i_sf := Imp.go sf (by omega))); (try (have i_bc := Imp.go bc (by omega))); (try (have i_rwq := Imp.go rwq (by omega))); (try (have i_hop := Imp.go hop (by omega))); (try (have i_moa := Imp.go moa (by omega))); (try (have i_moa := Imp.go moa (by omega))); (try (have i_hop := Imp.go hop (by omega))); (try (have i_rwq := Imp.go rwq (by omega))); (try (have i_bc := Imp.go bc (by omega))); (try (have i_sf := Imp.go sf (by omega))); (try (have i_op8 := Imp.go op8 (by omega))); (try (have i_hz17 := Imp.go hz17 (by omega))); omega)⟩)) (ME.ag ajV184 (by decide))) hV262 (Or.inl ⟨by decide, by decide, by first | omega | ((try (have i_hz17 := Imp.go hz17 (by omega))); (try (have i_op8 := Imp.go op8 (by omega))); (try (have i_sf := Imp.go sf (by omega))); (try (have i_bc := Imp.go bc (by omega))); (try (have i_rwq := Imp.go rwq (by omega))); (try (have i_hop := Imp.go hop (by omega))); (try (have i_moa := Imp.go moa (by omega))); (try (have i_moa := Imp.go moa (by omega))); (try (have i_hop := Imp.go hop (by omega))); (try (have i_rwq := Imp.go rwq (by omega))); (try (have i_bc := Imp.go bc (by omega))); (try (have i_sf := Imp.go sf (by omega))); (try (have i_op8 := Imp.go op8 (by omega))); (try (have i_hz17 := Imp.go hz17 (by omega))); omega)⟩))
            have af281 : (V262 42 b).toInt ≤ (V262 84 gf).toInt ∨ (bdp V262 b (V262 84 gf).toInt.toNat).1 = true := by rw [(up2_s hV262), me282.1.bd, me282.1 42 b (by decide) (by decide)]; exact at0
            have mo280 : MO V262 Z b gf True True True := MO.ch mo me267 ((up2_o hV262 (by decide)).trans ((ajV184 67 gf rfl).trans ((up2_o hV18 (by decide)).trans ea67.symm))) ((up2_o hV262 (by decide)).trans ((ajV184 80 gf rfl).trans ((up2_o hV18 (by decide)).trans ea80.symm))) (fun _ => Or.inl (by omega)) (fun x h => FK.k4 (by first | omega | ((try (have i_hz17 := Imp.go hz17 (by omega))); (try (have i_op8 := Imp.go op8 (by omega))); (try (have i_sf := Imp.go sf (by omega))); (try (have i_bc := Imp.go bc (by omega))); (try (have i_rwq := Imp.go rwq (by omega))); (try (have i_hop := Imp.go hop (by omega))); (try (have i_moa := Imp.go moa (by omega))); (try (have i_moa := Imp.go moa (by omega))); (try (have i_hop := Imp.go hop (by omega))); (try (have i_rwq := Imp.go rwq (by omega))); (try (have i_bc := Imp.go bc (by omega))); (try (have i_sf := Imp.go sf (by omega))); (try (have i_op8 := Imp.go op8 (by omega))); (try (have i_hz17 := Imp.go hz17 (by omega))); omega)) (by first | omega | ((try (have i_hz17 := Imp.go hz17 (by omega))); (try (have i_op8 := Imp.go op8 (by omega))); (try (have i_sf := Imp.go sf (by omega))); (try (have i_bc := Imp.go bc (by omega))); (try (have i_rwq := Imp.go rwq (by omega))); (try (have i_hop := Imp.go hop (by omega))); (try (have i_moa := Imp.go moa (by omega))); (try (have i_moa := Imp.go moa (by omega))); (try (have i_hop := Imp.go hop (by omega))); (try (have i_rwq := Imp.go rwq (by omega))); (try (have i_bc := Imp.go bc (by omega))); (try (have i_sf := Imp.go sf (by omega))); (try (have i_op8 := Imp.go op8 (by omega))); (try (have i_hz17 := Imp.go hz17 (by omega))); omega)) (by first | omega | ((try (have i_hz17 := Imp.go hz17 (by omega))); (try (have i_op8 := Imp.go op8 (by omega))); (try (have i_sf := Imp.go sf (by omega))); (try (have i_bc := Imp.go bc (by omega))); (try (have i_rwq := Imp.go rwq (by omega))); (try (have i_hop := Imp.go hop (by omega))); (try (have i_moa := Imp.go moa (by omega))); (try (have i_moa := Imp.go moa (by omega))); (try (have i_hop := Imp.go hop (by omega))); (try (have i_rwq := Imp.go rwq (by omega))); (try (have i_bc := Imp.go bc (by omega))); (try (have i_sf := Imp.go sf (by omega))); (try (have i_op8 := Imp.go op8 (by omega))); (try (have i_hz17 := Imp.go hz17 (by omega))); omega)) af281 (by first | omega | ((try (have i_hz17 := Imp.go hz17 (by omega))); (try (have i_op8 := Imp.go op8 (by omega))); (try (have i_sf := Imp.go sf (by omega))); (try (have i_bc := Imp.go bc (by omega))); (try (have i_rwq := Imp.go rwq (by omega))); (try (have i_hop := Imp.go hop (by omega))); (try (have i_moa := Imp.go moa (by omega))); (try (have i_moa := Imp.go moa (by omega))); (try (have i_hop := Imp.go hop (by omega))); (try (have i_rwq := Imp.go rwq (by omega))); (try (have i_bc := Imp.go bc (by omega))); (try (have i_sf := Imp.go sf (by omega))); (try (have i_op8 := Imp.go op8 (by omega))); (try (have i_hz17 := Imp.go hz17 (by omega))); omega)) (fun hph => absurd hph (by omega)))
            have o9 : opf gB.1 at9.toNat = 12 := ((enO_i ⟨opf gB.1 at9.toNat, op9⟩).2.2.2.2.2.2.2.2.2.2.2.2.2.1).mp (show enO (opf gB.1 at9.toNat) = 13 from c48.symm.trans (by omega))
            have p84 : psz (opf gB.1) (at9.toNat + 1) = psz (opf gB.1) at9.toNat + 2 := psz_2 (show opf gB.1 at9.toNat = 2 ∨ (10 ≤ opf gB.1 at9.toNat ∧ opf gB.1 at9.toNat ≤ 14) from by omega)
            have pw9 : psz (opf gB.1) (at9.toNat + 1) ≤ wl gB.1 := psz_le hi9
            have c42 : (V 42 b).toInt = ((wl gB.1 : Nat) : Int) := bc.1.1
            exact W.zret (v := 1) hx hb hr rfl (fun t ht hW => ⟨⟨1, (V262, L), rfl, ⟨hMV262, agV262, rfl, (by decide), (Imp.mk (fun _ => mo280)), (Imp.mk (fun hp => absurd hp (by decide))), (Imp.mk (fun _ => (show (V262 5 6).toInt = (V 5 6).toInt ∧ (V262 67 gf).toInt = 4 ∧ (V262 68 gf).toInt = 0 from by first | omega | ((try (have i_hz17 := Imp.go hz17 (by omega))); (try (have i_op8 := Imp.go op8 (by omega))); (try (have i_sf := Imp.go sf (by omega))); (try (have i_bc := Imp.go bc (by omega))); (try (have i_rwq := Imp.go rwq (by omega))); (try (have i_hop := Imp.go hop (by omega))); (try (have i_moa := Imp.go moa (by omega))); (try (have i_moa := Imp.go moa (by omega))); (try (have i_hop := Imp.go hop (by omega))); (try (have i_rwq := Imp.go rwq (by omega))); (try (have i_bc := Imp.go bc (by omega))); (try (have i_sf := Imp.go sf (by omega))); (try (have i_op8 := Imp.go op8 (by omega))); (try (have i_hz17 := Imp.go hz17 (by omega))); omega)))), (by exfalso; omega)⟩, by rw [ht]; exact hP, va_K.moved hW.alike hK, hD⟩, hS.F ht⟩) hS.2.2 dX5_worksWith_125
      have gq179 : p1.toInt ≠ 13 := b_neq rfl (by decide) q179
      by_cases q283 : p1 = 14
      · refine g_top (v := 14) q283 ?_
        have fq283 : p1.toInt = 14 := b_eq rfl (by decide) q283
        refine lv_tableIn (x := 14) (off := 56) (tgt := 98) hx hb dX5_worksWith_42 (by decide) (by decide) (by decide) (by decide) ?_
        refine lv_aload_n hx hb dX5_worksWith_98 rfl (lv_at hl 2 rfl) ?_
        refine lv_iload_n hx hb dX5_worksWith_99 rfl (lv_at hl 0 rfl) ?_
        refine va_putN (D := D) (ci := 4) (v := .int 0) (ty := tyX4 17) (fs := (xfFrame V18 gf)) (C := RX4) (T := TX4) (N := 19) hx hb hg inX4 tyX4 tyX4_ok nmX4 hown hK hP hD hS (336 + gf) (xgFrame hgf) rfl 17 (by decide) (hnw.use 1206 n1206 rfl) (fun _ h9 => h9) rfl (tyX4_ok 17 (by decide)) rfl rfl (Nat.le_of_ble_eq_true rfl) dX5_worksWith_100 (fun H locs hP hD hS => ?_)
        obtain ⟨V284, hV284⟩ : ∃ z, z = up2 V18 84 gf 0 := ⟨_, rfl⟩
        have ew285 : (xw ad kk V18 L Z).set (336 + gf) ((Z.fa gf), .inr (4, (xfFrame V18 gf).set 17 (.int 0))) = xw ad kk V284 L Z := by rw [hV284]; exact xpFrame_at hgf
        have hP : va_P D vwCl (xw ad kk V284 L Z) H := by rw [← ew285]; exact hP
        have hD : va_D A (xw ad kk V284 L Z) := by rw [← ew285]; exact hD
        have hMV284 : rgd bX V284 := hMV18.put hV284 (show 0 ≤ Int32.toInt 0 ∧ Int32.toInt 0 ≤ 2147483647 from by decide)
        have agV284 : agr [(5, 6), (5, 7), (5, 9), (5, 11), (5, 12)] [39, 68, 75, 77, 78, 84] V V284 := agV18.up hV284 rfl
        refine lv_iconst (v := 1) hx hb dX5_worksWith_103 (by decide) ?_
        have pq286 : (V284 5 6).toInt = ((V 5 6)).toInt := congrArg Int32.toInt ((up2_o hV284 (by decide)).trans (up2_o hV18 (by decide)))
        have pq287 : (V284 67 gf).toInt = ((V 67 gf)).toInt := congrArg Int32.toInt ((up2_o hV284 (by decide)).trans (up2_o hV18 (by decide)))
        have pq288 : (V284 68 gf).toInt = ((V 68 gf)).toInt := congrArg Int32.toInt ((up2_o hV284 (by decide)).trans (up2_o hV18 (by decide)))
        have me289 : ME Va V284 gf := (ME.up (ME.up mV hV18 (Or.inl ⟨by decide, by decide, Nat.le_refl _⟩)) hV284 (Or.inl ⟨by decide, by decide, Nat.le_refl _⟩))
        have pq290 : (V284 70 gf).toInt = ((V 70 gf)).toInt := congrArg Int32.toInt ((up2_o hV284 (by decide)).trans (up2_o hV18 (by decide)))
        have pq291 : (V284 71 gf).toInt = ((V 71 gf)).toInt := congrArg Int32.toInt ((up2_o hV284 (by decide)).trans (up2_o hV18 (by decide)))
        have pq292 : (V284 75 gf).toInt = ((V 75 gf)).toInt := congrArg Int32.toInt ((up2_o hV284 (by decide)).trans (up2_o hV18 (by decide)))
        have pq293 : (V284 76 gf).toInt = ((V 76 gf)).toInt := congrArg Int32.toInt ((up2_o hV284 (by decide)).trans (up2_o hV18 (by decide)))
        have pq294 : (V284 80 gf).toInt = ((V 80 gf)).toInt := congrArg Int32.toInt ((up2_o hV284 (by decide)).trans (up2_o hV18 (by decide)))
        have pq295 : (V284 84 gf).toInt = 0 := (congrArg Int32.toInt (up2_s hV284)).trans (by decide)
        have pq296 : (V284 5 8).toInt = ((V 5 8)).toInt := congrArg Int32.toInt ((up2_o hV284 (by decide)).trans (up2_o hV18 (by decide)))
        have pq297 : (V284 5 9).toInt = ((V 5 9)).toInt := congrArg Int32.toInt ((up2_o hV284 (by decide)).trans (up2_o hV18 (by decide)))
        have pq298 : (V284 3 13).toInt = ((V 3 13)).toInt := congrArg Int32.toInt ((up2_o hV284 (by decide)).trans (up2_o hV18 (by decide)))
        have pq299 : (V284 43 (5 * b + 2)).toInt = ((V 43 (5 * b + 2))).toInt := congrArg Int32.toInt ((up2_o hV284 (by decide)).trans (up2_o hV18 (by decide)))
        have pq300 : (V284 42 b).toInt = ((V 42 b)).toInt := congrArg Int32.toInt ((up2_o hV284 (by decide)).trans (up2_o hV18 (by decide)))
        have pq301 : (V284 41 b).toInt = ((V 41 b)).toInt := congrArg Int32.toInt ((up2_o hV284 (by decide)).trans (up2_o hV18 (by decide)))
        have me304 : ME V V284 0 := (ME.up (ME.up ME.rf hV18 (Or.inl ⟨by decide, by decide, by first | omega | ((try (have i_hz17 := Imp.go hz17 (by omega))); (try (have i_op8 := Imp.go op8 (by omega))); (try (have i_sf := Imp.go sf (by omega))); (try (have i_bc := Imp.go bc (by omega))); (try (have i_rwq := Imp.go rwq (by omega))); (try (have i_hop := Imp.go hop (by omega))); (try (have i_moa := Imp.go moa (by omega))); (try (have i_moa := Imp.go moa (by omega))); (try (have i_hop := Imp.go hop (by omega))); (try (have i_rwq := Imp.go rwq (by omega))); (try (have i_bc := Imp.go bc (by omega))); (try (have i_sf := Imp.go sf (by omega))); (try (have i_op8 := Imp.go op8 (by omega))); (try (have i_hz17 := Imp.go hz17 (by omega))); omega)⟩)) hV284 (Or.inl ⟨by decide, by decide, by first | omega | ((try (have i_hz17 := Imp.go hz17 (by omega))); (try (have i_op8 := Imp.go op8 (by omega))); (try (have i_sf := Imp.go sf (by omega))); (try (have i_bc := Imp.go bc (by omega))); (try (have i_rwq := Imp.go rwq (by omega))); (try (have i_hop := Imp.go hop (by omega))); (try (have i_moa := Imp.go moa (by omega))); (try (have i_moa := Imp.go moa (by omega))); (try (have i_hop := Imp.go hop (by omega))); (try (have i_rwq := Imp.go rwq (by omega))); (try (have i_bc := Imp.go bc (by omega))); (try (have i_sf := Imp.go sf (by omega))); (try (have i_op8 := Imp.go op8 (by omega))); (try (have i_hz17 := Imp.go hz17 (by omega))); omega)⟩))
        have af303 : (V284 42 b).toInt ≤ (V284 84 gf).toInt ∨ (bdp V284 b (V284 84 gf).toInt.toNat).1 = true := by rw [(up2_s hV284), me304.1.bd, me304.1 42 b (by decide) (by decide)]; exact at0
        have mo302 : MO V284 Z b gf True True True := MO.ch mo me289 ((up2_o hV284 (by decide)).trans ((up2_o hV18 (by decide)).trans ea67.symm)) ((up2_o hV284 (by decide)).trans ((up2_o hV18 (by decide)).trans ea80.symm)) (fun _ => Or.inl (by omega)) (fun x h => FK.k4 (by first | omega | ((try (have i_hz17 := Imp.go hz17 (by omega))); (try (have i_op8 := Imp.go op8 (by omega))); (try (have i_sf := Imp.go sf (by omega))); (try (have i_bc := Imp.go bc (by omega))); (try (have i_rwq := Imp.go rwq (by omega))); (try (have i_hop := Imp.go hop (by omega))); (try (have i_moa := Imp.go moa (by omega))); (try (have i_moa := Imp.go moa (by omega))); (try (have i_hop := Imp.go hop (by omega))); (try (have i_rwq := Imp.go rwq (by omega))); (try (have i_bc := Imp.go bc (by omega))); (try (have i_sf := Imp.go sf (by omega))); (try (have i_op8 := Imp.go op8 (by omega))); (try (have i_hz17 := Imp.go hz17 (by omega))); omega)) (by first | omega | ((try (have i_hz17 := Imp.go hz17 (by omega))); (try (have i_op8 := Imp.go op8 (by omega))); (try (have i_sf := Imp.go sf (by omega))); (try (have i_bc := Imp.go bc (by omega))); (try (have i_rwq := Imp.go rwq (by omega))); (try (have i_hop := Imp.go hop (by omega))); (try (have i_moa := Imp.go moa (by omega))); (try (have i_moa := Imp.go moa (by omega))); (try (have i_hop := Imp.go hop (by omega))); (try (have i_rwq := Imp.go rwq (by omega))); (try (have i_bc := Imp.go bc (by omega))); (try (have i_sf := Imp.go sf (by omega))); (try (have i_op8 := Imp.go op8 (by omega))); (try (have i_hz17 := Imp.go hz17 (by omega))); omega)) (by first | omega | ((try (have i_hz17 := Imp.go hz17 (by omega))); (try (have i_op8 := Imp.go op8 (by omega))); (try (have i_sf := Imp.go sf (by omega))); (try (have i_bc := Imp.go bc (by omega))); (try (have i_rwq := Imp.go rwq (by omega))); (try (have i_hop := Imp.go hop (by omega))); (try (have i_moa := Imp.go moa (by omega))); (try (have i_moa := Imp.go moa (by omega))); (try (have i_hop := Imp.go hop (by omega))); (try (have i_rwq := Imp.go rwq (by omega))); (try (have i_bc := Imp.go bc (by omega))); (try (have i_sf := Imp.go sf (by omega))); (try (have i_op8 := Imp.go op8 (by omega))); (try (have i_hz17 := Imp.go hz17 (by omega))); omega)) af303 (by first | omega | ((try (have i_hz17 := Imp.go hz17 (by omega))); (try (have i_op8 := Imp.go op8 (by omega))); (try (have i_sf := Imp.go sf (by omega))); (try (have i_bc := Imp.go bc (by omega))); (try (have i_rwq := Imp.go rwq (by omega))); (try (have i_hop := Imp.go hop (by omega))); (try (have i_moa := Imp.go moa (by omega))); (try (have i_moa := Imp.go moa (by omega))); (try (have i_hop := Imp.go hop (by omega))); (try (have i_rwq := Imp.go rwq (by omega))); (try (have i_bc := Imp.go bc (by omega))); (try (have i_sf := Imp.go sf (by omega))); (try (have i_op8 := Imp.go op8 (by omega))); (try (have i_hz17 := Imp.go hz17 (by omega))); omega)) (fun hph => absurd hph (by omega)))
        have o9 : opf gB.1 at9.toNat = 13 := ((enO_i ⟨opf gB.1 at9.toNat, op9⟩).2.2.2.2.2.2.2.2.2.2.2.2.2.2.1).mp (show enO (opf gB.1 at9.toNat) = 14 from c48.symm.trans (by omega))
        have p84 : psz (opf gB.1) (at9.toNat + 1) = psz (opf gB.1) at9.toNat + 2 := psz_2 (show opf gB.1 at9.toNat = 2 ∨ (10 ≤ opf gB.1 at9.toNat ∧ opf gB.1 at9.toNat ≤ 14) from by omega)
        have pw9 : psz (opf gB.1) (at9.toNat + 1) ≤ wl gB.1 := psz_le hi9
        have c42 : (V 42 b).toInt = ((wl gB.1 : Nat) : Int) := bc.1.1
        exact W.zret (v := 1) hx hb hr rfl (fun t ht hW => ⟨⟨1, (V284, L), rfl, ⟨hMV284, agV284, rfl, (by decide), (Imp.mk (fun _ => mo302)), (Imp.mk (fun hp => absurd hp (by decide))), (Imp.mk (fun _ => (show (V284 5 6).toInt = (V 5 6).toInt ∧ (V284 67 gf).toInt = 4 ∧ (V284 68 gf).toInt = 0 from by first | omega | ((try (have i_hz17 := Imp.go hz17 (by omega))); (try (have i_op8 := Imp.go op8 (by omega))); (try (have i_sf := Imp.go sf (by omega))); (try (have i_bc := Imp.go bc (by omega))); (try (have i_rwq := Imp.go rwq (by omega))); (try (have i_hop := Imp.go hop (by omega))); (try (have i_moa := Imp.go moa (by omega))); (try (have i_moa := Imp.go moa (by omega))); (try (have i_hop := Imp.go hop (by omega))); (try (have i_rwq := Imp.go rwq (by omega))); (try (have i_bc := Imp.go bc (by omega))); (try (have i_sf := Imp.go sf (by omega))); (try (have i_op8 := Imp.go op8 (by omega))); (try (have i_hz17 := Imp.go hz17 (by omega))); omega)))), (by exfalso; omega)⟩, by rw [ht]; exact hP, va_K.moved hW.alike hK, hD⟩, hS.F ht⟩) hS.2.2 dX5_worksWith_104
      have gq283 : p1.toInt ≠ 14 := b_neq rfl (by decide) q283
      refine lv_tableOut (x := p1) (tgt := 139) hx hb dX5_worksWith_42 (by omega) (by decide) ?_
      refine lv_aload_n hx hb dX5_worksWith_139 rfl (lv_at hl 2 rfl) ?_
      refine lv_iload_n hx hb dX5_worksWith_140 rfl (lv_at hl 0 rfl) ?_
      refine lv_bipush (v := 20) hx hb dX5_worksWith_141 (by decide) ?_
      refine lv_idiv hx hb dX5_worksWith_143 (by decide) ?_
      refine g_top (v := 0) (by decide) ?_
      refine va_putN (D := D) (ci := 4) (v := .int 0) (ty := tyX4 8) (fs := (xfFrame V18 gf)) (C := RX4) (T := TX4) (N := 19) hx hb hg inX4 tyX4 tyX4_ok nmX4 hown hK hP hD hS (336 + gf) (xgFrame hgf) rfl 8 (by decide) (hnw.use 1197 n1197 rfl) (fun _ h9 => h9) rfl (tyX4_ok 8 (by decide)) rfl rfl (Nat.le_of_ble_eq_true rfl) dX5_worksWith_144 (fun H locs hP hD hS => ?_)
      obtain ⟨V305, hV305⟩ : ∃ z, z = up2 V18 75 gf 0 := ⟨_, rfl⟩
      have ew306 : (xw ad kk V18 L Z).set (336 + gf) ((Z.fa gf), .inr (4, (xfFrame V18 gf).set 8 (.int 0))) = xw ad kk V305 L Z := by rw [hV305]; exact xpFrame_position hgf
      have hP : va_P D vwCl (xw ad kk V305 L Z) H := by rw [← ew306]; exact hP
      have hD : va_D A (xw ad kk V305 L Z) := by rw [← ew306]; exact hD
      have hMV305 : rgd bX V305 := hMV18.put hV305 (show 0 ≤ Int32.toInt 0 ∧ Int32.toInt 0 ≤ 12 from by decide)
      have agV305 : agr [(5, 6), (5, 7), (5, 9), (5, 11), (5, 12)] [39, 68, 75, 77, 78, 84] V V305 := agV18.up hV305 rfl
      refine lv_aload_n hx hb dX5_worksWith_147 rfl (lv_at hl 2 rfl) ?_
      refine lv_iload_n hx hb dX5_worksWith_148 rfl (lv_at hl 0 rfl) ?_
      refine lv_bipush (v := 20) hx hb dX5_worksWith_149 (by decide) ?_
      refine lv_irem hx hb dX5_worksWith_151 (by decide) ?_
      refine g_top (v := 0) (by decide) ?_
      refine va_putN (D := D) (ci := 4) (v := .int 0) (ty := tyX4 10) (fs := (xfFrame V305 gf)) (C := RX4) (T := TX4) (N := 19) hx hb hg inX4 tyX4 tyX4_ok nmX4 hown hK hP hD hS (336 + gf) (xgFrame hgf) rfl 10 (by decide) (hnw.use 1199 n1199 rfl) (fun _ h9 => h9) rfl (tyX4_ok 10 (by decide)) rfl rfl (Nat.le_of_ble_eq_true rfl) dX5_worksWith_152 (fun H locs hP hD hS => ?_)
      obtain ⟨V307, hV307⟩ : ∃ z, z = up2 V305 77 gf 0 := ⟨_, rfl⟩
      have ew308 : (xw ad kk V305 L Z).set (336 + gf) ((Z.fa gf), .inr (4, (xfFrame V305 gf).set 10 (.int 0))) = xw ad kk V307 L Z := by rw [hV307]; exact xpFrame_target hgf
      have hP : va_P D vwCl (xw ad kk V307 L Z) H := by rw [← ew308]; exact hP
      have hD : va_D A (xw ad kk V307 L Z) := by rw [← ew308]; exact hD
      have hMV307 : rgd bX V307 := hMV305.put hV307 (show 0 ≤ Int32.toInt 0 ∧ Int32.toInt 0 ≤ 19 from by decide)
      have agV307 : agr [(5, 6), (5, 7), (5, 9), (5, 11), (5, 12)] [39, 68, 75, 77, 78, 84] V V307 := agV305.up hV307 rfl
      refine lv_aload_n hx hb dX5_worksWith_155 rfl (lv_at hl 2 rfl) ?_
      refine lv_aload_n hx hb dX5_worksWith_156 rfl (lv_at hl 1 rfl) ?_
      refine gA_int (gA_runV (As := []) (rest := [.ref (Z.fa gf)]) (ci := 5) (q0 := 5) hx hb hml hown hg hP hD hK hS hA hnw hgk (x_pull9 l D ks H.size ad kk V307 L Z  hMV307 ) w1482 w1484 w76 w171 w1485 rfl xgMachine hdV_yX5_pull ⟨Nat.le_of_ble_eq_true rfl, Nat.le_of_ble_eq_true rfl⟩ rfl hl.1 rfl (Nat.le_of_ble_eq_true rfl) dX5_worksWith_157 ⟨Nat.le_of_ble_eq_true rfl, Nat.le_of_ble_eq_true rfl⟩) hP hD hK hS hA (fun z309 u310 H locs w311 hP hD hK hS => ?_)
      obtain ⟨V313, L314⟩ := u310
      obtain ⟨hMV313, ajV313, axL314, t312⟩ := w311
      have axL314 : L = L314 := Eq.symm axL314
      subst axL314
      replace hP : va_P D vwCl (xw ad kk V313 L Z) H := hP
      replace hD : va_D A (xw ad kk V313 L Z) := hD
      replace hMV313 : rgd bX V313 := hMV313
      replace ajV313 : agr [(5, 7)] [] V307 V313 := ajV313
      have agV313 : agr [(5, 6), (5, 7), (5, 9), (5, 11), (5, 12)] [39, 68, 75, 77, 78, 84] V V313 := agV307.tr ajV313 (by decide) (by decide)
      replace t312 : ((0 < (V307 5 7).toInt ∧ z309 = V307 39 (Int32.toNatClampNeg (V307 5 7 - 1))) ∧ V313 = (up2 V307 5 7 (V307 5 7 - 1))) ∨ (((V307 5 7).toInt ≤ 0 ∧ z309 = 0) ∧ V313 = V307) := t312
      rcases t312 with ⟨hc315, hw316⟩ | ⟨hc317, hw318⟩
      · skip
        have pq320 : (V307 5 7).toInt = ((V 5 7)).toInt := congrArg Int32.toInt ((up2_o hV307 (by decide)).trans ((up2_o hV305 (by decide)).trans (up2_o hV18 (by decide))))
        have r321 : 0 ≤ ((V 5 7)).toInt ∧ ((V 5 7)).toInt ≤ 2048 := hMV 5 7
        obtain ⟨z319, ez319⟩ : ∃ y : Int32, y = V307 5 7 - 1 := ⟨_, rfl⟩
        have hz319 : z319.toInt = (V307 5 7).toInt - 1 := i_sub ez319 rfl (by decide) (by first | omega | ((try (have i_hz17 := Imp.go hz17 (by omega))); (try (have i_op8 := Imp.go op8 (by omega))); (try (have i_sf := Imp.go sf (by omega))); (try (have i_bc := Imp.go bc (by omega))); (try (have i_rwq := Imp.go rwq (by omega))); (try (have i_hop := Imp.go hop (by omega))); (try (have i_moa := Imp.go moa (by omega))); (try (have i_moa := Imp.go moa (by omega))); (try (have i_hop := Imp.go hop (by omega))); (try (have i_rwq := Imp.go rwq (by omega))); (try (have i_bc := Imp.go bc (by omega))); (try (have i_sf := Imp.go sf (by omega))); (try (have i_op8 := Imp.go op8 (by omega))); (try (have i_hz17 := Imp.go hz17 (by omega))); omega))
        have hV313 : V313 = up2 V307 5 7 z319 := by rw [hw316, ez319]
        refine va_putN (D := D) (ci := 4) (v := .int z309) (ty := tyX4 11) (fs := (xfFrame V313 gf)) (C := RX4) (T := TX4) (N := 19) hx hb hg inX4 tyX4 tyX4_ok nmX4 hown hK hP hD hS (336 + gf) (xgFrame hgf) rfl 11 (by decide) (hnw.use 1200 n1200 rfl) (fun _ h9 => h9) rfl (tyX4_ok 11 (by decide)) rfl rfl (Nat.le_of_ble_eq_true rfl) dX5_worksWith_160 (fun H locs hP hD hS => ?_)
        obtain ⟨V322, hV322⟩ : ∃ z, z = up2 V313 78 gf z309 := ⟨_, rfl⟩
        have ew323 : (xw ad kk V313 L Z).set (336 + gf) ((Z.fa gf), .inr (4, (xfFrame V313 gf).set 11 (.int z309))) = xw ad kk V322 L Z := by rw [hV322]; exact xpFrame_given hgf
        have hP : va_P D vwCl (xw ad kk V322 L Z) H := by rw [← ew323]; exact hP
        have hD : va_D A (xw ad kk V322 L Z) := by rw [← ew323]; exact hD
        have hMV322 : rgd bX V322 := hMV313.put hV322 (i_full _)
        have agV322 : agr [(5, 6), (5, 7), (5, 9), (5, 11), (5, 12)] [39, 68, 75, 77, 78, 84] V V322 := agV313.up hV322 rfl
        refine lv_aload_n hx hb dX5_worksWith_163 rfl (lv_at hl 2 rfl) ?_
        refine lv_bipush (v := 6) hx hb dX5_worksWith_164 (by decide) ?_
        refine va_putN (D := D) (ci := 4) (v := .int 6) (ty := tyX4 1) (fs := (xfFrame V322 gf)) (C := RX4) (T := TX4) (N := 19) hx hb hg inX4 tyX4 tyX4_ok nmX4 hown hK hP hD hS (336 + gf) (xgFrame hgf) rfl 1 (by decide) (hnw.use 1190 n1190 rfl) (fun _ h9 => h9) rfl (tyX4_ok 1 (by decide)) rfl rfl (Nat.le_of_ble_eq_true rfl) dX5_worksWith_166 (fun H locs hP hD hS => ?_)
        obtain ⟨V324, hV324⟩ : ∃ z, z = up2 V322 68 gf 6 := ⟨_, rfl⟩
        have ew325 : (xw ad kk V322 L Z).set (336 + gf) ((Z.fa gf), .inr (4, (xfFrame V322 gf).set 1 (.int 6))) = xw ad kk V324 L Z := by rw [hV324]; exact xpFrame_phase hgf
        have hP : va_P D vwCl (xw ad kk V324 L Z) H := by rw [← ew325]; exact hP
        have hD : va_D A (xw ad kk V324 L Z) := by rw [← ew325]; exact hD
        have hMV324 : rgd bX V324 := hMV322.put hV324 (i_full _)
        have agV324 : agr [(5, 6), (5, 7), (5, 9), (5, 11), (5, 12)] [39, 68, 75, 77, 78, 84] V V324 := agV322.up hV324 rfl
        refine lv_iconst (v := 0) hx hb dX5_worksWith_169 (by decide) ?_
        have pq326 : (V324 5 6).toInt = ((V 5 6)).toInt := congrArg Int32.toInt ((up2_o hV324 (by decide)).trans ((up2_o hV322 (by decide)).trans ((up2_k hV313 (by decide)).trans ((up2_o hV307 (by decide)).trans ((up2_o hV305 (by decide)).trans (up2_o hV18 (by decide)))))))
        have pq327 : (V324 67 gf).toInt = ((V 67 gf)).toInt := congrArg Int32.toInt ((up2_o hV324 (by decide)).trans ((up2_o hV322 (by decide)).trans ((up2_o hV313 (by decide)).trans ((up2_o hV307 (by decide)).trans ((up2_o hV305 (by decide)).trans (up2_o hV18 (by decide)))))))
        have pq328 : (V324 68 gf).toInt = 6 := (congrArg Int32.toInt (up2_s hV324)).trans (by decide)
        have me329 : ME Va V324 gf := (ME.up (ME.up (ME.up (ME.up (ME.up (ME.up mV hV18 (Or.inl ⟨by decide, by decide, Nat.le_refl _⟩)) hV305 (Or.inl ⟨by decide, by decide, Nat.le_refl _⟩)) hV307 (Or.inl ⟨by decide, by decide, Nat.le_refl _⟩)) hV313 (Or.inr (by omega))) hV322 (Or.inl ⟨by decide, by decide, Nat.le_refl _⟩)) hV324 (Or.inl ⟨by decide, by decide, Nat.le_refl _⟩))
        have pq330 : (V324 70 gf).toInt = ((V 70 gf)).toInt := congrArg Int32.toInt ((up2_o hV324 (by decide)).trans ((up2_o hV322 (by decide)).trans ((up2_o hV313 (by decide)).trans ((up2_o hV307 (by decide)).trans ((up2_o hV305 (by decide)).trans (up2_o hV18 (by decide)))))))
        have pq331 : (V324 71 gf).toInt = ((V 71 gf)).toInt := congrArg Int32.toInt ((up2_o hV324 (by decide)).trans ((up2_o hV322 (by decide)).trans ((up2_o hV313 (by decide)).trans ((up2_o hV307 (by decide)).trans ((up2_o hV305 (by decide)).trans (up2_o hV18 (by decide)))))))
        have pq332 : (V324 75 gf).toInt = 0 := (congrArg Int32.toInt ((up2_o hV324 (by decide)).trans ((up2_o hV322 (by decide)).trans ((up2_o hV313 (by decide)).trans ((up2_o hV307 (by decide)).trans (up2_s hV305)))))).trans (by decide)
        have pq333 : (V324 76 gf).toInt = ((V 76 gf)).toInt := congrArg Int32.toInt ((up2_o hV324 (by decide)).trans ((up2_o hV322 (by decide)).trans ((up2_o hV313 (by decide)).trans ((up2_o hV307 (by decide)).trans ((up2_o hV305 (by decide)).trans (up2_o hV18 (by decide)))))))
        have pq334 : (V324 80 gf).toInt = ((V 80 gf)).toInt := congrArg Int32.toInt ((up2_o hV324 (by decide)).trans ((up2_o hV322 (by decide)).trans ((up2_o hV313 (by decide)).trans ((up2_o hV307 (by decide)).trans ((up2_o hV305 (by decide)).trans (up2_o hV18 (by decide)))))))
        have pq335 : (V324 84 gf).toInt = z17.toInt := congrArg Int32.toInt ((up2_o hV324 (by decide)).trans ((up2_o hV322 (by decide)).trans ((up2_o hV313 (by decide)).trans ((up2_o hV307 (by decide)).trans ((up2_o hV305 (by decide)).trans (up2_s hV18))))))
        have pq336 : (V324 5 8).toInt = ((V 5 8)).toInt := congrArg Int32.toInt ((up2_o hV324 (by decide)).trans ((up2_o hV322 (by decide)).trans ((up2_k hV313 (by decide)).trans ((up2_o hV307 (by decide)).trans ((up2_o hV305 (by decide)).trans (up2_o hV18 (by decide)))))))
        have pq337 : (V324 5 9).toInt = ((V 5 9)).toInt := congrArg Int32.toInt ((up2_o hV324 (by decide)).trans ((up2_o hV322 (by decide)).trans ((up2_k hV313 (by decide)).trans ((up2_o hV307 (by decide)).trans ((up2_o hV305 (by decide)).trans (up2_o hV18 (by decide)))))))
        have pq338 : (V324 3 13).toInt = ((V 3 13)).toInt := congrArg Int32.toInt ((up2_o hV324 (by decide)).trans ((up2_o hV322 (by decide)).trans ((up2_o hV313 (by decide)).trans ((up2_o hV307 (by decide)).trans ((up2_o hV305 (by decide)).trans (up2_o hV18 (by decide)))))))
        have pq339 : (V324 43 (5 * b + 2)).toInt = ((V 43 (5 * b + 2))).toInt := congrArg Int32.toInt ((up2_o hV324 (by decide)).trans ((up2_o hV322 (by decide)).trans ((up2_o hV313 (by decide)).trans ((up2_o hV307 (by decide)).trans ((up2_o hV305 (by decide)).trans (up2_o hV18 (by decide)))))))
        have pq340 : (V324 42 b).toInt = ((V 42 b)).toInt := congrArg Int32.toInt ((up2_o hV324 (by decide)).trans ((up2_o hV322 (by decide)).trans ((up2_o hV313 (by decide)).trans ((up2_o hV307 (by decide)).trans ((up2_o hV305 (by decide)).trans (up2_o hV18 (by decide)))))))
        have pq341 : (V324 41 b).toInt = ((V 41 b)).toInt := congrArg Int32.toInt ((up2_o hV324 (by decide)).trans ((up2_o hV322 (by decide)).trans ((up2_o hV313 (by decide)).trans ((up2_o hV307 (by decide)).trans ((up2_o hV305 (by decide)).trans (up2_o hV18 (by decide)))))))
        have me344 : ME V V324 0 := (ME.up (ME.up (ME.up (ME.up (ME.up (ME.up ME.rf hV18 (Or.inl ⟨by decide, by decide, by first | omega | ((try (have i_hz17 := Imp.go hz17 (by omega))); (try (have i_op8 := Imp.go op8 (by omega))); (try (have i_sf := Imp.go sf (by omega))); (try (have i_bc := Imp.go bc (by omega))); (try (have i_rwq := Imp.go rwq (by omega))); (try (have i_hop := Imp.go hop (by omega))); (try (have i_moa := Imp.go moa (by omega))); (try (have i_moa := Imp.go moa (by omega))); (try (have i_hop := Imp.go hop (by omega))); (try (have i_rwq := Imp.go rwq (by omega))); (try (have i_bc := Imp.go bc (by omega))); (try (have i_sf := Imp.go sf (by omega))); (try (have i_op8 := Imp.go op8 (by omega))); (try (have i_hz17 := Imp.go hz17 (by omega))); omega)⟩)) hV305 (Or.inl ⟨by decide, by decide, by first | omega | ((try (have i_hz17 := Imp.go hz17 (by omega))); (try (have i_op8 := Imp.go op8 (by omega))); (try (have i_sf := Imp.go sf (by omega))); (try (have i_bc := Imp.go bc (by omega))); (try (have i_rwq := Imp.go rwq (by omega))); (try (have i_hop := Imp.go hop (by omega))); (try (have i_moa := Imp.go moa (by omega))); (try (have i_moa := Imp.go moa (by omega))); (try (have i_hop := Imp.go hop (by omega))); (try (have i_rwq := Imp.go rwq (by omega))); (try (have i_bc := Imp.go bc (by omega))); (try (have i_sf := Imp.go sf (by omega))); (try (have i_op8 := Imp.go op8 (by omega))); (try (have i_hz17 := Imp.go hz17 (by omega))); omega)⟩)) hV307 (Or.inl ⟨by decide, by decide, by first | omega | ((try (have i_hz17 := Imp.go hz17 (by omega))); (try (have i_op8 := Imp.go op8 (by omega))); (try (have i_sf := Imp.go sf (by omega))); (try (have i_bc := Imp.go bc (by omega))); (try (have i_rwq := Imp.go rwq (by omega))); (try (have i_hop := Imp.go hop (by omega))); (try (have i_moa := Imp.go moa (by omega))); (try (have i_moa := Imp.go moa (by omega))); (try (have i_hop := Imp.go hop (by omega))); (try (have i_rwq := Imp.go rwq (by omega))); (try (have i_bc := Imp.go bc (by omega))); (try (have i_sf := Imp.go sf (by omega))); (try (have i_op8 := Imp.go op8 (by omega))); (try (have i_hz17 := Imp.go hz17 (by omega))); omega)⟩)) hV313 (Or.inr (by omega))) hV322 (Or.inl ⟨by decide, by decide, by first | omega | ((try (have i_hz17 := Imp.go hz17 (by omega))); (try (have i_op8 := Imp.go op8 (by omega))); (try (have i_sf := Imp.go sf (by omega))); (try (have i_bc := Imp.go bc (by omega))); (try (have i_rwq := Imp.go rwq (by omega))); (try (have i_hop := Imp.go hop (by omega))); (try (have i_moa := Imp.go moa (by omega))); (try (have i_moa := Imp.go moa (by omega))); (try (have i_hop := Imp.go hop (by omega))); (try (have i_rwq := Imp.go rwq (by omega))); (try (have i_bc := Imp.go bc (by omega))); (try (have i_sf := Imp.go sf (by omega))); (try (have i_op8 := Imp.go op8 (by omega))); (try (have i_hz17 := Imp.go hz17 (by omega))); omega)⟩)) hV324 (Or.inl ⟨by decide, by decide, by first | omega | ((try (have i_hz17 := Imp.go hz17 (by omega))); (try (have i_op8 := Imp.go op8 (by omega))); (try (have i_sf := Imp.go sf (by omega))); (try (have i_bc := Imp.go bc (by omega))); (try (have i_rwq := Imp.go rwq (by omega))); (try (have i_hop := Imp.go hop (by omega))); (try (have i_moa := Imp.go moa (by omega))); (try (have i_moa := Imp.go moa (by omega))); (try (have i_hop := Imp.go hop (by omega))); (try (have i_rwq := Imp.go rwq (by omega))); (try (have i_bc := Imp.go bc (by omega))); (try (have i_sf := Imp.go sf (by omega))); (try (have i_op8 := Imp.go op8 (by omega))); (try (have i_hz17 := Imp.go hz17 (by omega))); omega)⟩))
        have ep345 : V324 84 gf = z17 := ((up2_o hV324 (by decide)).trans ((up2_o hV322 (by decide)).trans ((up2_o hV313 (by decide)).trans ((up2_o hV307 (by decide)).trans ((up2_o hV305 (by decide)).trans (up2_s hV18))))))
        have af343 : (V324 42 b).toInt ≤ (V324 84 gf).toInt ∨ (bdp V324 b (V324 84 gf).toInt.toNat).1 = true := by rw [ep345, me344.1.bd, me344.1 42 b (by decide) (by decide)]; exact atn
        have mo342 : MO V324 Z b gf True (QN V324 b) (QN V324 b) := MO.ch mo me329 ((up2_o hV324 (by decide)).trans ((up2_o hV322 (by decide)).trans ((up2_o hV313 (by decide)).trans ((up2_o hV307 (by decide)).trans ((up2_o hV305 (by decide)).trans ((up2_o hV18 (by decide)).trans ea67.symm)))))) ((up2_o hV324 (by decide)).trans ((up2_o hV322 (by decide)).trans ((up2_o hV313 (by decide)).trans ((up2_o hV307 (by decide)).trans ((up2_o hV305 (by decide)).trans ((up2_o hV18 (by decide)).trans ea80.symm)))))) (fun _ => Or.inl (by omega)) (fun x h => FK.k4 (by first | omega | ((try (have i_hz17 := Imp.go hz17 (by omega))); (try (have i_op8 := Imp.go op8 (by omega))); (try (have i_sf := Imp.go sf (by omega))); (try (have i_bc := Imp.go bc (by omega))); (try (have i_rwq := Imp.go rwq (by omega))); (try (have i_hop := Imp.go hop (by omega))); (try (have i_moa := Imp.go moa (by omega))); (try (have i_moa := Imp.go moa (by omega))); (try (have i_hop := Imp.go hop (by omega))); (try (have i_rwq := Imp.go rwq (by omega))); (try (have i_bc := Imp.go bc (by omega))); (try (have i_sf := Imp.go sf (by omega))); (try (have i_op8 := Imp.go op8 (by omega))); (try (have i_hz17 := Imp.go hz17 (by omega))); omega)) (by first | omega | ((try (have i_hz17 := Imp.go hz17 (by omega))); (try (have i_op8 := Imp.go op8 (by omega))); (try (have i_sf := Imp.go sf (by omega))); (try (have i_bc := Imp.go bc (by omega))); (try (have i_rwq := Imp.go rwq (by omega))); (try (have i_hop := Imp.go hop (by omega))); (try (have i_moa := Imp.go moa (by omega))); (try (have i_moa := Imp.go moa (by omega))); (try (have i_hop := Imp.go hop (by omega))); (try (have i_rwq := Imp.go rwq (by omega))); (try (have i_bc := Imp.go bc (by omega))); (try (have i_sf := Imp.go sf (by omega))); (try (have i_op8 := Imp.go op8 (by omega))); (try (have i_hz17 := Imp.go hz17 (by omega))); omega)) (by first | omega | ((try (have i_hz17 := Imp.go hz17 (by omega))); (try (have i_op8 := Imp.go op8 (by omega))); (try (have i_sf := Imp.go sf (by omega))); (try (have i_bc := Imp.go bc (by omega))); (try (have i_rwq := Imp.go rwq (by omega))); (try (have i_hop := Imp.go hop (by omega))); (try (have i_moa := Imp.go moa (by omega))); (try (have i_moa := Imp.go moa (by omega))); (try (have i_hop := Imp.go hop (by omega))); (try (have i_rwq := Imp.go rwq (by omega))); (try (have i_bc := Imp.go bc (by omega))); (try (have i_sf := Imp.go sf (by omega))); (try (have i_op8 := Imp.go op8 (by omega))); (try (have i_hz17 := Imp.go hz17 (by omega))); omega)) af343 (by first | omega | ((try (have i_hz17 := Imp.go hz17 (by omega))); (try (have i_op8 := Imp.go op8 (by omega))); (try (have i_sf := Imp.go sf (by omega))); (try (have i_bc := Imp.go bc (by omega))); (try (have i_rwq := Imp.go rwq (by omega))); (try (have i_hop := Imp.go hop (by omega))); (try (have i_moa := Imp.go moa (by omega))); (try (have i_moa := Imp.go moa (by omega))); (try (have i_hop := Imp.go hop (by omega))); (try (have i_rwq := Imp.go rwq (by omega))); (try (have i_bc := Imp.go bc (by omega))); (try (have i_sf := Imp.go sf (by omega))); (try (have i_op8 := Imp.go op8 (by omega))); (try (have i_hz17 := Imp.go hz17 (by omega))); omega)) (fun hph => absurd hph (by omega)))
        have rp346 : MJ V324 Z b := MO.mj mo342 (by omega) (by omega) id id Or.inr
        have o9 : opf gB.1 at9.toNat = 14 := ((enO_i ⟨opf gB.1 at9.toNat, op9⟩).2.2.2.2.2.2.2.2.2.2.2.2.2.2.2).mp (show enO (opf gB.1 at9.toNat) = 15 from c48.symm.trans (by omega))
        have p84 : psz (opf gB.1) (at9.toNat + 1) = psz (opf gB.1) at9.toNat + 2 := psz_2 (show opf gB.1 at9.toNat = 2 ∨ (10 ≤ opf gB.1 at9.toNat ∧ opf gB.1 at9.toNat ≤ 14) from by omega)
        have pw9 : psz (opf gB.1) (at9.toNat + 1) ≤ wl gB.1 := psz_le hi9
        have c42 : (V 42 b).toInt = ((wl gB.1 : Nat) : Int) := bc.1.1
        exact W.zret (v := 0) hx hb hr rfl (fun t ht hW => ⟨⟨0, (V324, L), rfl, ⟨hMV324, agV324, rfl, (by decide), (Imp.mk (fun hp => absurd hp (by decide))), (Imp.mk (fun _ => rp346)), (Imp.mk (fun hp => absurd hp (by decide))), (by exfalso; omega)⟩, by rw [ht]; exact hP, va_K.moved hW.alike hK, hD⟩, hS.F ht⟩) hS.2.2 dX5_worksWith_170
      · skip
        have ajV313 : agr [] [] V307 V313 := by rw [hw318]; exact agr.rf
        refine va_putN (D := D) (ci := 4) (v := .int z309) (ty := tyX4 11) (fs := (xfFrame V313 gf)) (C := RX4) (T := TX4) (N := 19) hx hb hg inX4 tyX4 tyX4_ok nmX4 hown hK hP hD hS (336 + gf) (xgFrame hgf) rfl 11 (by decide) (hnw.use 1200 n1200 rfl) (fun _ h9 => h9) rfl (tyX4_ok 11 (by decide)) rfl rfl (Nat.le_of_ble_eq_true rfl) dX5_worksWith_160 (fun H locs hP hD hS => ?_)
        obtain ⟨V347, hV347⟩ : ∃ z, z = up2 V313 78 gf z309 := ⟨_, rfl⟩
        have ew348 : (xw ad kk V313 L Z).set (336 + gf) ((Z.fa gf), .inr (4, (xfFrame V313 gf).set 11 (.int z309))) = xw ad kk V347 L Z := by rw [hV347]; exact xpFrame_given hgf
        have hP : va_P D vwCl (xw ad kk V347 L Z) H := by rw [← ew348]; exact hP
        have hD : va_D A (xw ad kk V347 L Z) := by rw [← ew348]; exact hD
        have hMV347 : rgd bX V347 := hMV313.put hV347 (i_full _)
        have agV347 : agr [(5, 6), (5, 7), (5, 9), (5, 11), (5, 12)] [39, 68, 75, 77, 78, 84] V V347 := agV313.up hV347 rfl
        refine lv_aload_n hx hb dX5_worksWith_163 rfl (lv_at hl 2 rfl) ?_
        refine lv_bipush (v := 6) hx hb dX5_worksWith_164 (by decide) ?_
        refine va_putN (D := D) (ci := 4) (v := .int 6) (ty := tyX4 1) (fs := (xfFrame V347 gf)) (C := RX4) (T := TX4) (N := 19) hx hb hg inX4 tyX4 tyX4_ok nmX4 hown hK hP hD hS (336 + gf) (xgFrame hgf) rfl 1 (by decide) (hnw.use 1190 n1190 rfl) (fun _ h9 => h9) rfl (tyX4_ok 1 (by decide)) rfl rfl (Nat.le_of_ble_eq_true rfl) dX5_worksWith_166 (fun H locs hP hD hS => ?_)
        obtain ⟨V349, hV349⟩ : ∃ z, z = up2 V347 68 gf 6 := ⟨_, rfl⟩
        have ew350 : (xw ad kk V347 L Z).set (336 + gf) ((Z.fa gf), .inr (4, (xfFrame V347 gf).set 1 (.int 6))) = xw ad kk V349 L Z := by rw [hV349]; exact xpFrame_phase hgf
        have hP : va_P D vwCl (xw ad kk V349 L Z) H := by rw [← ew350]; exact hP
        have hD : va_D A (xw ad kk V349 L Z) := by rw [← ew350]; exact hD
        have hMV349 : rgd bX V349 := hMV347.put hV349 (i_full _)
        have agV349 : agr [(5, 6), (5, 7), (5, 9), (5, 11), (5, 12)] [39, 68, 75, 77, 78, 84] V V349 := agV347.up hV349 rfl
        refine lv_iconst (v := 0) hx hb dX5_worksWith_169 (by decide) ?_
        have pq351 : (V349 5 6).toInt = ((V 5 6)).toInt := congrArg Int32.toInt ((up2_o hV349 (by decide)).trans ((up2_o hV347 (by decide)).trans ((ajV313 5 6 rfl).trans ((up2_o hV307 (by decide)).trans ((up2_o hV305 (by decide)).trans (up2_o hV18 (by decide)))))))
        have pq352 : (V349 67 gf).toInt = ((V 67 gf)).toInt := congrArg Int32.toInt ((up2_o hV349 (by decide)).trans ((up2_o hV347 (by decide)).trans ((ajV313 67 gf rfl).trans ((up2_o hV307 (by decide)).trans ((up2_o hV305 (by decide)).trans (up2_o hV18 (by decide)))))))
        have pq353 : (V349 68 gf).toInt = 6 := (congrArg Int32.toInt (up2_s hV349)).trans (by decide)
        have me354 : ME Va V349 gf := (ME.up (ME.up (ME.tr (ME.up (ME.up (ME.up mV hV18 (Or.inl ⟨by decide, by decide, Nat.le_refl _⟩)) hV305 (Or.inl ⟨by decide, by decide, Nat.le_refl _⟩)) hV307 (Or.inl ⟨by decide, by decide, Nat.le_refl _⟩)) (ME.ag ajV313 (by decide))) hV347 (Or.inl ⟨by decide, by decide, Nat.le_refl _⟩)) hV349 (Or.inl ⟨by decide, by decide, Nat.le_refl _⟩))
        have pq355 : (V349 70 gf).toInt = ((V 70 gf)).toInt := congrArg Int32.toInt ((up2_o hV349 (by decide)).trans ((up2_o hV347 (by decide)).trans ((ajV313 70 gf rfl).trans ((up2_o hV307 (by decide)).trans ((up2_o hV305 (by decide)).trans (up2_o hV18 (by decide)))))))
        have pq356 : (V349 71 gf).toInt = ((V 71 gf)).toInt := congrArg Int32.toInt ((up2_o hV349 (by decide)).trans ((up2_o hV347 (by decide)).trans ((ajV313 71 gf rfl).trans ((up2_o hV307 (by decide)).trans ((up2_o hV305 (by decide)).trans (up2_o hV18 (by decide)))))))
        have pq357 : (V349 75 gf).toInt = 0 := (congrArg Int32.toInt ((up2_o hV349 (by decide)).trans ((up2_o hV347 (by decide)).trans ((ajV313 75 gf rfl).trans ((up2_o hV307 (by decide)).trans (up2_s hV305)))))).trans (by decide)
        have pq358 : (V349 76 gf).toInt = ((V 76 gf)).toInt := congrArg Int32.toInt ((up2_o hV349 (by decide)).trans ((up2_o hV347 (by decide)).trans ((ajV313 76 gf rfl).trans ((up2_o hV307 (by decide)).trans ((up2_o hV305 (by decide)).trans (up2_o hV18 (by decide)))))))
        have pq359 : (V349 80 gf).toInt = ((V 80 gf)).toInt := congrArg Int32.toInt ((up2_o hV349 (by decide)).trans ((up2_o hV347 (by decide)).trans ((ajV313 80 gf rfl).trans ((up2_o hV307 (by decide)).trans ((up2_o hV305 (by decide)).trans (up2_o hV18 (by decide)))))))
        have pq360 : (V349 84 gf).toInt = z17.toInt := congrArg Int32.toInt ((up2_o hV349 (by decide)).trans ((up2_o hV347 (by decide)).trans ((ajV313 84 gf rfl).trans ((up2_o hV307 (by decide)).trans ((up2_o hV305 (by decide)).trans (up2_s hV18))))))
        have pq361 : (V349 5 8).toInt = ((V 5 8)).toInt := congrArg Int32.toInt ((up2_o hV349 (by decide)).trans ((up2_o hV347 (by decide)).trans ((ajV313 5 8 rfl).trans ((up2_o hV307 (by decide)).trans ((up2_o hV305 (by decide)).trans (up2_o hV18 (by decide)))))))
        have pq362 : (V349 5 9).toInt = ((V 5 9)).toInt := congrArg Int32.toInt ((up2_o hV349 (by decide)).trans ((up2_o hV347 (by decide)).trans ((ajV313 5 9 rfl).trans ((up2_o hV307 (by decide)).trans ((up2_o hV305 (by decide)).trans (up2_o hV18 (by decide)))))))
        have pq363 : (V349 3 13).toInt = ((V 3 13)).toInt := congrArg Int32.toInt ((up2_o hV349 (by decide)).trans ((up2_o hV347 (by decide)).trans ((ajV313 3 13 rfl).trans ((up2_o hV307 (by decide)).trans ((up2_o hV305 (by decide)).trans (up2_o hV18 (by decide)))))))
        have pq364 : (V349 43 (5 * b + 2)).toInt = ((V 43 (5 * b + 2))).toInt := congrArg Int32.toInt ((up2_o hV349 (by decide)).trans ((up2_o hV347 (by decide)).trans ((ajV313 43 (5 * b + 2) rfl).trans ((up2_o hV307 (by decide)).trans ((up2_o hV305 (by decide)).trans (up2_o hV18 (by decide)))))))
        have pq365 : (V349 42 b).toInt = ((V 42 b)).toInt := congrArg Int32.toInt ((up2_o hV349 (by decide)).trans ((up2_o hV347 (by decide)).trans ((ajV313 42 b rfl).trans ((up2_o hV307 (by decide)).trans ((up2_o hV305 (by decide)).trans (up2_o hV18 (by decide)))))))
        have pq366 : (V349 41 b).toInt = ((V 41 b)).toInt := congrArg Int32.toInt ((up2_o hV349 (by decide)).trans ((up2_o hV347 (by decide)).trans ((ajV313 41 b rfl).trans ((up2_o hV307 (by decide)).trans ((up2_o hV305 (by decide)).trans (up2_o hV18 (by decide)))))))
        have me369 : ME V V349 0 := (ME.up (ME.up (ME.tr (ME.up (ME.up (ME.up ME.rf hV18 (Or.inl ⟨by decide, by decide, by first | omega | ((try (have i_hz17 := Imp.go hz17 (by omega))); (try (have i_op8 := Imp.go op8 (by omega))); (try (have i_sf := Imp.go sf (by omega))); (try (have i_bc := Imp.go bc (by omega))); (try (have i_rwq := Imp.go rwq (by omega))); (try (have i_hop := Imp.go hop (by omega))); (try (have i_moa := Imp.go moa (by omega))); (try (have i_moa := Imp.go moa (by omega))); (try (have i_hop := Imp.go hop (by omega))); (try (have i_rwq := Imp.go rwq (by omega))); (try (have i_bc := Imp.go bc (by omega))); (try (have i_sf := Imp.go sf (by omega))); (try (have i_op8 := Imp.go op8 (by omega))); (try (have i_hz17 := Imp.go hz17 (by omega))); omega)⟩)) hV305 (Or.inl ⟨by decide, by decide, by first | omega | ((try (have i_hz17 := Imp.go hz17 (by omega))); (try (have i_op8 := Imp.go op8 (by omega))); (try (have i_sf := Imp.go sf (by omega))); (try (have i_bc := Imp.go bc (by omega))); (try (have i_rwq := Imp.go rwq (by omega))); (try (have i_hop := Imp.go hop (by omega))); (try (have i_moa := Imp.go moa (by omega))); (try (have i_moa := Imp.go moa (by omega))); (try (have i_hop := Imp.go hop (by omega))); (try (have i_rwq := Imp.go rwq (by omega))); (try (have i_bc := Imp.go bc (by omega))); (try (have i_sf := Imp.go sf (by omega))); (try (have i_op8 := Imp.go op8 (by omega))); (try (have i_hz17 := Imp.go hz17 (by omega))); omega)⟩)) hV307 (Or.inl ⟨by decide, by decide, by first | omega | ((try (have i_hz17 := Imp.go hz17 (by omega))); (try (have i_op8 := Imp.go op8 (by omega))); (try (have i_sf := Imp.go sf (by omega))); (try (have i_bc := Imp.go bc (by omega))); (try (have i_rwq := Imp.go rwq (by omega))); (try (have i_hop := Imp.go hop (by omega))); (try (have i_moa := Imp.go moa (by omega))); (try (have i_moa := Imp.go moa (by omega))); (try (have i_hop := Imp.go hop (by omega))); (try (have i_rwq := Imp.go rwq (by omega))); (try (have i_bc := Imp.go bc (by omega))); (try (have i_sf := Imp.go sf (by omega))); (try (have i_op8 := Imp.go op8 (by omega))); (try (have i_hz17 := Imp.go hz17 (by omega))); omega)⟩)) (ME.ag ajV313 (by decide))) hV347 (Or.inl ⟨by decide, by decide, by first | omega | ((try (have i_hz17 := Imp.go hz17 (by omega))); (try (have i_op8 := Imp.go op8 (by omega))); (try (have i_sf := Imp.go sf (by omega))); (try (have i_bc := Imp.go bc (by omega))); (try (have i_rwq := Imp.go rwq (by omega))); (try (have i_hop := Imp.go hop (by omega))); (try (have i_moa := Imp.go moa (by omega))); (try (have i_moa := Imp.go moa (by omega))); (try (have i_hop := Imp.go hop (by omega))); (try (have i_rwq := Imp.go rwq (by omega))); (try (have i_bc := Imp.go bc (by omega))); (try (have i_sf := Imp.go sf (by omega))); (try (have i_op8 := Imp.go op8 (by omega))); (try (have i_hz17 := Imp.go hz17 (by omega))); omega)⟩)) hV349 (Or.inl ⟨by decide, by decide, by first | omega | ((try (have i_hz17 := Imp.go hz17 (by omega))); (try (have i_op8 := Imp.go op8 (by omega))); (try (have i_sf := Imp.go sf (by omega))); (try (have i_bc := Imp.go bc (by omega))); (try (have i_rwq := Imp.go rwq (by omega))); (try (have i_hop := Imp.go hop (by omega))); (try (have i_moa := Imp.go moa (by omega))); (try (have i_moa := Imp.go moa (by omega))); (try (have i_hop := Imp.go hop (by omega))); (try (have i_rwq := Imp.go rwq (by omega))); (try (have i_bc := Imp.go bc (by omega))); (try (have i_sf := Imp.go sf (by omega))); (try (have i_op8 := Imp.go op8 (by omega))); (try (have i_hz17 := Imp.go hz17 (by omega))); omega)⟩))
        have ep370 : V349 84 gf = z17 := ((up2_o hV349 (by decide)).trans ((up2_o hV347 (by decide)).trans ((ajV313 84 gf rfl).trans ((up2_o hV307 (by decide)).trans ((up2_o hV305 (by decide)).trans (up2_s hV18))))))
        have af368 : (V349 42 b).toInt ≤ (V349 84 gf).toInt ∨ (bdp V349 b (V349 84 gf).toInt.toNat).1 = true := by rw [ep370, me369.1.bd, me369.1 42 b (by decide) (by decide)]; exact atn
        have mo367 : MO V349 Z b gf True (QN V349 b) (QN V349 b) := MO.ch mo me354 ((up2_o hV349 (by decide)).trans ((up2_o hV347 (by decide)).trans ((ajV313 67 gf rfl).trans ((up2_o hV307 (by decide)).trans ((up2_o hV305 (by decide)).trans ((up2_o hV18 (by decide)).trans ea67.symm)))))) ((up2_o hV349 (by decide)).trans ((up2_o hV347 (by decide)).trans ((ajV313 80 gf rfl).trans ((up2_o hV307 (by decide)).trans ((up2_o hV305 (by decide)).trans ((up2_o hV18 (by decide)).trans ea80.symm)))))) (fun _ => Or.inl (by omega)) (fun x h => FK.k4 (by first | omega | ((try (have i_hz17 := Imp.go hz17 (by omega))); (try (have i_op8 := Imp.go op8 (by omega))); (try (have i_sf := Imp.go sf (by omega))); (try (have i_bc := Imp.go bc (by omega))); (try (have i_rwq := Imp.go rwq (by omega))); (try (have i_hop := Imp.go hop (by omega))); (try (have i_moa := Imp.go moa (by omega))); (try (have i_moa := Imp.go moa (by omega))); (try (have i_hop := Imp.go hop (by omega))); (try (have i_rwq := Imp.go rwq (by omega))); (try (have i_bc := Imp.go bc (by omega))); (try (have i_sf := Imp.go sf (by omega))); (try (have i_op8 := Imp.go op8 (by omega))); (try (have i_hz17 := Imp.go hz17 (by omega))); omega)) (by first | omega | ((try (have i_hz17 := Imp.go hz17 (by omega))); (try (have i_op8 := Imp.go op8 (by omega))); (try (have i_sf := Imp.go sf (by omega))); (try (have i_bc := Imp.go bc (by omega))); (try (have i_rwq := Imp.go rwq (by omega))); (try (have i_hop := Imp.go hop (by omega))); (try (have i_moa := Imp.go moa (by omega))); (try (have i_moa := Imp.go moa (by omega))); (try (have i_hop := Imp.go hop (by omega))); (try (have i_rwq := Imp.go rwq (by omega))); (try (have i_bc := Imp.go bc (by omega))); (try (have i_sf := Imp.go sf (by omega))); (try (have i_op8 := Imp.go op8 (by omega))); (try (have i_hz17 := Imp.go hz17 (by omega))); omega)) (by first | omega | ((try (have i_hz17 := Imp.go hz17 (by omega))); (try (have i_op8 := Imp.go op8 (by omega))); (try (have i_sf := Imp.go sf (by omega))); (try (have i_bc := Imp.go bc (by omega))); (try (have i_rwq := Imp.go rwq (by omega))); (try (have i_hop := Imp.go hop (by omega))); (try (have i_moa := Imp.go moa (by omega))); (try (have i_moa := Imp.go moa (by omega))); (try (have i_hop := Imp.go hop (by omega))); (try (have i_rwq := Imp.go rwq (by omega))); (try (have i_bc := Imp.go bc (by omega))); (try (have i_sf := Imp.go sf (by omega))); (try (have i_op8 := Imp.go op8 (by omega))); (try (have i_hz17 := Imp.go hz17 (by omega))); omega)) af368 (by first | omega | ((try (have i_hz17 := Imp.go hz17 (by omega))); (try (have i_op8 := Imp.go op8 (by omega))); (try (have i_sf := Imp.go sf (by omega))); (try (have i_bc := Imp.go bc (by omega))); (try (have i_rwq := Imp.go rwq (by omega))); (try (have i_hop := Imp.go hop (by omega))); (try (have i_moa := Imp.go moa (by omega))); (try (have i_moa := Imp.go moa (by omega))); (try (have i_hop := Imp.go hop (by omega))); (try (have i_rwq := Imp.go rwq (by omega))); (try (have i_bc := Imp.go bc (by omega))); (try (have i_sf := Imp.go sf (by omega))); (try (have i_op8 := Imp.go op8 (by omega))); (try (have i_hz17 := Imp.go hz17 (by omega))); omega)) (fun hph => absurd hph (by omega)))
        have rp371 : MJ V349 Z b := MO.mj mo367 (by omega) (by omega) id id Or.inr
        have o9 : opf gB.1 at9.toNat = 14 := ((enO_i ⟨opf gB.1 at9.toNat, op9⟩).2.2.2.2.2.2.2.2.2.2.2.2.2.2.2).mp (show enO (opf gB.1 at9.toNat) = 15 from c48.symm.trans (by omega))
        have p84 : psz (opf gB.1) (at9.toNat + 1) = psz (opf gB.1) at9.toNat + 2 := psz_2 (show opf gB.1 at9.toNat = 2 ∨ (10 ≤ opf gB.1 at9.toNat ∧ opf gB.1 at9.toNat ≤ 14) from by omega)
        have pw9 : psz (opf gB.1) (at9.toNat + 1) ≤ wl gB.1 := psz_le hi9
        have c42 : (V 42 b).toInt = ((wl gB.1 : Nat) : Int) := bc.1.1
        exact W.zret (v := 0) hx hb hr rfl (fun t ht hW => ⟨⟨0, (V349, L), rfl, ⟨hMV349, agV349, rfl, (by decide), (Imp.mk (fun hp => absurd hp (by decide))), (Imp.mk (fun _ => rp371)), (Imp.mk (fun hp => absurd hp (by decide))), (by exfalso; omega)⟩, by rw [ht]; exact hP, va_K.moved hW.alike hK, hD⟩, hS.F ht⟩) hS.2.2 dX5_worksWith_170
    · skip
      have f372 : ((V 84 gf)).toInt < ((V 42 b)).toInt := b_nle rfl rfl c14
      refine lv_aload_n hx hb dX5_worksWith_14 rfl (lv_at hl 0 rfl) ?_
      refine va_get (D := D) (ci := 5) (v := .ref (ad (38 + Int32.toNatClampNeg (V 5 5)))) (fs := (xfMachine ad V L Z)) (C := RX5) (T := TX5) (N := 15) hx hb hg inX5 hown hK hP 5 xgMachine rfl 5 (by decide) (hg _ w672) (fun _ h9 => h9) rfl dX5_worksWith_15 ?_
      refine g_topv (v := .ref (ad (38 + b))) (rfP (by first | omega | ((try (have i_op8 := Imp.go op8 (by omega))); (try (have i_sf := Imp.go sf (by omega))); (try (have i_bc := Imp.go bc (by omega))); (try (have i_rwq := Imp.go rwq (by omega))); (try (have i_hop := Imp.go hop (by omega))); (try (have i_moa := Imp.go moa (by omega))); (try (have i_moa := Imp.go moa (by omega))); (try (have i_hop := Imp.go hop (by omega))); (try (have i_rwq := Imp.go rwq (by omega))); (try (have i_bc := Imp.go bc (by omega))); (try (have i_sf := Imp.go sf (by omega))); (try (have i_op8 := Imp.go op8 (by omega))); omega))) ?_
      refine va_getN (D := D) (ci := 0) (v := .ref (ad (70 + b))) (fs := (xfBook ad V b)) (C := RX0) (T := TX0) (N := 13) hx hb hg inX0 hown hK hP (38 + b) (xgBook hb2) rfl 10 (by decide) (hnw.use 624 n624 rfl) (fun _ h9 => h9) rfl dX5_worksWith_18 ?_
      refine lv_aload_n hx hb dX5_worksWith_21 rfl (lv_at hl 1 rfl) ?_
      refine va_getN (D := D) (ci := 4) (v := .int (V 84 gf)) (fs := (xfFrame V gf)) (C := RX4) (T := TX4) (N := 19) hx hb hg inX4 hown hK hP (336 + gf) (xgFrame hgf) rfl 17 (by decide) (hnw.use 1206 n1206 rfl) (fun _ h9 => h9) rfl dX5_worksWith_22 ?_
      have il373 : b < 2 := by first | omega | ((try (have i_op8 := Imp.go op8 (by omega))); (try (have i_sf := Imp.go sf (by omega))); (try (have i_bc := Imp.go bc (by omega))); (try (have i_rwq := Imp.go rwq (by omega))); (try (have i_hop := Imp.go hop (by omega))); (try (have i_moa := Imp.go moa (by omega))); (try (have i_moa := Imp.go moa (by omega))); (try (have i_hop := Imp.go hop (by omega))); (try (have i_rwq := Imp.go rwq (by omega))); (try (have i_bc := Imp.go bc (by omega))); (try (have i_sf := Imp.go sf (by omega))); (try (have i_op8 := Imp.go op8 (by omega))); omega)
      refine va_iald (D := D) (i := (V 84 gf)) hx hb hK hP (70 + b) (63 + b) (xgcode il373) (xtcode il373) (i_in (a := ((V 84 gf)).toInt) rfl (by first | omega | ((try (have i_op8 := Imp.go op8 (by omega))); (try (have i_sf := Imp.go sf (by omega))); (try (have i_bc := Imp.go bc (by omega))); (try (have i_rwq := Imp.go rwq (by omega))); (try (have i_hop := Imp.go hop (by omega))); (try (have i_moa := Imp.go moa (by omega))); (try (have i_moa := Imp.go moa (by omega))); (try (have i_hop := Imp.go hop (by omega))); (try (have i_rwq := Imp.go rwq (by omega))); (try (have i_bc := Imp.go bc (by omega))); (try (have i_sf := Imp.go sf (by omega))); (try (have i_op8 := Imp.go op8 (by omega))); omega))) dX5_worksWith_25 ?_
      have kc374 := i_clamp (x := (V 84 gf)) rfl (by first | omega | ((try (have i_op8 := Imp.go op8 (by omega))); (try (have i_sf := Imp.go sf (by omega))); (try (have i_bc := Imp.go bc (by omega))); (try (have i_rwq := Imp.go rwq (by omega))); (try (have i_hop := Imp.go hop (by omega))); (try (have i_moa := Imp.go moa (by omega))); (try (have i_moa := Imp.go moa (by omega))); (try (have i_hop := Imp.go hop (by omega))); (try (have i_rwq := Imp.go rwq (by omega))); (try (have i_bc := Imp.go bc (by omega))); (try (have i_sf := Imp.go sf (by omega))); (try (have i_op8 := Imp.go op8 (by omega))); omega))
      refine g_top (v := V 48 (8200 * b + (Int32.toNatClampNeg (V 84 gf)))) (if_pos (by first | omega | ((try (have i_op8 := Imp.go op8 (by omega))); (try (have i_sf := Imp.go sf (by omega))); (try (have i_bc := Imp.go bc (by omega))); (try (have i_rwq := Imp.go rwq (by omega))); (try (have i_hop := Imp.go hop (by omega))); (try (have i_moa := Imp.go moa (by omega))); (try (have i_moa := Imp.go moa (by omega))); (try (have i_hop := Imp.go hop (by omega))); (try (have i_rwq := Imp.go rwq (by omega))); (try (have i_bc := Imp.go bc (by omega))); (try (have i_sf := Imp.go sf (by omega))); (try (have i_op8 := Imp.go op8 (by omega))); omega))) ?_
      refine lv_goto (tgt := 30) hx hb dX5_worksWith_26 (by decide) ?_
      refine lv_istore_n (lv' := [(3, .int (V 48 (8200 * b + (Int32.toNatClampNeg (V 84 gf))))), (0, .ref (ad 5)), (1, .ref (Z.fa gf)), (2, .int p1)]) hx hb dX5_worksWith_30 rfl hl (by decide) rfl (fun ls hl => ?_)
      refine lv_aload_n hx hb dX5_worksWith_31 rfl (lv_at hl 2 rfl) ?_
      refine lv_dup hx hb dX5_worksWith_32 rfl ?_
      refine va_getN (D := D) (ci := 4) (v := .int (V 84 gf)) (fs := (xfFrame V gf)) (C := RX4) (T := TX4) (N := 19) hx hb hg inX4 hown hK hP (336 + gf) (xgFrame hgf) rfl 17 (by decide) (hnw.use 1206 n1206 rfl) (fun _ h9 => h9) rfl dX5_worksWith_33 ?_
      refine lv_iconst (v := 1) hx hb dX5_worksWith_36 (by decide) ?_
      refine lv_iadd hx hb dX5_worksWith_37 ?_
      refine lv_topi (fun z375 ez375 => ?_)
      have hz375 : z375.toInt = ((V 84 gf)).toInt + 1 := i_add ez375 rfl (by decide) (by omega)
      refine va_putN (D := D) (ci := 4) (v := .int z375) (ty := tyX4 17) (fs := (xfFrame V gf)) (C := RX4) (T := TX4) (N := 19) hx hb hg inX4 tyX4 tyX4_ok nmX4 hown hK hP hD hS (336 + gf) (xgFrame hgf) rfl 17 (by decide) (hnw.use 1206 n1206 rfl) (fun _ h9 => h9) rfl (tyX4_ok 17 (by decide)) rfl rfl (Nat.le_of_ble_eq_true rfl) dX5_worksWith_38 (fun H locs hP hD hS => ?_)
      obtain ⟨V376, hV376⟩ : ∃ z, z = up2 V 84 gf z375 := ⟨_, rfl⟩
      have ew377 : (xw ad kk V L Z).set (336 + gf) ((Z.fa gf), .inr (4, (xfFrame V gf).set 17 (.int z375))) = xw ad kk V376 L Z := by rw [hV376]; exact xpFrame_at hgf
      have hP : va_P D vwCl (xw ad kk V376 L Z) H := by rw [← ew377]; exact hP
      have hD : va_D A (xw ad kk V376 L Z) := by rw [← ew377]; exact hD
      have hMV376 : rgd bX V376 := hMV.put hV376 (show 0 ≤ z375.toInt ∧ z375.toInt ≤ 2147483647 from by first | omega | ((try (have i_op8 := Imp.go op8 (by omega))); (try (have i_sf := Imp.go sf (by omega))); (try (have i_bc := Imp.go bc (by omega))); (try (have i_rwq := Imp.go rwq (by omega))); (try (have i_hop := Imp.go hop (by omega))); (try (have i_moa := Imp.go moa (by omega))); (try (have i_moa := Imp.go moa (by omega))); (try (have i_hop := Imp.go hop (by omega))); (try (have i_rwq := Imp.go rwq (by omega))); (try (have i_bc := Imp.go bc (by omega))); (try (have i_sf := Imp.go sf (by omega))); (try (have i_op8 := Imp.go op8 (by omega))); omega))
      have agV376 : agr [(5, 6), (5, 7), (5, 9), (5, 11), (5, 12)] [39, 68, 75, 77, 78, 84] V V376 := agV.up hV376 rfl
      have kca := i_clamp (x := V 84 gf) rfl (by omega)
      have hop1 := hop (Int32.toNatClampNeg (V 84 gf)) (by omega) (by omega)
      have atn : (V 42 b).toInt ≤ z375.toInt ∨ (bdp V b z375.toInt.toNat).1 = true := Or.inr (by rw [show z375.toInt.toNat = Int32.toNatClampNeg (V 84 gf) + 1 from by first | omega | ((try (have i_op8 := Imp.go op8 (by omega))); (try (have i_sf := Imp.go sf (by omega))); (try (have i_bc := Imp.go bc (by omega))); (try (have i_rwq := Imp.go rwq (by omega))); (try (have i_hop := Imp.go hop (by omega))); (try (have i_moa := Imp.go moa (by omega))); (try (have i_moa := Imp.go moa (by omega))); (try (have i_hop := Imp.go hop (by omega))); (try (have i_rwq := Imp.go rwq (by omega))); (try (have i_bc := Imp.go bc (by omega))); (try (have i_sf := Imp.go sf (by omega))); (try (have i_op8 := Imp.go op8 (by omega))); omega)]; exact hop1.2)
      refine lv_iload_n hx hb dX5_worksWith_41 rfl (lv_at hl 3 rfl) ?_
      by_cases q378 : p1 = 10
      · refine g_top (v := 10) q378 ?_
        have fq378 : p1.toInt = 10 := b_eq rfl (by decide) q378
        refine lv_tableIn (x := 10) (off := 34) (tgt := 76) hx hb dX5_worksWith_42 (by decide) (by decide) (by decide) (by decide) ?_
        refine lv_aload_n hx hb dX5_worksWith_76 rfl (lv_at hl 1 rfl) ?_
        refine lv_iload_n hx hb dX5_worksWith_77 rfl (lv_at hl 0 rfl) ?_
        refine gA_void (gA_runV (As := [.int (V 48 (8200 * b + (Int32.toNatClampNeg (V 84 gf))))]) (rest := []) (ci := 5) (q0 := 5) hx hb hml hown hg hP hD hK hS hA hnw hgk (x_put9 l D ks H.size ad kk V376 L Z (V 48 (8200 * b + (Int32.toNatClampNeg (V 84 gf)))) hMV376 ) w1466 w1468 w72 w171 w1469 rfl xgMachine hdV_yX5_put ⟨Nat.le_of_ble_eq_true rfl, Nat.le_of_ble_eq_true rfl⟩ rfl hl.1 rfl (Nat.le_of_ble_eq_true rfl) dX5_worksWith_78 ⟨Nat.le_of_ble_eq_true rfl, Nat.le_of_ble_eq_true rfl⟩) hP hD hK hS hA (fun u380 H locs w381 hP hD hK hS => ?_)
        obtain ⟨V383, L384⟩ := u380
        obtain ⟨hMV383, ajV383, axL384, t382⟩ := w381
        have axL384 : L = L384 := Eq.symm axL384
        subst axL384
        replace hP : va_P D vwCl (xw ad kk V383 L Z) H := hP
        replace hD : va_D A (xw ad kk V383 L Z) := hD
        replace hMV383 : rgd bX V383 := hMV383
        replace ajV383 : agr [(5, 7)] [39] V376 V383 := ajV383
        have agV383 : agr [(5, 6), (5, 7), (5, 9), (5, 11), (5, 12)] [39, 68, 75, 77, 78, 84] V V383 := agV376.tr ajV383 (by decide) (by decide)
        replace t382 : (((V376 5 7).toInt < 2048) ∧ V383 = (up2 (up2 V376 5 7 (V376 5 7 + 1)) 39 (Int32.toNatClampNeg (V376 5 7)) (V 48 (8200 * b + (Int32.toNatClampNeg (V 84 gf)))))) ∨ ((2048 ≤ (V376 5 7).toInt) ∧ V383 = V376) := t382
        rcases t382 with ⟨hc385, hw386⟩ | ⟨hc387, hw388⟩
        · skip
          have pq390 : (V376 5 7).toInt = ((V 5 7)).toInt := congrArg Int32.toInt (up2_o hV376 (by decide))
          have r391 : 0 ≤ ((V 5 7)).toInt ∧ ((V 5 7)).toInt ≤ 2048 := hMV 5 7
          obtain ⟨z389, ez389⟩ : ∃ y : Int32, y = V376 5 7 + 1 := ⟨_, rfl⟩
          have hz389 : z389.toInt = (V376 5 7).toInt + 1 := i_add ez389 rfl (by decide) (by first | omega | ((try (have i_op8 := Imp.go op8 (by omega))); (try (have i_sf := Imp.go sf (by omega))); (try (have i_bc := Imp.go bc (by omega))); (try (have i_rwq := Imp.go rwq (by omega))); (try (have i_hop := Imp.go hop (by omega))); (try (have i_moa := Imp.go moa (by omega))); (try (have i_moa := Imp.go moa (by omega))); (try (have i_hop := Imp.go hop (by omega))); (try (have i_rwq := Imp.go rwq (by omega))); (try (have i_bc := Imp.go bc (by omega))); (try (have i_sf := Imp.go sf (by omega))); (try (have i_op8 := Imp.go op8 (by omega))); omega))
          obtain ⟨V392, hV392⟩ : ∃ z, z = up2 V376 5 7 z389 := ⟨_, rfl⟩
          have hV383 : V383 = up2 V392 39 (Int32.toNatClampNeg (V376 5 7)) (V 48 (8200 * b + (Int32.toNatClampNeg (V 84 gf)))) := by rw [hw386, hV392, ez389]
          refine lv_iconst (v := 1) hx hb dX5_worksWith_81 (by decide) ?_
          have pq393 : (V383 5 6).toInt = ((V 5 6)).toInt := congrArg Int32.toInt ((up2_o hV383 (by decide)).trans ((up2_k hV392 (by decide)).trans (up2_o hV376 (by decide))))
          have pq394 : (V383 67 gf).toInt = ((V 67 gf)).toInt := congrArg Int32.toInt ((up2_o hV383 (by decide)).trans ((up2_o hV392 (by decide)).trans (up2_o hV376 (by decide))))
          have pq395 : (V383 68 gf).toInt = ((V 68 gf)).toInt := congrArg Int32.toInt ((up2_o hV383 (by decide)).trans ((up2_o hV392 (by decide)).trans (up2_o hV376 (by decide))))
          have me396 : ME Va V383 gf := (ME.up (ME.up (ME.up mV hV376 (Or.inl ⟨by decide, by decide, Nat.le_refl _⟩)) hV392 (Or.inr (by omega))) hV383 (Or.inr (by omega)))
          have pq397 : (V383 70 gf).toInt = ((V 70 gf)).toInt := congrArg Int32.toInt ((up2_o hV383 (by decide)).trans ((up2_o hV392 (by decide)).trans (up2_o hV376 (by decide))))
          have pq398 : (V383 71 gf).toInt = ((V 71 gf)).toInt := congrArg Int32.toInt ((up2_o hV383 (by decide)).trans ((up2_o hV392 (by decide)).trans (up2_o hV376 (by decide))))
          have pq399 : (V383 75 gf).toInt = ((V 75 gf)).toInt := congrArg Int32.toInt ((up2_o hV383 (by decide)).trans ((up2_o hV392 (by decide)).trans (up2_o hV376 (by decide))))
          have pq400 : (V383 76 gf).toInt = ((V 76 gf)).toInt := congrArg Int32.toInt ((up2_o hV383 (by decide)).trans ((up2_o hV392 (by decide)).trans (up2_o hV376 (by decide))))
          have pq401 : (V383 80 gf).toInt = ((V 80 gf)).toInt := congrArg Int32.toInt ((up2_o hV383 (by decide)).trans ((up2_o hV392 (by decide)).trans (up2_o hV376 (by decide))))
          have pq402 : (V383 84 gf).toInt = z375.toInt := congrArg Int32.toInt ((up2_o hV383 (by decide)).trans ((up2_o hV392 (by decide)).trans (up2_s hV376)))
          have pq403 : (V383 5 8).toInt = ((V 5 8)).toInt := congrArg Int32.toInt ((up2_o hV383 (by decide)).trans ((up2_k hV392 (by decide)).trans (up2_o hV376 (by decide))))
          have pq404 : (V383 5 9).toInt = ((V 5 9)).toInt := congrArg Int32.toInt ((up2_o hV383 (by decide)).trans ((up2_k hV392 (by decide)).trans (up2_o hV376 (by decide))))
          have pq405 : (V383 3 13).toInt = ((V 3 13)).toInt := congrArg Int32.toInt ((up2_o hV383 (by decide)).trans ((up2_o hV392 (by decide)).trans (up2_o hV376 (by decide))))
          have pq406 : (V383 43 (5 * b + 2)).toInt = ((V 43 (5 * b + 2))).toInt := congrArg Int32.toInt ((up2_o hV383 (by decide)).trans ((up2_o hV392 (by decide)).trans (up2_o hV376 (by decide))))
          have pq407 : (V383 42 b).toInt = ((V 42 b)).toInt := congrArg Int32.toInt ((up2_o hV383 (by decide)).trans ((up2_o hV392 (by decide)).trans (up2_o hV376 (by decide))))
          have pq408 : (V383 41 b).toInt = ((V 41 b)).toInt := congrArg Int32.toInt ((up2_o hV383 (by decide)).trans ((up2_o hV392 (by decide)).trans (up2_o hV376 (by decide))))
          have me411 : ME V V383 0 := (ME.up (ME.up (ME.up ME.rf hV376 (Or.inl ⟨by decide, by decide, by first | omega | ((try (have i_op8 := Imp.go op8 (by omega))); (try (have i_sf := Imp.go sf (by omega))); (try (have i_bc := Imp.go bc (by omega))); (try (have i_rwq := Imp.go rwq (by omega))); (try (have i_hop := Imp.go hop (by omega))); (try (have i_moa := Imp.go moa (by omega))); (try (have i_moa := Imp.go moa (by omega))); (try (have i_hop := Imp.go hop (by omega))); (try (have i_rwq := Imp.go rwq (by omega))); (try (have i_bc := Imp.go bc (by omega))); (try (have i_sf := Imp.go sf (by omega))); (try (have i_op8 := Imp.go op8 (by omega))); omega)⟩)) hV392 (Or.inr (by omega))) hV383 (Or.inr (by omega)))
          have ep412 : V383 84 gf = z375 := ((up2_o hV383 (by decide)).trans ((up2_o hV392 (by decide)).trans (up2_s hV376)))
          have af410 : (V383 42 b).toInt ≤ (V383 84 gf).toInt ∨ (bdp V383 b (V383 84 gf).toInt.toNat).1 = true := by rw [ep412, me411.1.bd, me411.1 42 b (by decide) (by decide)]; exact atn
          have mo409 : MO V383 Z b gf True True True := MO.ch mo me396 ((up2_o hV383 (by decide)).trans ((up2_o hV392 (by decide)).trans ((up2_o hV376 (by decide)).trans ea67.symm))) ((up2_o hV383 (by decide)).trans ((up2_o hV392 (by decide)).trans ((up2_o hV376 (by decide)).trans ea80.symm))) (fun _ => Or.inl (by omega)) (fun x h => FK.k4 (by first | omega | ((try (have i_op8 := Imp.go op8 (by omega))); (try (have i_sf := Imp.go sf (by omega))); (try (have i_bc := Imp.go bc (by omega))); (try (have i_rwq := Imp.go rwq (by omega))); (try (have i_hop := Imp.go hop (by omega))); (try (have i_moa := Imp.go moa (by omega))); (try (have i_moa := Imp.go moa (by omega))); (try (have i_hop := Imp.go hop (by omega))); (try (have i_rwq := Imp.go rwq (by omega))); (try (have i_bc := Imp.go bc (by omega))); (try (have i_sf := Imp.go sf (by omega))); (try (have i_op8 := Imp.go op8 (by omega))); omega)) (by first | omega | ((try (have i_op8 := Imp.go op8 (by omega))); (try (have i_sf := Imp.go sf (by omega))); (try (have i_bc := Imp.go bc (by omega))); (try (have i_rwq := Imp.go rwq (by omega))); (try (have i_hop := Imp.go hop (by omega))); (try (have i_moa := Imp.go moa (by omega))); (try (have i_moa := Imp.go moa (by omega))); (try (have i_hop := Imp.go hop (by omega))); (try (have i_rwq := Imp.go rwq (by omega))); (try (have i_bc := Imp.go bc (by omega))); (try (have i_sf := Imp.go sf (by omega))); (try (have i_op8 := Imp.go op8 (by omega))); omega)) (by first | omega | ((try (have i_op8 := Imp.go op8 (by omega))); (try (have i_sf := Imp.go sf (by omega))); (try (have i_bc := Imp.go bc (by omega))); (try (have i_rwq := Imp.go rwq (by omega))); (try (have i_hop := Imp.go hop (by omega))); (try (have i_moa := Imp.go moa (by omega))); (try (have i_moa := Imp.go moa (by omega))); (try (have i_hop := Imp.go hop (by omega))); (try (have i_rwq := Imp.go rwq (by omega))); (try (have i_bc := Imp.go bc (by omega))); (try (have i_sf := Imp.go sf (by omega))); (try (have i_op8 := Imp.go op8 (by omega))); omega)) af410 (by first | omega | ((try (have i_op8 := Imp.go op8 (by omega))); (try (have i_sf := Imp.go sf (by omega))); (try (have i_bc := Imp.go bc (by omega))); (try (have i_rwq := Imp.go rwq (by omega))); (try (have i_hop := Imp.go hop (by omega))); (try (have i_moa := Imp.go moa (by omega))); (try (have i_moa := Imp.go moa (by omega))); (try (have i_hop := Imp.go hop (by omega))); (try (have i_rwq := Imp.go rwq (by omega))); (try (have i_bc := Imp.go bc (by omega))); (try (have i_sf := Imp.go sf (by omega))); (try (have i_op8 := Imp.go op8 (by omega))); omega)) (fun hph => absurd hph (by omega)))
          have o9 : opf gB.1 at9.toNat = 2 := ((enO_i ⟨opf gB.1 at9.toNat, op9⟩).2.2.2.2.2.2.2.2.2.2.1).mp (show enO (opf gB.1 at9.toNat) = 10 from c48.symm.trans (by omega))
          have p84 : psz (opf gB.1) (at9.toNat + 1) = psz (opf gB.1) at9.toNat + 2 := psz_2 (show opf gB.1 at9.toNat = 2 ∨ (10 ≤ opf gB.1 at9.toNat ∧ opf gB.1 at9.toNat ≤ 14) from by omega)
          have pw9 : psz (opf gB.1) (at9.toNat + 1) ≤ wl gB.1 := psz_le hi9
          have c42 : (V 42 b).toInt = ((wl gB.1 : Nat) : Int) := bc.1.1
          have ka9 : Int32.toNatClampNeg (V 84 gf) = psz (opf gB.1) at9.toNat + 1 := by have h9 := i_clamp (x := V 84 gf) rfl (by omega); omega
          have wa9 : (V 48 (8200 * b + (Int32.toNatClampNeg (V 84 gf)))).toInt = enA gB.1 at9.toNat := by rw [ka9]; exact cd9.2.1 (by unfold szO; rw [if_pos (show opf gB.1 at9.toNat = 2 ∨ (10 ≤ opf gB.1 at9.toNat ∧ opf gB.1 at9.toNat ≤ 14) from by omega)])
          unfold enA at wa9
          have o8 : nL gB.1 (2000 + 3 * at9.toNat) = 2 := o9
          rw [if_pos o8] at wa9
          have tx9 : (Int32.toNatClampNeg (V376 5 7)) = tw9 := by have h9 := i_clamp (x := V376 5 7) rfl (by omega); omega
          have vv9 : (V 48 (8200 * b + (Int32.toNatClampNeg (V 84 gf)))) = ((gB.1.2.1 (2001 + 3 * at9.toNat)).headD 0).toInt32 := Int32.toInt_inj.mp wa9
          have wr413 : (V383 3 13).toInt = (V 3 13).toInt := congrArg Int32.toInt ((up2_o hV383 (by decide)).trans ((up2_o hV392 (by decide)).trans (up2_o hV376 (by decide))))
          have wr414 : (V383 3 12).toInt = (V 3 12).toInt := congrArg Int32.toInt ((up2_o hV383 (by decide)).trans ((up2_o hV392 (by decide)).trans (up2_o hV376 (by decide))))
          have wr415 : (V383 67 gf).toInt = ((V 67 gf)).toInt := (congrArg Int32.toInt ((up2_o hV383 (by decide)).trans ((up2_o hV392 (by decide)).trans (up2_o hV376 (by decide)))))
          have wr416 : (V383 68 gf).toInt = ((V 68 gf)).toInt := (congrArg Int32.toInt ((up2_o hV383 (by decide)).trans ((up2_o hV392 (by decide)).trans (up2_o hV376 (by decide)))))
          have wr417 : (V383 69 gf).toInt = ((V 69 gf)).toInt := (congrArg Int32.toInt ((up2_o hV383 (by decide)).trans ((up2_o hV392 (by decide)).trans (up2_o hV376 (by decide)))))
          have wr418 : (V383 70 gf).toInt = ((V 70 gf)).toInt := (congrArg Int32.toInt ((up2_o hV383 (by decide)).trans ((up2_o hV392 (by decide)).trans (up2_o hV376 (by decide)))))
          have wr419 : (V383 71 gf).toInt = ((V 71 gf)).toInt := (congrArg Int32.toInt ((up2_o hV383 (by decide)).trans ((up2_o hV392 (by decide)).trans (up2_o hV376 (by decide)))))
          have wr420 : (V383 72 gf).toInt = ((V 72 gf)).toInt := (congrArg Int32.toInt ((up2_o hV383 (by decide)).trans ((up2_o hV392 (by decide)).trans (up2_o hV376 (by decide)))))
          have wr421 : (V383 73 gf).toInt = ((V 73 gf)).toInt := (congrArg Int32.toInt ((up2_o hV383 (by decide)).trans ((up2_o hV392 (by decide)).trans (up2_o hV376 (by decide)))))
          have wr422 : (V383 75 gf).toInt = ((V 75 gf)).toInt := (congrArg Int32.toInt ((up2_o hV383 (by decide)).trans ((up2_o hV392 (by decide)).trans (up2_o hV376 (by decide)))))
          have wr423 : (V383 84 gf).toInt = z375.toInt := (congrArg Int32.toInt ((up2_o hV383 (by decide)).trans ((up2_o hV392 (by decide)).trans (up2_s hV376))))
          have me424 : ME V V383 gf := (ME.up (ME.up (ME.up ME.rf hV376 (Or.inl ⟨by decide, by decide, Nat.le_refl _⟩)) hV392 (Or.inr (by omega))) hV383 (Or.inr (by omega)))
          have rl425 : RWl V383 gB gr t0 := RWl.mv hlr (fun i9 hi9 c9 h1 h2 => me424.2.1 c9 i9 h1 h2 (by omega)) (fun j9 hj9 => ((up2_k hV383 (by omega)).trans ((up2_o hV392 (by decide)).trans (up2_o hV376 (by decide))))) (by rw [((up2_o hV383 (by decide)).trans ((up2_o hV392 (by decide)).trans (up2_o hV376 (by decide))))]; exact Int.le_refl _) ((up2_o hV383 (by decide)).trans ((up2_o hV392 (by decide)).trans (up2_o hV376 (by decide))))
          have pq426 : (V383 5 7).toInt = z389.toInt := congrArg Int32.toInt ((up2_o hV383 (by decide)).trans (up2_s hV392))
          have fo8 : FRc V383 gB gr.length (Fwork lv o c sc me ps ((at9.toNat + 1 : Nat) : Int) v (((gB.1.2.1 (2001 + 3 * at9.toNat)).headD 0).toInt32 :: p)) := by rw [gl9]; exact ⟨⟨by omega, by omega⟩, ⟨by omega, ⟨by omega, by omega, by omega⟩, ⟨by omega, by omega, by omega⟩, ⟨by omega, by omega, by omega⟩⟩, (fun h9 => by have h8 := hps9 h9; exact ⟨by omega, by omega, by omega, by omega⟩), ⟨Int.natCast_nonneg _, by show _ = ((psz (opf gB.1) (at9.toNat + 1) : Nat) : Int); omega⟩, (((up2_o hV383 (by decide)).trans ((up2_o hV392 (by decide)).trans (up2_o hV376 (by decide)))).trans q74)⟩
          have esu : ESw U0 V := ESw.sy (ESw.ag (show agr [] [84] V U0 from agr.up agr.rf hU0 rfl) (by decide))
          have rlu : RWl V383 gB (Fwork lv o c sc me ps ((at9.toNat + 1 : Nat) : Int) v (((gB.1.2.1 (2001 + 3 * at9.toNat)).headD 0).toInt32 :: p) :: gr) (tw9 + 1) := ⟨t0, (show tw9 + 1 = t0 + (Fwork lv o c sc me ps ((at9.toNat + 1 : Nat) : Int) v (((gB.1.2.1 (2001 + 3 * at9.toNat)).headD 0).toInt32 :: p) : Fr).2.2.2.length from by show _ = t0 + (_ + 1); omega), fo8, fun _ _ => (by rw [gl9, ((up2_o hV383 (by decide)).trans ((up2_o hV392 (by decide)).trans (up2_o hV376 (by decide))))]; exact hb8), ⟨tw9, rfl, (by rw [← tx9]; exact (up2_s hV383).trans vv9), plC.mv hp8 (fun j9 hj9 => ((up2_k hV383 (by omega)).trans ((up2_o hV392 (by decide)).trans (up2_o hV376 (by decide)))))⟩, rl425⟩
          have rz9 : RW V383 gB (gm, ga, Fwork lv o c sc me ps ((at9.toNat + 1 : Nat) : Int) v (((gB.1.2.1 (2001 + 3 * at9.toNat)).headD 0).toInt32 :: p) :: gr) := RW.id rwu (ESw.tr esu (ESw.ag (show agr [(5, 7)] [39, 84] V V383 from (agr.up (agr.up (agr.up agr.rf hV376 rfl) hV392 rfl) hV383 rfl)) (by decide))) ((((up2_o hV383 (by decide)).trans ((up2_k hV392 (by decide)).trans (up2_o hV376 (by decide))))).trans (up2_o hU0 (by decide)).symm) ((((up2_o hV383 (by decide)).trans ((up2_k hV392 (by decide)).trans (up2_o hV376 (by decide))))).trans (up2_o hU0 (by decide)).symm) ((((up2_o hV383 (by decide)).trans ((up2_k hV392 (by decide)).trans (up2_o hV376 (by decide))))).trans (up2_o hU0 (by decide)).symm) ((((up2_o hV383 (by decide)).trans ((up2_k hV392 (by decide)).trans (up2_o hV376 (by decide))))).trans (up2_o hU0 (by decide)).symm) (show (V383 5 6).toInt = ((gr.length + 1 : Nat) : Int) from by omega) (show (V383 5 7).toInt = ((tw9 + 1 : Nat) : Int) from by omega) rlu
          have rx427 : ∃ f2, stM gB (gm, ga, gfr :: gr) = (gm, ga, f2 :: gr) ∧ RW V383 gB (gm, ga, f2 :: gr) := ⟨_, (by rw [hfe, st_12.trans (or_2 o9)]), rz9⟩
          exact W.zret (v := 1) hx hb hr rfl (fun t ht hW => ⟨⟨1, (V383, L), rfl, ⟨hMV383, agV383, rfl, (by decide), (Imp.mk (fun _ => mo409)), (Imp.mk (fun hp => absurd hp (by decide))), (Imp.mk (fun _ => (show (V383 5 6).toInt = (V 5 6).toInt ∧ (V383 67 gf).toInt = 4 ∧ (V383 68 gf).toInt = 0 from by first | omega | ((try (have i_op8 := Imp.go op8 (by omega))); (try (have i_sf := Imp.go sf (by omega))); (try (have i_bc := Imp.go bc (by omega))); (try (have i_rwq := Imp.go rwq (by omega))); (try (have i_hop := Imp.go hop (by omega))); (try (have i_moa := Imp.go moa (by omega))); (try (have i_moa := Imp.go moa (by omega))); (try (have i_hop := Imp.go hop (by omega))); (try (have i_rwq := Imp.go rwq (by omega))); (try (have i_bc := Imp.go bc (by omega))); (try (have i_sf := Imp.go sf (by omega))); (try (have i_op8 := Imp.go op8 (by omega))); omega)))), (Or.inl ⟨rfl, _, rx427⟩)⟩, by rw [ht]; exact hP, va_K.moved hW.alike hK, hD⟩, hS.F ht⟩) hS.2.2 dX5_worksWith_82
        · skip
          have ajV383 : agr [] [] V376 V383 := by rw [hw388]; exact agr.rf
          refine lv_iconst (v := 1) hx hb dX5_worksWith_81 (by decide) ?_
          have pq428 : (V383 5 6).toInt = ((V 5 6)).toInt := congrArg Int32.toInt ((ajV383 5 6 rfl).trans (up2_o hV376 (by decide)))
          have pq429 : (V383 67 gf).toInt = ((V 67 gf)).toInt := congrArg Int32.toInt ((ajV383 67 gf rfl).trans (up2_o hV376 (by decide)))
          have pq430 : (V383 68 gf).toInt = ((V 68 gf)).toInt := congrArg Int32.toInt ((ajV383 68 gf rfl).trans (up2_o hV376 (by decide)))
          have me431 : ME Va V383 gf := (ME.tr (ME.up mV hV376 (Or.inl ⟨by decide, by decide, Nat.le_refl _⟩)) (ME.ag ajV383 (by decide)))
          have pq432 : (V383 70 gf).toInt = ((V 70 gf)).toInt := congrArg Int32.toInt ((ajV383 70 gf rfl).trans (up2_o hV376 (by decide)))
          have pq433 : (V383 71 gf).toInt = ((V 71 gf)).toInt := congrArg Int32.toInt ((ajV383 71 gf rfl).trans (up2_o hV376 (by decide)))
          have pq434 : (V383 75 gf).toInt = ((V 75 gf)).toInt := congrArg Int32.toInt ((ajV383 75 gf rfl).trans (up2_o hV376 (by decide)))
          have pq435 : (V383 76 gf).toInt = ((V 76 gf)).toInt := congrArg Int32.toInt ((ajV383 76 gf rfl).trans (up2_o hV376 (by decide)))
          have pq436 : (V383 80 gf).toInt = ((V 80 gf)).toInt := congrArg Int32.toInt ((ajV383 80 gf rfl).trans (up2_o hV376 (by decide)))
          have pq437 : (V383 84 gf).toInt = z375.toInt := congrArg Int32.toInt ((ajV383 84 gf rfl).trans (up2_s hV376))
          have pq438 : (V383 5 8).toInt = ((V 5 8)).toInt := congrArg Int32.toInt ((ajV383 5 8 rfl).trans (up2_o hV376 (by decide)))
          have pq439 : (V383 5 9).toInt = ((V 5 9)).toInt := congrArg Int32.toInt ((ajV383 5 9 rfl).trans (up2_o hV376 (by decide)))
          have pq440 : (V383 3 13).toInt = ((V 3 13)).toInt := congrArg Int32.toInt ((ajV383 3 13 rfl).trans (up2_o hV376 (by decide)))
          have pq441 : (V383 43 (5 * b + 2)).toInt = ((V 43 (5 * b + 2))).toInt := congrArg Int32.toInt ((ajV383 43 (5 * b + 2) rfl).trans (up2_o hV376 (by decide)))
          have pq442 : (V383 42 b).toInt = ((V 42 b)).toInt := congrArg Int32.toInt ((ajV383 42 b rfl).trans (up2_o hV376 (by decide)))
          have pq443 : (V383 41 b).toInt = ((V 41 b)).toInt := congrArg Int32.toInt ((ajV383 41 b rfl).trans (up2_o hV376 (by decide)))
          have me446 : ME V V383 0 := (ME.tr (ME.up ME.rf hV376 (Or.inl ⟨by decide, by decide, by first | omega | ((try (have i_op8 := Imp.go op8 (by omega))); (try (have i_sf := Imp.go sf (by omega))); (try (have i_bc := Imp.go bc (by omega))); (try (have i_rwq := Imp.go rwq (by omega))); (try (have i_hop := Imp.go hop (by omega))); (try (have i_moa := Imp.go moa (by omega))); (try (have i_moa := Imp.go moa (by omega))); (try (have i_hop := Imp.go hop (by omega))); (try (have i_rwq := Imp.go rwq (by omega))); (try (have i_bc := Imp.go bc (by omega))); (try (have i_sf := Imp.go sf (by omega))); (try (have i_op8 := Imp.go op8 (by omega))); omega)⟩)) (ME.ag ajV383 (by decide)))
          have af445 : (V383 42 b).toInt ≤ (V383 84 gf).toInt ∨ (bdp V383 b (V383 84 gf).toInt.toNat).1 = true := by rw [((ajV383 84 gf rfl).trans (up2_s hV376)), me446.1.bd, me446.1 42 b (by decide) (by decide)]; exact atn
          have mo444 : MO V383 Z b gf True True True := MO.ch mo me431 ((ajV383 67 gf rfl).trans ((up2_o hV376 (by decide)).trans ea67.symm)) ((ajV383 80 gf rfl).trans ((up2_o hV376 (by decide)).trans ea80.symm)) (fun _ => Or.inl (by omega)) (fun x h => FK.k4 (by first | omega | ((try (have i_op8 := Imp.go op8 (by omega))); (try (have i_sf := Imp.go sf (by omega))); (try (have i_bc := Imp.go bc (by omega))); (try (have i_rwq := Imp.go rwq (by omega))); (try (have i_hop := Imp.go hop (by omega))); (try (have i_moa := Imp.go moa (by omega))); (try (have i_moa := Imp.go moa (by omega))); (try (have i_hop := Imp.go hop (by omega))); (try (have i_rwq := Imp.go rwq (by omega))); (try (have i_bc := Imp.go bc (by omega))); (try (have i_sf := Imp.go sf (by omega))); (try (have i_op8 := Imp.go op8 (by omega))); omega)) (by first | omega | ((try (have i_op8 := Imp.go op8 (by omega))); (try (have i_sf := Imp.go sf (by omega))); (try (have i_bc := Imp.go bc (by omega))); (try (have i_rwq := Imp.go rwq (by omega))); (try (have i_hop := Imp.go hop (by omega))); (try (have i_moa := Imp.go moa (by omega))); (try (have i_moa := Imp.go moa (by omega))); (try (have i_hop := Imp.go hop (by omega))); (try (have i_rwq := Imp.go rwq (by omega))); (try (have i_bc := Imp.go bc (by omega))); (try (have i_sf := Imp.go sf (by omega))); (try (have i_op8 := Imp.go op8 (by omega))); omega)) (by first | omega | ((try (have i_op8 := Imp.go op8 (by omega))); (try (have i_sf := Imp.go sf (by omega))); (try (have i_bc := Imp.go bc (by omega))); (try (have i_rwq := Imp.go rwq (by omega))); (try (have i_hop := Imp.go hop (by omega))); (try (have i_moa := Imp.go moa (by omega))); (try (have i_moa := Imp.go moa (by omega))); (try (have i_hop := Imp.go hop (by omega))); (try (have i_rwq := Imp.go rwq (by omega))); (try (have i_bc := Imp.go bc (by omega))); (try (have i_sf := Imp.go sf (by omega))); (try (have i_op8 := Imp.go op8 (by omega))); omega)) af445 (by first | omega | ((try (have i_op8 := Imp.go op8 (by omega))); (try (have i_sf := Imp.go sf (by omega))); (try (have i_bc := Imp.go bc (by omega))); (try (have i_rwq := Imp.go rwq (by omega))); (try (have i_hop := Imp.go hop (by omega))); (try (have i_moa := Imp.go moa (by omega))); (try (have i_moa := Imp.go moa (by omega))); (try (have i_hop := Imp.go hop (by omega))); (try (have i_rwq := Imp.go rwq (by omega))); (try (have i_bc := Imp.go bc (by omega))); (try (have i_sf := Imp.go sf (by omega))); (try (have i_op8 := Imp.go op8 (by omega))); omega)) (fun hph => absurd hph (by omega)))
          have o9 : opf gB.1 at9.toNat = 2 := ((enO_i ⟨opf gB.1 at9.toNat, op9⟩).2.2.2.2.2.2.2.2.2.2.1).mp (show enO (opf gB.1 at9.toNat) = 10 from c48.symm.trans (by omega))
          have p84 : psz (opf gB.1) (at9.toNat + 1) = psz (opf gB.1) at9.toNat + 2 := psz_2 (show opf gB.1 at9.toNat = 2 ∨ (10 ≤ opf gB.1 at9.toNat ∧ opf gB.1 at9.toNat ≤ 14) from by omega)
          have pw9 : psz (opf gB.1) (at9.toNat + 1) ≤ wl gB.1 := psz_le hi9
          have c42 : (V 42 b).toInt = ((wl gB.1 : Nat) : Int) := bc.1.1
          have ka9 : Int32.toNatClampNeg (V 84 gf) = psz (opf gB.1) at9.toNat + 1 := by have h9 := i_clamp (x := V 84 gf) rfl (by omega); omega
          have wa9 : (V 48 (8200 * b + (Int32.toNatClampNeg (V 84 gf)))).toInt = enA gB.1 at9.toNat := by rw [ka9]; exact cd9.2.1 (by unfold szO; rw [if_pos (show opf gB.1 at9.toNat = 2 ∨ (10 ≤ opf gB.1 at9.toNat ∧ opf gB.1 at9.toNat ≤ 14) from by omega)])
          unfold enA at wa9
          have o8 : nL gB.1 (2000 + 3 * at9.toNat) = 2 := o9
          rw [if_pos o8] at wa9
          have pq447 : (V376 5 7).toInt = ((V 5 7)).toInt := congrArg Int32.toInt (up2_o hV376 (by decide))
          have r448 : 0 ≤ ((V 5 7)).toInt ∧ ((V 5 7)).toInt ≤ 2048 := hMV 5 7
          have pl9 : 0 ≤ p.length := Nat.zero_le _
          exact W.zret (v := 1) hx hb hr rfl (fun t ht hW => ⟨⟨1, (V383, L), rfl, ⟨hMV383, agV383, rfl, (by decide), (Imp.mk (fun _ => mo444)), (Imp.mk (fun hp => absurd hp (by decide))), (Imp.mk (fun _ => (show (V383 5 6).toInt = (V 5 6).toInt ∧ (V383 67 gf).toInt = 4 ∧ (V383 68 gf).toInt = 0 from by first | omega | ((try (have i_op8 := Imp.go op8 (by omega))); (try (have i_sf := Imp.go sf (by omega))); (try (have i_bc := Imp.go bc (by omega))); (try (have i_rwq := Imp.go rwq (by omega))); (try (have i_hop := Imp.go hop (by omega))); (try (have i_moa := Imp.go moa (by omega))); (try (have i_moa := Imp.go moa (by omega))); (try (have i_hop := Imp.go hop (by omega))); (try (have i_rwq := Imp.go rwq (by omega))); (try (have i_bc := Imp.go bc (by omega))); (try (have i_sf := Imp.go sf (by omega))); (try (have i_op8 := Imp.go op8 (by omega))); omega)))), (by exfalso; omega)⟩, by rw [ht]; exact hP, va_K.moved hW.alike hK, hD⟩, hS.F ht⟩) hS.2.2 dX5_worksWith_82
      have gq378 : p1.toInt ≠ 10 := b_neq rfl (by decide) q378
      by_cases q449 : p1 = 11
      · refine g_top (v := 11) q449 ?_
        have fq449 : p1.toInt = 11 := b_eq rfl (by decide) q449
        refine lv_tableIn (x := 11) (off := 41) (tgt := 83) hx hb dX5_worksWith_42 (by decide) (by decide) (by decide) (by decide) ?_
        have hwo := hop1.1.1 (by omega)
        refine lv_aload_n hx hb dX5_worksWith_83 rfl (lv_at hl 1 rfl) ?_
        refine lv_aload_n hx hb dX5_worksWith_84 rfl (lv_at hl 1 rfl) ?_
        refine va_get (D := D) (ci := 5) (v := .ref (ad (38 + Int32.toNatClampNeg (V376 5 5)))) (fs := (xfMachine ad V376 L Z)) (C := RX5) (T := TX5) (N := 15) hx hb hg inX5 hown hK hP 5 xgMachine rfl 5 (by decide) (hg _ w672) (fun _ h9 => h9) rfl dX5_worksWith_85 ?_
        have pq450 : (V376 5 5).toInt = ((V 5 5)).toInt := congrArg Int32.toInt (up2_o hV376 (by decide))
        refine g_topv (v := .ref (ad (38 + b))) (rfP (by first | omega | ((try (have i_op8 := Imp.go op8 (by omega))); (try (have i_sf := Imp.go sf (by omega))); (try (have i_bc := Imp.go bc (by omega))); (try (have i_rwq := Imp.go rwq (by omega))); (try (have i_hop := Imp.go hop (by omega))); (try (have i_moa := Imp.go moa (by omega))); (try (have i_moa := Imp.go moa (by omega))); (try (have i_hop := Imp.go hop (by omega))); (try (have i_rwq := Imp.go rwq (by omega))); (try (have i_bc := Imp.go bc (by omega))); (try (have i_sf := Imp.go sf (by omega))); (try (have i_op8 := Imp.go op8 (by omega))); omega))) ?_
        refine va_getN (D := D) (ci := 0) (v := .ref (ad (62 + b))) (fs := (xfBook ad V376 b)) (C := RX0) (T := TX0) (N := 13) hx hb hg inX0 hown hK hP (38 + b) (xgBook hb2) rfl 6 (by decide) (hnw.use 613 n613 rfl) (fun _ h9 => h9) rfl dX5_worksWith_88 ?_
        refine lv_iload_n hx hb dX5_worksWith_91 rfl (lv_at hl 0 rfl) ?_
        have il451 : b < 2 := by first | omega | ((try (have i_op8 := Imp.go op8 (by omega))); (try (have i_sf := Imp.go sf (by omega))); (try (have i_bc := Imp.go bc (by omega))); (try (have i_rwq := Imp.go rwq (by omega))); (try (have i_hop := Imp.go hop (by omega))); (try (have i_moa := Imp.go moa (by omega))); (try (have i_moa := Imp.go moa (by omega))); (try (have i_hop := Imp.go hop (by omega))); (try (have i_rwq := Imp.go rwq (by omega))); (try (have i_bc := Imp.go bc (by omega))); (try (have i_sf := Imp.go sf (by omega))); (try (have i_op8 := Imp.go op8 (by omega))); omega)
        refine va_iald (D := D) (i := (V 48 (8200 * b + (Int32.toNatClampNeg (V 84 gf))))) hx hb hK hP (62 + b) (55 + b) (xgsettingValues il451) (xtsettingValues il451) (i_in (a := ((V 48 (8200 * b + (Int32.toNatClampNeg (V 84 gf))))).toInt) rfl (by first | omega | ((try (have i_op8 := Imp.go op8 (by omega))); (try (have i_sf := Imp.go sf (by omega))); (try (have i_bc := Imp.go bc (by omega))); (try (have i_rwq := Imp.go rwq (by omega))); (try (have i_hop := Imp.go hop (by omega))); (try (have i_moa := Imp.go moa (by omega))); (try (have i_moa := Imp.go moa (by omega))); (try (have i_hop := Imp.go hop (by omega))); (try (have i_rwq := Imp.go rwq (by omega))); (try (have i_bc := Imp.go bc (by omega))); (try (have i_sf := Imp.go sf (by omega))); (try (have i_op8 := Imp.go op8 (by omega))); omega))) dX5_worksWith_92 ?_
        have kc452 := i_clamp (x := (V 48 (8200 * b + (Int32.toNatClampNeg (V 84 gf))))) rfl (by first | omega | ((try (have i_op8 := Imp.go op8 (by omega))); (try (have i_sf := Imp.go sf (by omega))); (try (have i_bc := Imp.go bc (by omega))); (try (have i_rwq := Imp.go rwq (by omega))); (try (have i_hop := Imp.go hop (by omega))); (try (have i_moa := Imp.go moa (by omega))); (try (have i_moa := Imp.go moa (by omega))); (try (have i_hop := Imp.go hop (by omega))); (try (have i_rwq := Imp.go rwq (by omega))); (try (have i_bc := Imp.go bc (by omega))); (try (have i_sf := Imp.go sf (by omega))); (try (have i_op8 := Imp.go op8 (by omega))); omega))
        refine g_top (v := V376 46 (12 * b + (Int32.toNatClampNeg (V 48 (8200 * b + (Int32.toNatClampNeg (V 84 gf))))))) (if_pos (by first | omega | ((try (have i_op8 := Imp.go op8 (by omega))); (try (have i_sf := Imp.go sf (by omega))); (try (have i_bc := Imp.go bc (by omega))); (try (have i_rwq := Imp.go rwq (by omega))); (try (have i_hop := Imp.go hop (by omega))); (try (have i_moa := Imp.go moa (by omega))); (try (have i_moa := Imp.go moa (by omega))); (try (have i_hop := Imp.go hop (by omega))); (try (have i_rwq := Imp.go rwq (by omega))); (try (have i_bc := Imp.go bc (by omega))); (try (have i_sf := Imp.go sf (by omega))); (try (have i_op8 := Imp.go op8 (by omega))); omega))) ?_
        refine g_top (v := (V 46 (12 * b + (Int32.toNatClampNeg (V 48 (8200 * b + (Int32.toNatClampNeg (V 84 gf)))))))) (up2_o hV376 (by decide)) ?_
        refine gA_void (gA_runV (As := [.int (V 46 (12 * b + (Int32.toNatClampNeg (V 48 (8200 * b + (Int32.toNatClampNeg (V 84 gf)))))))]) (rest := []) (ci := 5) (q0 := 5) hx hb hml hown hg hP hD hK hS hA hnw hgk (x_put9 l D ks H.size ad kk V376 L Z (V 46 (12 * b + (Int32.toNatClampNeg (V 48 (8200 * b + (Int32.toNatClampNeg (V 84 gf))))))) hMV376 ) w1466 w1468 w72 w171 w1469 rfl xgMachine hdV_yX5_put ⟨Nat.le_of_ble_eq_true rfl, Nat.le_of_ble_eq_true rfl⟩ rfl hl.1 rfl (Nat.le_of_ble_eq_true rfl) dX5_worksWith_93 ⟨Nat.le_of_ble_eq_true rfl, Nat.le_of_ble_eq_true rfl⟩) hP hD hK hS hA (fun u454 H locs w455 hP hD hK hS => ?_)
        obtain ⟨V457, L458⟩ := u454
        obtain ⟨hMV457, ajV457, axL458, t456⟩ := w455
        have axL458 : L = L458 := Eq.symm axL458
        subst axL458
        replace hP : va_P D vwCl (xw ad kk V457 L Z) H := hP
        replace hD : va_D A (xw ad kk V457 L Z) := hD
        replace hMV457 : rgd bX V457 := hMV457
        replace ajV457 : agr [(5, 7)] [39] V376 V457 := ajV457
        have agV457 : agr [(5, 6), (5, 7), (5, 9), (5, 11), (5, 12)] [39, 68, 75, 77, 78, 84] V V457 := agV376.tr ajV457 (by decide) (by decide)
        replace t456 : (((V376 5 7).toInt < 2048) ∧ V457 = (up2 (up2 V376 5 7 (V376 5 7 + 1)) 39 (Int32.toNatClampNeg (V376 5 7)) (V 46 (12 * b + (Int32.toNatClampNeg (V 48 (8200 * b + (Int32.toNatClampNeg (V 84 gf))))))))) ∨ ((2048 ≤ (V376 5 7).toInt) ∧ V457 = V376) := t456
        rcases t456 with ⟨hc459, hw460⟩ | ⟨hc461, hw462⟩
        · skip
          have pq464 : (V376 5 7).toInt = ((V 5 7)).toInt := congrArg Int32.toInt (up2_o hV376 (by decide))
          have r465 : 0 ≤ ((V 5 7)).toInt ∧ ((V 5 7)).toInt ≤ 2048 := hMV 5 7
          obtain ⟨z463, ez463⟩ : ∃ y : Int32, y = V376 5 7 + 1 := ⟨_, rfl⟩
          have hz463 : z463.toInt = (V376 5 7).toInt + 1 := i_add ez463 rfl (by decide) (by first | omega | ((try (have i_op8 := Imp.go op8 (by omega))); (try (have i_sf := Imp.go sf (by omega))); (try (have i_bc := Imp.go bc (by omega))); (try (have i_rwq := Imp.go rwq (by omega))); (try (have i_hop := Imp.go hop (by omega))); (try (have i_moa := Imp.go moa (by omega))); (try (have i_moa := Imp.go moa (by omega))); (try (have i_hop := Imp.go hop (by omega))); (try (have i_rwq := Imp.go rwq (by omega))); (try (have i_bc := Imp.go bc (by omega))); (try (have i_sf := Imp.go sf (by omega))); (try (have i_op8 := Imp.go op8 (by omega))); omega))
          obtain ⟨V466, hV466⟩ : ∃ z, z = up2 V376 5 7 z463 := ⟨_, rfl⟩
          have hV457 : V457 = up2 V466 39 (Int32.toNatClampNeg (V376 5 7)) (V 46 (12 * b + (Int32.toNatClampNeg (V 48 (8200 * b + (Int32.toNatClampNeg (V 84 gf))))))) := by rw [hw460, hV466, ez463]
          refine lv_iconst (v := 1) hx hb dX5_worksWith_96 (by decide) ?_
          have pq467 : (V457 5 6).toInt = ((V 5 6)).toInt := congrArg Int32.toInt ((up2_o hV457 (by decide)).trans ((up2_k hV466 (by decide)).trans (up2_o hV376 (by decide))))
          have pq468 : (V457 67 gf).toInt = ((V 67 gf)).toInt := congrArg Int32.toInt ((up2_o hV457 (by decide)).trans ((up2_o hV466 (by decide)).trans (up2_o hV376 (by decide))))
          have pq469 : (V457 68 gf).toInt = ((V 68 gf)).toInt := congrArg Int32.toInt ((up2_o hV457 (by decide)).trans ((up2_o hV466 (by decide)).trans (up2_o hV376 (by decide))))
          have me470 : ME Va V457 gf := (ME.up (ME.up (ME.up mV hV376 (Or.inl ⟨by decide, by decide, Nat.le_refl _⟩)) hV466 (Or.inr (by omega))) hV457 (Or.inr (by omega)))
          have pq471 : (V457 70 gf).toInt = ((V 70 gf)).toInt := congrArg Int32.toInt ((up2_o hV457 (by decide)).trans ((up2_o hV466 (by decide)).trans (up2_o hV376 (by decide))))
          have pq472 : (V457 71 gf).toInt = ((V 71 gf)).toInt := congrArg Int32.toInt ((up2_o hV457 (by decide)).trans ((up2_o hV466 (by decide)).trans (up2_o hV376 (by decide))))
          have pq473 : (V457 75 gf).toInt = ((V 75 gf)).toInt := congrArg Int32.toInt ((up2_o hV457 (by decide)).trans ((up2_o hV466 (by decide)).trans (up2_o hV376 (by decide))))
          have pq474 : (V457 76 gf).toInt = ((V 76 gf)).toInt := congrArg Int32.toInt ((up2_o hV457 (by decide)).trans ((up2_o hV466 (by decide)).trans (up2_o hV376 (by decide))))
          have pq475 : (V457 80 gf).toInt = ((V 80 gf)).toInt := congrArg Int32.toInt ((up2_o hV457 (by decide)).trans ((up2_o hV466 (by decide)).trans (up2_o hV376 (by decide))))
          have pq476 : (V457 84 gf).toInt = z375.toInt := congrArg Int32.toInt ((up2_o hV457 (by decide)).trans ((up2_o hV466 (by decide)).trans (up2_s hV376)))
          have pq477 : (V457 5 8).toInt = ((V 5 8)).toInt := congrArg Int32.toInt ((up2_o hV457 (by decide)).trans ((up2_k hV466 (by decide)).trans (up2_o hV376 (by decide))))
          have pq478 : (V457 5 9).toInt = ((V 5 9)).toInt := congrArg Int32.toInt ((up2_o hV457 (by decide)).trans ((up2_k hV466 (by decide)).trans (up2_o hV376 (by decide))))
          have pq479 : (V457 3 13).toInt = ((V 3 13)).toInt := congrArg Int32.toInt ((up2_o hV457 (by decide)).trans ((up2_o hV466 (by decide)).trans (up2_o hV376 (by decide))))
          have pq480 : (V457 43 (5 * b + 2)).toInt = ((V 43 (5 * b + 2))).toInt := congrArg Int32.toInt ((up2_o hV457 (by decide)).trans ((up2_o hV466 (by decide)).trans (up2_o hV376 (by decide))))
          have pq481 : (V457 42 b).toInt = ((V 42 b)).toInt := congrArg Int32.toInt ((up2_o hV457 (by decide)).trans ((up2_o hV466 (by decide)).trans (up2_o hV376 (by decide))))
          have pq482 : (V457 41 b).toInt = ((V 41 b)).toInt := congrArg Int32.toInt ((up2_o hV457 (by decide)).trans ((up2_o hV466 (by decide)).trans (up2_o hV376 (by decide))))
          have me485 : ME V V457 0 := (ME.up (ME.up (ME.up ME.rf hV376 (Or.inl ⟨by decide, by decide, by first | omega | ((try (have i_op8 := Imp.go op8 (by omega))); (try (have i_sf := Imp.go sf (by omega))); (try (have i_bc := Imp.go bc (by omega))); (try (have i_rwq := Imp.go rwq (by omega))); (try (have i_hop := Imp.go hop (by omega))); (try (have i_moa := Imp.go moa (by omega))); (try (have i_moa := Imp.go moa (by omega))); (try (have i_hop := Imp.go hop (by omega))); (try (have i_rwq := Imp.go rwq (by omega))); (try (have i_bc := Imp.go bc (by omega))); (try (have i_sf := Imp.go sf (by omega))); (try (have i_op8 := Imp.go op8 (by omega))); omega)⟩)) hV466 (Or.inr (by omega))) hV457 (Or.inr (by omega)))
          have ep486 : V457 84 gf = z375 := ((up2_o hV457 (by decide)).trans ((up2_o hV466 (by decide)).trans (up2_s hV376)))
          have af484 : (V457 42 b).toInt ≤ (V457 84 gf).toInt ∨ (bdp V457 b (V457 84 gf).toInt.toNat).1 = true := by rw [ep486, me485.1.bd, me485.1 42 b (by decide) (by decide)]; exact atn
          have mo483 : MO V457 Z b gf True True True := MO.ch mo me470 ((up2_o hV457 (by decide)).trans ((up2_o hV466 (by decide)).trans ((up2_o hV376 (by decide)).trans ea67.symm))) ((up2_o hV457 (by decide)).trans ((up2_o hV466 (by decide)).trans ((up2_o hV376 (by decide)).trans ea80.symm))) (fun _ => Or.inl (by omega)) (fun x h => FK.k4 (by first | omega | ((try (have i_op8 := Imp.go op8 (by omega))); (try (have i_sf := Imp.go sf (by omega))); (try (have i_bc := Imp.go bc (by omega))); (try (have i_rwq := Imp.go rwq (by omega))); (try (have i_hop := Imp.go hop (by omega))); (try (have i_moa := Imp.go moa (by omega))); (try (have i_moa := Imp.go moa (by omega))); (try (have i_hop := Imp.go hop (by omega))); (try (have i_rwq := Imp.go rwq (by omega))); (try (have i_bc := Imp.go bc (by omega))); (try (have i_sf := Imp.go sf (by omega))); (try (have i_op8 := Imp.go op8 (by omega))); omega)) (by first | omega | ((try (have i_op8 := Imp.go op8 (by omega))); (try (have i_sf := Imp.go sf (by omega))); (try (have i_bc := Imp.go bc (by omega))); (try (have i_rwq := Imp.go rwq (by omega))); (try (have i_hop := Imp.go hop (by omega))); (try (have i_moa := Imp.go moa (by omega))); (try (have i_moa := Imp.go moa (by omega))); (try (have i_hop := Imp.go hop (by omega))); (try (have i_rwq := Imp.go rwq (by omega))); (try (have i_bc := Imp.go bc (by omega))); (try (have i_sf := Imp.go sf (by omega))); (try (have i_op8 := Imp.go op8 (by omega))); omega)) (by first | omega | ((try (have i_op8 := Imp.go op8 (by omega))); (try (have i_sf := Imp.go sf (by omega))); (try (have i_bc := Imp.go bc (by omega))); (try (have i_rwq := Imp.go rwq (by omega))); (try (have i_hop := Imp.go hop (by omega))); (try (have i_moa := Imp.go moa (by omega))); (try (have i_moa := Imp.go moa (by omega))); (try (have i_hop := Imp.go hop (by omega))); (try (have i_rwq := Imp.go rwq (by omega))); (try (have i_bc := Imp.go bc (by omega))); (try (have i_sf := Imp.go sf (by omega))); (try (have i_op8 := Imp.go op8 (by omega))); omega)) af484 (by first | omega | ((try (have i_op8 := Imp.go op8 (by omega))); (try (have i_sf := Imp.go sf (by omega))); (try (have i_bc := Imp.go bc (by omega))); (try (have i_rwq := Imp.go rwq (by omega))); (try (have i_hop := Imp.go hop (by omega))); (try (have i_moa := Imp.go moa (by omega))); (try (have i_moa := Imp.go moa (by omega))); (try (have i_hop := Imp.go hop (by omega))); (try (have i_rwq := Imp.go rwq (by omega))); (try (have i_bc := Imp.go bc (by omega))); (try (have i_sf := Imp.go sf (by omega))); (try (have i_op8 := Imp.go op8 (by omega))); omega)) (fun hph => absurd hph (by omega)))
          have o9 : opf gB.1 at9.toNat = 11 := ((enO_i ⟨opf gB.1 at9.toNat, op9⟩).2.2.2.2.2.2.2.2.2.2.2.1).mp (show enO (opf gB.1 at9.toNat) = 11 from c48.symm.trans (by omega))
          have p84 : psz (opf gB.1) (at9.toNat + 1) = psz (opf gB.1) at9.toNat + 2 := psz_2 (show opf gB.1 at9.toNat = 2 ∨ (10 ≤ opf gB.1 at9.toNat ∧ opf gB.1 at9.toNat ≤ 14) from by omega)
          have pw9 : psz (opf gB.1) (at9.toNat + 1) ≤ wl gB.1 := psz_le hi9
          have c42 : (V 42 b).toInt = ((wl gB.1 : Nat) : Int) := bc.1.1
          have ka9 : Int32.toNatClampNeg (V 84 gf) = psz (opf gB.1) at9.toNat + 1 := by have h9 := i_clamp (x := V 84 gf) rfl (by omega); omega
          have wa9 : (V 48 (8200 * b + (Int32.toNatClampNeg (V 84 gf)))).toInt = enA gB.1 at9.toNat := by rw [ka9]; exact cd9.2.1 (by unfold szO; rw [if_pos (show opf gB.1 at9.toNat = 2 ∨ (10 ≤ opf gB.1 at9.toNat ∧ opf gB.1 at9.toNat ≤ 14) from by omega)])
          unfold enA at wa9
          have o8 : nL gB.1 (2000 + 3 * at9.toNat) = 11 := o9
          rw [if_neg (by omega), if_neg (by omega), if_neg (by omega)] at wa9
          have tx9 : (Int32.toNatClampNeg (V376 5 7)) = tw9 := by have h9 := i_clamp (x := V376 5 7) rfl (by omega); omega
          have nb9 := bc.2.2.2.2.2.2.1.2 _ hi9 o9
          have kb9 : Int32.toNatClampNeg (V 48 (8200 * b + (Int32.toNatClampNeg (V 84 gf)))) = nL gB.1 (2001 + 3 * at9.toNat) := by have h9 := i_clamp (x := (V 48 (8200 * b + (Int32.toNatClampNeg (V 84 gf))))) rfl (by omega); omega
          have vv9 : (V 46 (12 * b + (Int32.toNatClampNeg (V 48 (8200 * b + (Int32.toNatClampNeg (V 84 gf))))))) = (gB.2 (nL gB.1 (2001 + 3 * at9.toNat))) := by rw [kb9]; exact bc.2.2.2.2.1 _ (by omega)
          have wr487 : (V457 3 13).toInt = (V 3 13).toInt := congrArg Int32.toInt ((up2_o hV457 (by decide)).trans ((up2_o hV466 (by decide)).trans (up2_o hV376 (by decide))))
          have wr488 : (V457 3 12).toInt = (V 3 12).toInt := congrArg Int32.toInt ((up2_o hV457 (by decide)).trans ((up2_o hV466 (by decide)).trans (up2_o hV376 (by decide))))
          have wr489 : (V457 67 gf).toInt = ((V 67 gf)).toInt := (congrArg Int32.toInt ((up2_o hV457 (by decide)).trans ((up2_o hV466 (by decide)).trans (up2_o hV376 (by decide)))))
          have wr490 : (V457 68 gf).toInt = ((V 68 gf)).toInt := (congrArg Int32.toInt ((up2_o hV457 (by decide)).trans ((up2_o hV466 (by decide)).trans (up2_o hV376 (by decide)))))
          have wr491 : (V457 69 gf).toInt = ((V 69 gf)).toInt := (congrArg Int32.toInt ((up2_o hV457 (by decide)).trans ((up2_o hV466 (by decide)).trans (up2_o hV376 (by decide)))))
          have wr492 : (V457 70 gf).toInt = ((V 70 gf)).toInt := (congrArg Int32.toInt ((up2_o hV457 (by decide)).trans ((up2_o hV466 (by decide)).trans (up2_o hV376 (by decide)))))
          have wr493 : (V457 71 gf).toInt = ((V 71 gf)).toInt := (congrArg Int32.toInt ((up2_o hV457 (by decide)).trans ((up2_o hV466 (by decide)).trans (up2_o hV376 (by decide)))))
          have wr494 : (V457 72 gf).toInt = ((V 72 gf)).toInt := (congrArg Int32.toInt ((up2_o hV457 (by decide)).trans ((up2_o hV466 (by decide)).trans (up2_o hV376 (by decide)))))
          have wr495 : (V457 73 gf).toInt = ((V 73 gf)).toInt := (congrArg Int32.toInt ((up2_o hV457 (by decide)).trans ((up2_o hV466 (by decide)).trans (up2_o hV376 (by decide)))))
          have wr496 : (V457 75 gf).toInt = ((V 75 gf)).toInt := (congrArg Int32.toInt ((up2_o hV457 (by decide)).trans ((up2_o hV466 (by decide)).trans (up2_o hV376 (by decide)))))
          have wr497 : (V457 84 gf).toInt = z375.toInt := (congrArg Int32.toInt ((up2_o hV457 (by decide)).trans ((up2_o hV466 (by decide)).trans (up2_s hV376))))
          have me498 : ME V V457 gf := (ME.up (ME.up (ME.up ME.rf hV376 (Or.inl ⟨by decide, by decide, Nat.le_refl _⟩)) hV466 (Or.inr (by omega))) hV457 (Or.inr (by omega)))
          have rl499 : RWl V457 gB gr t0 := RWl.mv hlr (fun i9 hi9 c9 h1 h2 => me498.2.1 c9 i9 h1 h2 (by omega)) (fun j9 hj9 => ((up2_k hV457 (by omega)).trans ((up2_o hV466 (by decide)).trans (up2_o hV376 (by decide))))) (by rw [((up2_o hV457 (by decide)).trans ((up2_o hV466 (by decide)).trans (up2_o hV376 (by decide))))]; exact Int.le_refl _) ((up2_o hV457 (by decide)).trans ((up2_o hV466 (by decide)).trans (up2_o hV376 (by decide))))
          have pq500 : (V457 5 7).toInt = z463.toInt := congrArg Int32.toInt ((up2_o hV457 (by decide)).trans (up2_s hV466))
          have fo8 : FRc V457 gB gr.length (Fwork lv o c sc me ps ((at9.toNat + 1 : Nat) : Int) v ((gB.2 (nL gB.1 (2001 + 3 * at9.toNat))) :: p)) := by rw [gl9]; exact ⟨⟨by omega, by omega⟩, ⟨by omega, ⟨by omega, by omega, by omega⟩, ⟨by omega, by omega, by omega⟩, ⟨by omega, by omega, by omega⟩⟩, (fun h9 => by have h8 := hps9 h9; exact ⟨by omega, by omega, by omega, by omega⟩), ⟨Int.natCast_nonneg _, by show _ = ((psz (opf gB.1) (at9.toNat + 1) : Nat) : Int); omega⟩, (((up2_o hV457 (by decide)).trans ((up2_o hV466 (by decide)).trans (up2_o hV376 (by decide)))).trans q74)⟩
          have esu : ESw U0 V := ESw.sy (ESw.ag (show agr [] [84] V U0 from agr.up agr.rf hU0 rfl) (by decide))
          have rlu : RWl V457 gB (Fwork lv o c sc me ps ((at9.toNat + 1 : Nat) : Int) v ((gB.2 (nL gB.1 (2001 + 3 * at9.toNat))) :: p) :: gr) (tw9 + 1) := ⟨t0, (show tw9 + 1 = t0 + (Fwork lv o c sc me ps ((at9.toNat + 1 : Nat) : Int) v ((gB.2 (nL gB.1 (2001 + 3 * at9.toNat))) :: p) : Fr).2.2.2.length from by show _ = t0 + (_ + 1); omega), fo8, fun _ _ => (by rw [gl9, ((up2_o hV457 (by decide)).trans ((up2_o hV466 (by decide)).trans (up2_o hV376 (by decide))))]; exact hb8), ⟨tw9, rfl, (by rw [← tx9]; exact (up2_s hV457).trans vv9), plC.mv hp8 (fun j9 hj9 => ((up2_k hV457 (by omega)).trans ((up2_o hV466 (by decide)).trans (up2_o hV376 (by decide)))))⟩, rl499⟩
          have rz9 : RW V457 gB (gm, ga, Fwork lv o c sc me ps ((at9.toNat + 1 : Nat) : Int) v ((gB.2 (nL gB.1 (2001 + 3 * at9.toNat))) :: p) :: gr) := RW.id rwu (ESw.tr esu (ESw.ag (show agr [(5, 7)] [39, 84] V V457 from (agr.up (agr.up (agr.up agr.rf hV376 rfl) hV466 rfl) hV457 rfl)) (by decide))) ((((up2_o hV457 (by decide)).trans ((up2_k hV466 (by decide)).trans (up2_o hV376 (by decide))))).trans (up2_o hU0 (by decide)).symm) ((((up2_o hV457 (by decide)).trans ((up2_k hV466 (by decide)).trans (up2_o hV376 (by decide))))).trans (up2_o hU0 (by decide)).symm) ((((up2_o hV457 (by decide)).trans ((up2_k hV466 (by decide)).trans (up2_o hV376 (by decide))))).trans (up2_o hU0 (by decide)).symm) ((((up2_o hV457 (by decide)).trans ((up2_k hV466 (by decide)).trans (up2_o hV376 (by decide))))).trans (up2_o hU0 (by decide)).symm) (show (V457 5 6).toInt = ((gr.length + 1 : Nat) : Int) from by omega) (show (V457 5 7).toInt = ((tw9 + 1 : Nat) : Int) from by omega) rlu
          have rx501 : ∃ f2, stM gB (gm, ga, gfr :: gr) = (gm, ga, f2 :: gr) ∧ RW V457 gB (gm, ga, f2 :: gr) := ⟨_, (by rw [hfe, st_12.trans (or_11 o9)]), rz9⟩
          exact W.zret (v := 1) hx hb hr rfl (fun t ht hW => ⟨⟨1, (V457, L), rfl, ⟨hMV457, agV457, rfl, (by decide), (Imp.mk (fun _ => mo483)), (Imp.mk (fun hp => absurd hp (by decide))), (Imp.mk (fun _ => (show (V457 5 6).toInt = (V 5 6).toInt ∧ (V457 67 gf).toInt = 4 ∧ (V457 68 gf).toInt = 0 from by first | omega | ((try (have i_op8 := Imp.go op8 (by omega))); (try (have i_sf := Imp.go sf (by omega))); (try (have i_bc := Imp.go bc (by omega))); (try (have i_rwq := Imp.go rwq (by omega))); (try (have i_hop := Imp.go hop (by omega))); (try (have i_moa := Imp.go moa (by omega))); (try (have i_moa := Imp.go moa (by omega))); (try (have i_hop := Imp.go hop (by omega))); (try (have i_rwq := Imp.go rwq (by omega))); (try (have i_bc := Imp.go bc (by omega))); (try (have i_sf := Imp.go sf (by omega))); (try (have i_op8 := Imp.go op8 (by omega))); omega)))), (Or.inl ⟨rfl, _, rx501⟩)⟩, by rw [ht]; exact hP, va_K.moved hW.alike hK, hD⟩, hS.F ht⟩) hS.2.2 dX5_worksWith_97
        · skip
          have ajV457 : agr [] [] V376 V457 := by rw [hw462]; exact agr.rf
          refine lv_iconst (v := 1) hx hb dX5_worksWith_96 (by decide) ?_
          have pq502 : (V457 5 6).toInt = ((V 5 6)).toInt := congrArg Int32.toInt ((ajV457 5 6 rfl).trans (up2_o hV376 (by decide)))
          have pq503 : (V457 67 gf).toInt = ((V 67 gf)).toInt := congrArg Int32.toInt ((ajV457 67 gf rfl).trans (up2_o hV376 (by decide)))
          have pq504 : (V457 68 gf).toInt = ((V 68 gf)).toInt := congrArg Int32.toInt ((ajV457 68 gf rfl).trans (up2_o hV376 (by decide)))
          have me505 : ME Va V457 gf := (ME.tr (ME.up mV hV376 (Or.inl ⟨by decide, by decide, Nat.le_refl _⟩)) (ME.ag ajV457 (by decide)))
          have pq506 : (V457 70 gf).toInt = ((V 70 gf)).toInt := congrArg Int32.toInt ((ajV457 70 gf rfl).trans (up2_o hV376 (by decide)))
          have pq507 : (V457 71 gf).toInt = ((V 71 gf)).toInt := congrArg Int32.toInt ((ajV457 71 gf rfl).trans (up2_o hV376 (by decide)))
          have pq508 : (V457 75 gf).toInt = ((V 75 gf)).toInt := congrArg Int32.toInt ((ajV457 75 gf rfl).trans (up2_o hV376 (by decide)))
          have pq509 : (V457 76 gf).toInt = ((V 76 gf)).toInt := congrArg Int32.toInt ((ajV457 76 gf rfl).trans (up2_o hV376 (by decide)))
          have pq510 : (V457 80 gf).toInt = ((V 80 gf)).toInt := congrArg Int32.toInt ((ajV457 80 gf rfl).trans (up2_o hV376 (by decide)))
          have pq511 : (V457 84 gf).toInt = z375.toInt := congrArg Int32.toInt ((ajV457 84 gf rfl).trans (up2_s hV376))
          have pq512 : (V457 5 8).toInt = ((V 5 8)).toInt := congrArg Int32.toInt ((ajV457 5 8 rfl).trans (up2_o hV376 (by decide)))
          have pq513 : (V457 5 9).toInt = ((V 5 9)).toInt := congrArg Int32.toInt ((ajV457 5 9 rfl).trans (up2_o hV376 (by decide)))
          have pq514 : (V457 3 13).toInt = ((V 3 13)).toInt := congrArg Int32.toInt ((ajV457 3 13 rfl).trans (up2_o hV376 (by decide)))
          have pq515 : (V457 43 (5 * b + 2)).toInt = ((V 43 (5 * b + 2))).toInt := congrArg Int32.toInt ((ajV457 43 (5 * b + 2) rfl).trans (up2_o hV376 (by decide)))
          have pq516 : (V457 42 b).toInt = ((V 42 b)).toInt := congrArg Int32.toInt ((ajV457 42 b rfl).trans (up2_o hV376 (by decide)))
          have pq517 : (V457 41 b).toInt = ((V 41 b)).toInt := congrArg Int32.toInt ((ajV457 41 b rfl).trans (up2_o hV376 (by decide)))
          have me520 : ME V V457 0 := (ME.tr (ME.up ME.rf hV376 (Or.inl ⟨by decide, by decide, by first | omega | ((try (have i_op8 := Imp.go op8 (by omega))); (try (have i_sf := Imp.go sf (by omega))); (try (have i_bc := Imp.go bc (by omega))); (try (have i_rwq := Imp.go rwq (by omega))); (try (have i_hop := Imp.go hop (by omega))); (try (have i_moa := Imp.go moa (by omega))); (try (have i_moa := Imp.go moa (by omega))); (try (have i_hop := Imp.go hop (by omega))); (try (have i_rwq := Imp.go rwq (by omega))); (try (have i_bc := Imp.go bc (by omega))); (try (have i_sf := Imp.go sf (by omega))); (try (have i_op8 := Imp.go op8 (by omega))); omega)⟩)) (ME.ag ajV457 (by decide)))
          have af519 : (V457 42 b).toInt ≤ (V457 84 gf).toInt ∨ (bdp V457 b (V457 84 gf).toInt.toNat).1 = true := by rw [((ajV457 84 gf rfl).trans (up2_s hV376)), me520.1.bd, me520.1 42 b (by decide) (by decide)]; exact atn
          have mo518 : MO V457 Z b gf True True True := MO.ch mo me505 ((ajV457 67 gf rfl).trans ((up2_o hV376 (by decide)).trans ea67.symm)) ((ajV457 80 gf rfl).trans ((up2_o hV376 (by decide)).trans ea80.symm)) (fun _ => Or.inl (by omega)) (fun x h => FK.k4 (by first | omega | ((try (have i_op8 := Imp.go op8 (by omega))); (try (have i_sf := Imp.go sf (by omega))); (try (have i_bc := Imp.go bc (by omega))); (try (have i_rwq := Imp.go rwq (by omega))); (try (have i_hop := Imp.go hop (by omega))); (try (have i_moa := Imp.go moa (by omega))); (try (have i_moa := Imp.go moa (by omega))); (try (have i_hop := Imp.go hop (by omega))); (try (have i_rwq := Imp.go rwq (by omega))); (try (have i_bc := Imp.go bc (by omega))); (try (have i_sf := Imp.go sf (by omega))); (try (have i_op8 := Imp.go op8 (by omega))); omega)) (by first | omega | ((try (have i_op8 := Imp.go op8 (by omega))); (try (have i_sf := Imp.go sf (by omega))); (try (have i_bc := Imp.go bc (by omega))); (try (have i_rwq := Imp.go rwq (by omega))); (try (have i_hop := Imp.go hop (by omega))); (try (have i_moa := Imp.go moa (by omega))); (try (have i_moa := Imp.go moa (by omega))); (try (have i_hop := Imp.go hop (by omega))); (try (have i_rwq := Imp.go rwq (by omega))); (try (have i_bc := Imp.go bc (by omega))); (try (have i_sf := Imp.go sf (by omega))); (try (have i_op8 := Imp.go op8 (by omega))); omega)) (by first | omega | ((try (have i_op8 := Imp.go op8 (by omega))); (try (have i_sf := Imp.go sf (by omega))); (try (have i_bc := Imp.go bc (by omega))); (try (have i_rwq := Imp.go rwq (by omega))); (try (have i_hop := Imp.go hop (by omega))); (try (have i_moa := Imp.go moa (by omega))); (try (have i_moa := Imp.go moa (by omega))); (try (have i_hop := Imp.go hop (by omega))); (try (have i_rwq := Imp.go rwq (by omega))); (try (have i_bc := Imp.go bc (by omega))); (try (have i_sf := Imp.go sf (by omega))); (try (have i_op8 := Imp.go op8 (by omega))); omega)) af519 (by first | omega | ((try (have i_op8 := Imp.go op8 (by omega))); (try (have i_sf := Imp.go sf (by omega))); (try (have i_bc := Imp.go bc (by omega))); (try (have i_rwq := Imp.go rwq (by omega))); (try (have i_hop := Imp.go hop (by omega))); (try (have i_moa := Imp.go moa (by omega))); (try (have i_moa := Imp.go moa (by omega))); (try (have i_hop := Imp.go hop (by omega))); (try (have i_rwq := Imp.go rwq (by omega))); (try (have i_bc := Imp.go bc (by omega))); (try (have i_sf := Imp.go sf (by omega))); (try (have i_op8 := Imp.go op8 (by omega))); omega)) (fun hph => absurd hph (by omega)))
          have o9 : opf gB.1 at9.toNat = 11 := ((enO_i ⟨opf gB.1 at9.toNat, op9⟩).2.2.2.2.2.2.2.2.2.2.2.1).mp (show enO (opf gB.1 at9.toNat) = 11 from c48.symm.trans (by omega))
          have p84 : psz (opf gB.1) (at9.toNat + 1) = psz (opf gB.1) at9.toNat + 2 := psz_2 (show opf gB.1 at9.toNat = 2 ∨ (10 ≤ opf gB.1 at9.toNat ∧ opf gB.1 at9.toNat ≤ 14) from by omega)
          have pw9 : psz (opf gB.1) (at9.toNat + 1) ≤ wl gB.1 := psz_le hi9
          have c42 : (V 42 b).toInt = ((wl gB.1 : Nat) : Int) := bc.1.1
          have ka9 : Int32.toNatClampNeg (V 84 gf) = psz (opf gB.1) at9.toNat + 1 := by have h9 := i_clamp (x := V 84 gf) rfl (by omega); omega
          have wa9 : (V 48 (8200 * b + (Int32.toNatClampNeg (V 84 gf)))).toInt = enA gB.1 at9.toNat := by rw [ka9]; exact cd9.2.1 (by unfold szO; rw [if_pos (show opf gB.1 at9.toNat = 2 ∨ (10 ≤ opf gB.1 at9.toNat ∧ opf gB.1 at9.toNat ≤ 14) from by omega)])
          unfold enA at wa9
          have o8 : nL gB.1 (2000 + 3 * at9.toNat) = 11 := o9
          rw [if_neg (by omega), if_neg (by omega), if_neg (by omega)] at wa9
          have pq521 : (V376 5 7).toInt = ((V 5 7)).toInt := congrArg Int32.toInt (up2_o hV376 (by decide))
          have r522 : 0 ≤ ((V 5 7)).toInt ∧ ((V 5 7)).toInt ≤ 2048 := hMV 5 7
          have pl9 : 0 ≤ p.length := Nat.zero_le _
          exact W.zret (v := 1) hx hb hr rfl (fun t ht hW => ⟨⟨1, (V457, L), rfl, ⟨hMV457, agV457, rfl, (by decide), (Imp.mk (fun _ => mo518)), (Imp.mk (fun hp => absurd hp (by decide))), (Imp.mk (fun _ => (show (V457 5 6).toInt = (V 5 6).toInt ∧ (V457 67 gf).toInt = 4 ∧ (V457 68 gf).toInt = 0 from by first | omega | ((try (have i_op8 := Imp.go op8 (by omega))); (try (have i_sf := Imp.go sf (by omega))); (try (have i_bc := Imp.go bc (by omega))); (try (have i_rwq := Imp.go rwq (by omega))); (try (have i_hop := Imp.go hop (by omega))); (try (have i_moa := Imp.go moa (by omega))); (try (have i_moa := Imp.go moa (by omega))); (try (have i_hop := Imp.go hop (by omega))); (try (have i_rwq := Imp.go rwq (by omega))); (try (have i_bc := Imp.go bc (by omega))); (try (have i_sf := Imp.go sf (by omega))); (try (have i_op8 := Imp.go op8 (by omega))); omega)))), (by exfalso; omega)⟩, by rw [ht]; exact hP, va_K.moved hW.alike hK, hD⟩, hS.F ht⟩) hS.2.2 dX5_worksWith_97
      have gq449 : p1.toInt ≠ 11 := b_neq rfl (by decide) q449
      by_cases q523 : p1 = 12
      · refine g_top (v := 12) q523 ?_
        have fq523 : p1.toInt = 12 := b_eq rfl (by decide) q523
        refine lv_tableIn (x := 12) (off := 84) (tgt := 126) hx hb dX5_worksWith_42 (by decide) (by decide) (by decide) (by decide) ?_
        refine lv_aload_n hx hb dX5_worksWith_126 rfl (lv_at hl 1 rfl) ?_
        refine lv_iconst (v := 0) hx hb dX5_worksWith_127 (by decide) ?_
        refine lv_iload_n hx hb dX5_worksWith_128 rfl (lv_at hl 0 rfl) ?_
        have r524 : Int32.toInt 0 = 0 := by decide
        refine gA_void (gA_runV (As := [.int 0, .int (V 48 (8200 * b + (Int32.toNatClampNeg (V 84 gf))))]) (rest := []) (ci := 5) (q0 := 5) hx hb hml hown hg hP hD hK hS hA hnw hgk (x_failWith9 l D ks H.size ad kk V376 L Z 0 (V 48 (8200 * b + (Int32.toNatClampNeg (V 84 gf)))) hMV376 ) w1261 w1263 w46 w171 w1264 rfl xgMachine hdV_yX5_failWith ⟨Nat.le_of_ble_eq_true rfl, Nat.le_of_ble_eq_true rfl⟩ rfl hl.1 rfl (Nat.le_of_ble_eq_true rfl) dX5_worksWith_129 ⟨Nat.le_of_ble_eq_true rfl, Nat.le_of_ble_eq_true rfl⟩) hP hD hK hS hA (fun u526 H locs w527 hP hD hK hS => ?_)
        obtain ⟨V530, L531⟩ := u526
        obtain ⟨hMV530, ajV530, axL531, t528, t529⟩ := w527
        have axL531 : L = L531 := Eq.symm axL531
        subst axL531
        replace hP : va_P D vwCl (xw ad kk V530 L Z) H := hP
        replace hD : va_D A (xw ad kk V530 L Z) := hD
        replace hMV530 : rgd bX V530 := hMV530
        replace ajV530 : agr [(5, 9), (5, 11), (5, 12)] [] V376 V530 := ajV530
        have agV530 : agr [(5, 6), (5, 7), (5, 9), (5, 11), (5, 12)] [39, 68, 75, 77, 78, 84] V V530 := agV376.tr ajV530 (by decide) (by decide)
        replace t528 : (V530 5 9).toInt = 2 := t528
        replace t529 : ((True) ∧ V530 = (up2 (up2 (up2 V376 5 9 2) 5 11 0) 5 12 (V 48 (8200 * b + (Int32.toNatClampNeg (V 84 gf)))))) := t529
        have r532 : 0 ≤ ((V530 5 9)).toInt ∧ ((V530 5 9)).toInt ≤ 3 := hMV530 5 9
        have hw533 := t529.2
        obtain ⟨V534, hV534⟩ : ∃ z, z = up2 V376 5 9 2 := ⟨_, rfl⟩
        obtain ⟨V535, hV535⟩ : ∃ z, z = up2 V534 5 11 0 := ⟨_, rfl⟩
        have hV530 : V530 = up2 V535 5 12 (V 48 (8200 * b + (Int32.toNatClampNeg (V 84 gf)))) := by rw [hw533, hV535, hV534]
        refine lv_aload_n hx hb dX5_worksWith_132 rfl (lv_at hl 1 rfl) ?_
        refine lv_aload_n hx hb dX5_worksWith_133 rfl (lv_at hl 2 rfl) ?_
        have pq536 : (V530 5 6).toInt = ((V 5 6)).toInt := congrArg Int32.toInt ((up2_k hV530 (by decide)).trans ((up2_k hV535 (by decide)).trans ((up2_k hV534 (by decide)).trans (up2_o hV376 (by decide)))))
        have pq537 : (V530 67 gf).toInt = ((V 67 gf)).toInt := congrArg Int32.toInt ((up2_o hV530 (by decide)).trans ((up2_o hV535 (by decide)).trans ((up2_o hV534 (by decide)).trans (up2_o hV376 (by decide)))))
        have me538 : ME Va V530 gf := (ME.up (ME.up (ME.up (ME.up mV hV376 (Or.inl ⟨by decide, by decide, Nat.le_refl _⟩)) hV534 (Or.inr (by omega))) hV535 (Or.inr (by omega))) hV530 (Or.inr (by omega)))
        have pq539 : (V530 68 gf).toInt = ((V 68 gf)).toInt := congrArg Int32.toInt ((up2_o hV530 (by decide)).trans ((up2_o hV535 (by decide)).trans ((up2_o hV534 (by decide)).trans (up2_o hV376 (by decide)))))
        have pq540 : (V530 70 gf).toInt = ((V 70 gf)).toInt := congrArg Int32.toInt ((up2_o hV530 (by decide)).trans ((up2_o hV535 (by decide)).trans ((up2_o hV534 (by decide)).trans (up2_o hV376 (by decide)))))
        have pq541 : (V530 71 gf).toInt = ((V 71 gf)).toInt := congrArg Int32.toInt ((up2_o hV530 (by decide)).trans ((up2_o hV535 (by decide)).trans ((up2_o hV534 (by decide)).trans (up2_o hV376 (by decide)))))
        have pq542 : (V530 75 gf).toInt = ((V 75 gf)).toInt := congrArg Int32.toInt ((up2_o hV530 (by decide)).trans ((up2_o hV535 (by decide)).trans ((up2_o hV534 (by decide)).trans (up2_o hV376 (by decide)))))
        have pq543 : (V530 76 gf).toInt = ((V 76 gf)).toInt := congrArg Int32.toInt ((up2_o hV530 (by decide)).trans ((up2_o hV535 (by decide)).trans ((up2_o hV534 (by decide)).trans (up2_o hV376 (by decide)))))
        have pq544 : (V530 80 gf).toInt = ((V 80 gf)).toInt := congrArg Int32.toInt ((up2_o hV530 (by decide)).trans ((up2_o hV535 (by decide)).trans ((up2_o hV534 (by decide)).trans (up2_o hV376 (by decide)))))
        have pq545 : (V530 84 gf).toInt = z375.toInt := congrArg Int32.toInt ((up2_o hV530 (by decide)).trans ((up2_o hV535 (by decide)).trans ((up2_o hV534 (by decide)).trans (up2_s hV376))))
        have pq546 : (V530 5 8).toInt = ((V 5 8)).toInt := congrArg Int32.toInt ((up2_k hV530 (by decide)).trans ((up2_k hV535 (by decide)).trans ((up2_k hV534 (by decide)).trans (up2_o hV376 (by decide)))))
        have pq547 : (V530 5 9).toInt = 2 := (congrArg Int32.toInt ((up2_k hV530 (by decide)).trans ((up2_k hV535 (by decide)).trans (up2_s hV534)))).trans (by decide)
        have pq548 : (V530 3 13).toInt = ((V 3 13)).toInt := congrArg Int32.toInt ((up2_o hV530 (by decide)).trans ((up2_o hV535 (by decide)).trans ((up2_o hV534 (by decide)).trans (up2_o hV376 (by decide)))))
        have pq549 : (V530 43 (5 * b + 2)).toInt = ((V 43 (5 * b + 2))).toInt := congrArg Int32.toInt ((up2_o hV530 (by decide)).trans ((up2_o hV535 (by decide)).trans ((up2_o hV534 (by decide)).trans (up2_o hV376 (by decide)))))
        have pq550 : (V530 42 b).toInt = ((V 42 b)).toInt := congrArg Int32.toInt ((up2_o hV530 (by decide)).trans ((up2_o hV535 (by decide)).trans ((up2_o hV534 (by decide)).trans (up2_o hV376 (by decide)))))
        have pq551 : (V530 41 b).toInt = ((V 41 b)).toInt := congrArg Int32.toInt ((up2_o hV530 (by decide)).trans ((up2_o hV535 (by decide)).trans ((up2_o hV534 (by decide)).trans (up2_o hV376 (by decide)))))
        have me554 : ME V V530 0 := (ME.up (ME.up (ME.up (ME.up ME.rf hV376 (Or.inl ⟨by decide, by decide, by first | omega | ((try (have i_op8 := Imp.go op8 (by omega))); (try (have i_sf := Imp.go sf (by omega))); (try (have i_bc := Imp.go bc (by omega))); (try (have i_rwq := Imp.go rwq (by omega))); (try (have i_hop := Imp.go hop (by omega))); (try (have i_moa := Imp.go moa (by omega))); (try (have i_moa := Imp.go moa (by omega))); (try (have i_hop := Imp.go hop (by omega))); (try (have i_rwq := Imp.go rwq (by omega))); (try (have i_bc := Imp.go bc (by omega))); (try (have i_sf := Imp.go sf (by omega))); (try (have i_op8 := Imp.go op8 (by omega))); omega)⟩)) hV534 (Or.inr (by omega))) hV535 (Or.inr (by omega))) hV530 (Or.inr (by omega)))
        have ep555 : V530 84 gf = z375 := ((up2_o hV530 (by decide)).trans ((up2_o hV535 (by decide)).trans ((up2_o hV534 (by decide)).trans (up2_s hV376))))
        have af553 : (V530 42 b).toInt ≤ (V530 84 gf).toInt ∨ (bdp V530 b (V530 84 gf).toInt.toNat).1 = true := by rw [ep555, me554.1.bd, me554.1 42 b (by decide) (by decide)]; exact atn
        have mo552 : MO V530 Z b gf True False True := MO.ch mo me538 ((up2_o hV530 (by decide)).trans ((up2_o hV535 (by decide)).trans ((up2_o hV534 (by decide)).trans ((up2_o hV376 (by decide)).trans ea67.symm)))) ((up2_o hV530 (by decide)).trans ((up2_o hV535 (by decide)).trans ((up2_o hV534 (by decide)).trans ((up2_o hV376 (by decide)).trans ea80.symm)))) (fun _ => Or.inl (by omega)) (fun x h => FK.k4 (by first | omega | ((try (have i_op8 := Imp.go op8 (by omega))); (try (have i_sf := Imp.go sf (by omega))); (try (have i_bc := Imp.go bc (by omega))); (try (have i_rwq := Imp.go rwq (by omega))); (try (have i_hop := Imp.go hop (by omega))); (try (have i_moa := Imp.go moa (by omega))); (try (have i_moa := Imp.go moa (by omega))); (try (have i_hop := Imp.go hop (by omega))); (try (have i_rwq := Imp.go rwq (by omega))); (try (have i_bc := Imp.go bc (by omega))); (try (have i_sf := Imp.go sf (by omega))); (try (have i_op8 := Imp.go op8 (by omega))); omega)) (by first | omega | ((try (have i_op8 := Imp.go op8 (by omega))); (try (have i_sf := Imp.go sf (by omega))); (try (have i_bc := Imp.go bc (by omega))); (try (have i_rwq := Imp.go rwq (by omega))); (try (have i_hop := Imp.go hop (by omega))); (try (have i_moa := Imp.go moa (by omega))); (try (have i_moa := Imp.go moa (by omega))); (try (have i_hop := Imp.go hop (by omega))); (try (have i_rwq := Imp.go rwq (by omega))); (try (have i_bc := Imp.go bc (by omega))); (try (have i_sf := Imp.go sf (by omega))); (try (have i_op8 := Imp.go op8 (by omega))); omega)) (by first | omega | ((try (have i_op8 := Imp.go op8 (by omega))); (try (have i_sf := Imp.go sf (by omega))); (try (have i_bc := Imp.go bc (by omega))); (try (have i_rwq := Imp.go rwq (by omega))); (try (have i_hop := Imp.go hop (by omega))); (try (have i_moa := Imp.go moa (by omega))); (try (have i_moa := Imp.go moa (by omega))); (try (have i_hop := Imp.go hop (by omega))); (try (have i_rwq := Imp.go rwq (by omega))); (try (have i_bc := Imp.go bc (by omega))); (try (have i_sf := Imp.go sf (by omega))); (try (have i_op8 := Imp.go op8 (by omega))); omega)) af553 (by first | omega | ((try (have i_op8 := Imp.go op8 (by omega))); (try (have i_sf := Imp.go sf (by omega))); (try (have i_bc := Imp.go bc (by omega))); (try (have i_rwq := Imp.go rwq (by omega))); (try (have i_hop := Imp.go hop (by omega))); (try (have i_moa := Imp.go moa (by omega))); (try (have i_moa := Imp.go moa (by omega))); (try (have i_hop := Imp.go hop (by omega))); (try (have i_rwq := Imp.go rwq (by omega))); (try (have i_bc := Imp.go bc (by omega))); (try (have i_sf := Imp.go sf (by omega))); (try (have i_op8 := Imp.go op8 (by omega))); omega)) (fun _ z => z.elim))
        refine gA_void (gA_runV (As := [.ref (Z.fa gf)]) (rest := []) (ci := 5) (q0 := 5) hx hb hml hown hg hP hD hK hS hA hnw hgk (x_endWork9 l D ks H.size ad kk V530 L Z (b) (gf) hMV530 (show b < 2 from by first | omega | ((try (have i_op8 := Imp.go op8 (by omega))); (try (have i_sf := Imp.go sf (by omega))); (try (have i_bc := Imp.go bc (by omega))); (try (have i_rwq := Imp.go rwq (by omega))); (try (have i_hop := Imp.go hop (by omega))); (try (have i_moa := Imp.go moa (by omega))); (try (have i_moa := Imp.go moa (by omega))); (try (have i_hop := Imp.go hop (by omega))); (try (have i_rwq := Imp.go rwq (by omega))); (try (have i_bc := Imp.go bc (by omega))); (try (have i_sf := Imp.go sf (by omega))); (try (have i_op8 := Imp.go op8 (by omega))); omega)) (show gf < Z.nf from by first | omega | ((try (have i_op8 := Imp.go op8 (by omega))); (try (have i_sf := Imp.go sf (by omega))); (try (have i_bc := Imp.go bc (by omega))); (try (have i_rwq := Imp.go rwq (by omega))); (try (have i_hop := Imp.go hop (by omega))); (try (have i_moa := Imp.go moa (by omega))); (try (have i_moa := Imp.go moa (by omega))); (try (have i_hop := Imp.go hop (by omega))); (try (have i_rwq := Imp.go rwq (by omega))); (try (have i_bc := Imp.go bc (by omega))); (try (have i_sf := Imp.go sf (by omega))); (try (have i_op8 := Imp.go op8 (by omega))); omega)) mo552 (show (gf : Int) + 1 = (V530 5 6).toInt from by first | omega | ((try (have i_op8 := Imp.go op8 (by omega))); (try (have i_sf := Imp.go sf (by omega))); (try (have i_bc := Imp.go bc (by omega))); (try (have i_rwq := Imp.go rwq (by omega))); (try (have i_hop := Imp.go hop (by omega))); (try (have i_moa := Imp.go moa (by omega))); (try (have i_moa := Imp.go moa (by omega))); (try (have i_hop := Imp.go hop (by omega))); (try (have i_rwq := Imp.go rwq (by omega))); (try (have i_bc := Imp.go bc (by omega))); (try (have i_sf := Imp.go sf (by omega))); (try (have i_op8 := Imp.go op8 (by omega))); omega)) (show (V530 67 gf).toInt = 4 from by first | omega | ((try (have i_op8 := Imp.go op8 (by omega))); (try (have i_sf := Imp.go sf (by omega))); (try (have i_bc := Imp.go bc (by omega))); (try (have i_rwq := Imp.go rwq (by omega))); (try (have i_hop := Imp.go hop (by omega))); (try (have i_moa := Imp.go moa (by omega))); (try (have i_moa := Imp.go moa (by omega))); (try (have i_hop := Imp.go hop (by omega))); (try (have i_rwq := Imp.go rwq (by omega))); (try (have i_bc := Imp.go bc (by omega))); (try (have i_sf := Imp.go sf (by omega))); (try (have i_op8 := Imp.go op8 (by omega))); omega))) w1458 w1460 w70 w171 w1461 rfl xgMachine hdV_yX5_endWork ⟨Nat.le_of_ble_eq_true rfl, Nat.le_of_ble_eq_true rfl⟩ rfl hl.1 rfl (Nat.le_of_ble_eq_true rfl) dX5_worksWith_134 ⟨Nat.le_of_ble_eq_true rfl, Nat.le_of_ble_eq_true rfl⟩) hP hD hK hS hA (fun u557 H locs w558 hP hD hK hS => ?_)
        obtain ⟨V561, L562⟩ := u557
        obtain ⟨hMV561, ajV561, axL562, t559, t560⟩ := w558
        have axL562 : L = L562 := Eq.symm axL562
        subst axL562
        replace hP : va_P D vwCl (xw ad kk V561 L Z) H := hP
        replace hD : va_D A (xw ad kk V561 L Z) := hD
        replace hMV561 : rgd bX V561 := hMV561
        replace ajV561 : agr [(5, 6), (5, 7)] [] V530 V561 := ajV561
        have agV561 : agr [(5, 6), (5, 7), (5, 9), (5, 11), (5, 12)] [39, 68, 75, 77, 78, 84] V V561 := agV530.tr ajV561 (by decide) (by decide)
        replace t559 : MJ V561 Z b := t559
        replace t560 : ((True) ∧ V561 = (up2 (up2 V530 5 7 (V530 85 gf)) 5 6 (V530 5 6 - 1))) := t560
        have hw563 := t560.2
        have qv564 : V530 85 gf = (V 85 gf) := ((up2_o hV530 (by decide)).trans ((up2_o hV535 (by decide)).trans ((up2_o hV534 (by decide)).trans (up2_o hV376 (by decide)))))
        obtain ⟨V565, hV565⟩ : ∃ z, z = up2 V530 5 7 (V 85 gf) := ⟨_, rfl⟩
        obtain ⟨z566, ez566⟩ : ∃ y : Int32, y = V530 5 6 - 1 := ⟨_, rfl⟩
        have hz566 : z566.toInt = (V530 5 6).toInt - 1 := i_sub ez566 rfl (by decide) (by first | omega | ((try (have i_op8 := Imp.go op8 (by omega))); (try (have i_sf := Imp.go sf (by omega))); (try (have i_bc := Imp.go bc (by omega))); (try (have i_rwq := Imp.go rwq (by omega))); (try (have i_hop := Imp.go hop (by omega))); (try (have i_moa := Imp.go moa (by omega))); (try (have i_moa := Imp.go moa (by omega))); (try (have i_hop := Imp.go hop (by omega))); (try (have i_rwq := Imp.go rwq (by omega))); (try (have i_bc := Imp.go bc (by omega))); (try (have i_sf := Imp.go sf (by omega))); (try (have i_op8 := Imp.go op8 (by omega))); omega))
        have hV561 : V561 = up2 V565 5 6 z566 := by rw [hw563, hV565, qv564, ez566]
        refine lv_iconst (v := 0) hx hb dX5_worksWith_137 (by decide) ?_
        have pq567 : (V561 5 6).toInt = z566.toInt := congrArg Int32.toInt (up2_s hV561)
        have pq568 : (V561 67 gf).toInt = ((V 67 gf)).toInt := congrArg Int32.toInt ((up2_o hV561 (by decide)).trans ((up2_o hV565 (by decide)).trans ((up2_o hV530 (by decide)).trans ((up2_o hV535 (by decide)).trans ((up2_o hV534 (by decide)).trans (up2_o hV376 (by decide)))))))
        have pq569 : (V561 68 gf).toInt = ((V 68 gf)).toInt := congrArg Int32.toInt ((up2_o hV561 (by decide)).trans ((up2_o hV565 (by decide)).trans ((up2_o hV530 (by decide)).trans ((up2_o hV535 (by decide)).trans ((up2_o hV534 (by decide)).trans (up2_o hV376 (by decide)))))))
        have o9 : opf gB.1 at9.toNat = 10 := ((enO_i ⟨opf gB.1 at9.toNat, op9⟩).2.2.2.2.2.2.2.2.2.2.2.2.1).mp (show enO (opf gB.1 at9.toNat) = 12 from c48.symm.trans (by omega))
        have p84 : psz (opf gB.1) (at9.toNat + 1) = psz (opf gB.1) at9.toNat + 2 := psz_2 (show opf gB.1 at9.toNat = 2 ∨ (10 ≤ opf gB.1 at9.toNat ∧ opf gB.1 at9.toNat ≤ 14) from by omega)
        have pw9 : psz (opf gB.1) (at9.toNat + 1) ≤ wl gB.1 := psz_le hi9
        have c42 : (V 42 b).toInt = ((wl gB.1 : Nat) : Int) := bc.1.1
        have ka9 : Int32.toNatClampNeg (V 84 gf) = psz (opf gB.1) at9.toNat + 1 := by have h9 := i_clamp (x := V 84 gf) rfl (by omega); omega
        have wa9 : (V 48 (8200 * b + (Int32.toNatClampNeg (V 84 gf)))).toInt = enA gB.1 at9.toNat := by rw [ka9]; exact cd9.2.1 (by unfold szO; rw [if_pos (show opf gB.1 at9.toNat = 2 ∨ (10 ≤ opf gB.1 at9.toNat ∧ opf gB.1 at9.toNat ≤ 14) from by omega)])
        unfold enA at wa9
        have o8 : nL gB.1 (2000 + 3 * at9.toNat) = 10 := o9
        rw [if_neg (by omega), if_neg (by omega), if_neg (by omega)] at wa9
        have me570 : ME V V561 gf := (ME.up (ME.up (ME.up (ME.up (ME.up (ME.up ME.rf hV376 (Or.inl ⟨by decide, by decide, Nat.le_refl _⟩)) hV534 (Or.inr (by omega))) hV535 (Or.inr (by omega))) hV530 (Or.inr (by omega))) hV565 (Or.inr (by omega))) hV561 (Or.inr (by omega)))
        have rl571 : RWl V561 gB gr t0 := RWl.mv hlr (fun i9 hi9 c9 h1 h2 => me570.2.1 c9 i9 h1 h2 (by omega)) (fun j9 hj9 => ((up2_o hV561 (by decide)).trans ((up2_o hV565 (by decide)).trans ((up2_o hV530 (by decide)).trans ((up2_o hV535 (by decide)).trans ((up2_o hV534 (by decide)).trans (up2_o hV376 (by decide)))))))) (by rw [((up2_o hV561 (by decide)).trans ((up2_o hV565 (by decide)).trans ((up2_o hV530 (by decide)).trans ((up2_o hV535 (by decide)).trans ((up2_o hV534 (by decide)).trans (up2_o hV376 (by decide)))))))]; exact Int.le_refl _) ((up2_o hV561 (by decide)).trans ((up2_o hV565 (by decide)).trans ((up2_o hV530 (by decide)).trans ((up2_o hV535 (by decide)).trans ((up2_o hV534 (by decide)).trans (up2_o hV376 (by decide)))))))
        have pq572 : (V561 5 9).toInt = 2 := (congrArg Int32.toInt ((up2_k hV561 (by decide)).trans ((up2_k hV565 (by decide)).trans ((up2_k hV530 (by decide)).trans ((up2_k hV535 (by decide)).trans (up2_s hV534)))))).trans (by decide)
        have pq573 : (V561 5 11).toInt = 0 := (congrArg Int32.toInt ((up2_k hV561 (by decide)).trans ((up2_k hV565 (by decide)).trans ((up2_k hV530 (by decide)).trans (up2_s hV535))))).trans (by decide)
        have pq574 : (V561 5 12).toInt = ((V 48 (8200 * b + (Int32.toNatClampNeg (V 84 gf))))).toInt := congrArg Int32.toInt ((up2_k hV561 (by decide)).trans ((up2_k hV565 (by decide)).trans (up2_s hV530)))
        have tp9 : (V561 5 7).toInt = ((t0 : Nat) : Int) := by rw [((up2_k hV561 (by decide)).trans (up2_s hV565))]; exact hb8
        have esu : ESw U0 V := ESw.sy (ESw.ag (show agr [] [84] V U0 from agr.up agr.rf hU0 rfl) (by decide))
        have rz9 : RW V561 gB (mU (mU (mU gm 0 6 2) 0 8 0) 0 9 ((nL gB.1 (2001 + 3 * at9.toNat) : Nat) : Int), ga, gr) := RW.fl rwu (ESw.tr esu (ESw.ag (show agr [(5, 6), (5, 7), (5, 9), (5, 11), (5, 12)] [84] V V561 from (agr.up (agr.up (agr.up (agr.up (agr.up (agr.up agr.rf hV376 rfl) hV534 rfl) hV535 rfl) hV530 rfl) hV565 rfl) hV561 rfl)) (by decide))) (by omega) (by omega) (by omega) (show (V561 5 6).toInt = ((gr.length : Nat) : Int) from by omega) tp9 rl571
        have rx575 : RW V561 gB (stM gB (gm, ga, gfr :: gr)) := by rw [hfe, st_12.trans (or_10 o9)]; exact rz9
        exact W.zret (v := 0) hx hb hr rfl (fun t ht hW => ⟨⟨0, (V561, L), rfl, ⟨hMV561, agV561, rfl, (by decide), (Imp.mk (fun hp => absurd hp (by decide))), (Imp.mk (fun _ => t559)), (Imp.mk (fun hp => absurd hp (by decide))), (Or.inr ⟨rfl, rx575⟩)⟩, by rw [ht]; exact hP, va_K.moved hW.alike hK, hD⟩, hS.F ht⟩) hS.2.2 dX5_worksWith_138
      have gq523 : p1.toInt ≠ 12 := b_neq rfl (by decide) q523
      by_cases q576 : p1 = 13
      · refine g_top (v := 13) q576 ?_
        have fq576 : p1.toInt = 13 := b_eq rfl (by decide) q576
        refine lv_tableIn (x := 13) (off := 63) (tgt := 105) hx hb dX5_worksWith_42 (by decide) (by decide) (by decide) (by decide) ?_
        have hjm := hop1.1.2.2 (by omega)
        have hfw := i_full (V 48 (8200 * b + (Int32.toNatClampNeg (V 84 gf))))
        have hj0 : 0 ≤ (V 48 (8200 * b + (Int32.toNatClampNeg (V 84 gf)))).toInt := by rcases hjm with h | h <;> omega
        have atw : (V 42 b).toInt ≤ (V 48 (8200 * b + (Int32.toNatClampNeg (V 84 gf)))).toInt ∨ (bdp V b (V 48 (8200 * b + (Int32.toNatClampNeg (V 84 gf)))).toInt.toNat).1 = true := hjm.elim (fun h => Or.inl (by omega)) (fun h => Or.inr h.2.2)
        refine lv_aload_n hx hb dX5_worksWith_105 rfl (lv_at hl 2 rfl) ?_
        refine lv_aload_n hx hb dX5_worksWith_106 rfl (lv_at hl 1 rfl) ?_
        refine gA_int (gA_runV (As := []) (rest := [.ref (Z.fa gf)]) (ci := 5) (q0 := 5) hx hb hml hown hg hP hD hK hS hA hnw hgk (x_pull9 l D ks H.size ad kk V376 L Z  hMV376 ) w1482 w1484 w76 w171 w1485 rfl xgMachine hdV_yX5_pull ⟨Nat.le_of_ble_eq_true rfl, Nat.le_of_ble_eq_true rfl⟩ rfl hl.1 rfl (Nat.le_of_ble_eq_true rfl) dX5_worksWith_107 ⟨Nat.le_of_ble_eq_true rfl, Nat.le_of_ble_eq_true rfl⟩) hP hD hK hS hA (fun z577 u578 H locs w579 hP hD hK hS => ?_)
        obtain ⟨V581, L582⟩ := u578
        obtain ⟨hMV581, ajV581, axL582, t580⟩ := w579
        have axL582 : L = L582 := Eq.symm axL582
        subst axL582
        replace hP : va_P D vwCl (xw ad kk V581 L Z) H := hP
        replace hD : va_D A (xw ad kk V581 L Z) := hD
        replace hMV581 : rgd bX V581 := hMV581
        replace ajV581 : agr [(5, 7)] [] V376 V581 := ajV581
        have agV581 : agr [(5, 6), (5, 7), (5, 9), (5, 11), (5, 12)] [39, 68, 75, 77, 78, 84] V V581 := agV376.tr ajV581 (by decide) (by decide)
        replace t580 : ((0 < (V376 5 7).toInt ∧ z577 = V376 39 (Int32.toNatClampNeg (V376 5 7 - 1))) ∧ V581 = (up2 V376 5 7 (V376 5 7 - 1))) ∨ (((V376 5 7).toInt ≤ 0 ∧ z577 = 0) ∧ V581 = V376) := t580
        rcases t580 with ⟨hc583, hw584⟩ | ⟨hc585, hw586⟩
        · skip
          have pq588 : (V376 5 7).toInt = ((V 5 7)).toInt := congrArg Int32.toInt (up2_o hV376 (by decide))
          have r589 : 0 ≤ ((V 5 7)).toInt ∧ ((V 5 7)).toInt ≤ 2048 := hMV 5 7
          obtain ⟨z587, ez587⟩ : ∃ y : Int32, y = V376 5 7 - 1 := ⟨_, rfl⟩
          have hz587 : z587.toInt = (V376 5 7).toInt - 1 := i_sub ez587 rfl (by decide) (by first | omega | ((try (have i_op8 := Imp.go op8 (by omega))); (try (have i_sf := Imp.go sf (by omega))); (try (have i_bc := Imp.go bc (by omega))); (try (have i_rwq := Imp.go rwq (by omega))); (try (have i_hop := Imp.go hop (by omega))); (try (have i_moa := Imp.go moa (by omega))); (try (have i_moa := Imp.go moa (by omega))); (try (have i_hop := Imp.go hop (by omega))); (try (have i_rwq := Imp.go rwq (by omega))); (try (have i_bc := Imp.go bc (by omega))); (try (have i_sf := Imp.go sf (by omega))); (try (have i_op8 := Imp.go op8 (by omega))); omega))
          have hV581 : V581 = up2 V376 5 7 z587 := by rw [hw584, ez587]
          refine lv_if_ne (tgt := 117) hx hb dX5_worksWith_110 (by decide) (fun c590 => ?_) (fun c590 => ?_)
          · skip
            have f591 : z577.toInt ≠ 0 := b_neq rfl (by decide) c590
            refine lv_aload_n hx hb dX5_worksWith_117 rfl (lv_at hl 2 rfl) ?_
            refine va_getN (D := D) (ci := 4) (v := .int (V581 84 gf)) (fs := (xfFrame V581 gf)) (C := RX4) (T := TX4) (N := 19) hx hb hg inX4 hown hK hP (336 + gf) (xgFrame hgf) rfl 17 (by decide) (hnw.use 1206 n1206 rfl) (fun _ h9 => h9) rfl dX5_worksWith_118 ?_
            refine g_top (v := z375) ((up2_o hV581 (by decide)).trans (up2_s hV376)) ?_
            refine va_putN (D := D) (ci := 4) (v := .int z375) (ty := tyX4 17) (fs := (xfFrame V581 gf)) (C := RX4) (T := TX4) (N := 19) hx hb hg inX4 tyX4 tyX4_ok nmX4 hown hK hP hD hS (336 + gf) (xgFrame hgf) rfl 17 (by decide) (hnw.use 1206 n1206 rfl) (fun _ h9 => h9) rfl (tyX4_ok 17 (by decide)) rfl rfl (Nat.le_of_ble_eq_true rfl) dX5_worksWith_121 (fun H locs hP hD hS => ?_)
            obtain ⟨V592, hV592⟩ : ∃ z, z = up2 V581 84 gf z375 := ⟨_, rfl⟩
            have ew593 : (xw ad kk V581 L Z).set (336 + gf) ((Z.fa gf), .inr (4, (xfFrame V581 gf).set 17 (.int z375))) = xw ad kk V592 L Z := by rw [hV592]; exact xpFrame_at hgf
            have hP : va_P D vwCl (xw ad kk V592 L Z) H := by rw [← ew593]; exact hP
            have hD : va_D A (xw ad kk V592 L Z) := by rw [← ew593]; exact hD
            have hMV592 : rgd bX V592 := hMV581.put hV592 (show 0 ≤ z375.toInt ∧ z375.toInt ≤ 2147483647 from by first | omega | ((try (have i_op8 := Imp.go op8 (by omega))); (try (have i_sf := Imp.go sf (by omega))); (try (have i_bc := Imp.go bc (by omega))); (try (have i_rwq := Imp.go rwq (by omega))); (try (have i_hop := Imp.go hop (by omega))); (try (have i_moa := Imp.go moa (by omega))); (try (have i_moa := Imp.go moa (by omega))); (try (have i_hop := Imp.go hop (by omega))); (try (have i_rwq := Imp.go rwq (by omega))); (try (have i_bc := Imp.go bc (by omega))); (try (have i_sf := Imp.go sf (by omega))); (try (have i_op8 := Imp.go op8 (by omega))); omega))
            have agV592 : agr [(5, 6), (5, 7), (5, 9), (5, 11), (5, 12)] [39, 68, 75, 77, 78, 84] V V592 := agV581.up hV592 rfl
            refine lv_iconst (v := 1) hx hb dX5_worksWith_124 (by decide) ?_
            have pq594 : (V592 5 6).toInt = ((V 5 6)).toInt := congrArg Int32.toInt ((up2_o hV592 (by decide)).trans ((up2_k hV581 (by decide)).trans (up2_o hV376 (by decide))))
            have pq595 : (V592 67 gf).toInt = ((V 67 gf)).toInt := congrArg Int32.toInt ((up2_o hV592 (by decide)).trans ((up2_o hV581 (by decide)).trans (up2_o hV376 (by decide))))
            have pq596 : (V592 68 gf).toInt = ((V 68 gf)).toInt := congrArg Int32.toInt ((up2_o hV592 (by decide)).trans ((up2_o hV581 (by decide)).trans (up2_o hV376 (by decide))))
            have me597 : ME Va V592 gf := (ME.up (ME.up (ME.up mV hV376 (Or.inl ⟨by decide, by decide, Nat.le_refl _⟩)) hV581 (Or.inr (by omega))) hV592 (Or.inl ⟨by decide, by decide, Nat.le_refl _⟩))
            have pq598 : (V592 70 gf).toInt = ((V 70 gf)).toInt := congrArg Int32.toInt ((up2_o hV592 (by decide)).trans ((up2_o hV581 (by decide)).trans (up2_o hV376 (by decide))))
            have pq599 : (V592 71 gf).toInt = ((V 71 gf)).toInt := congrArg Int32.toInt ((up2_o hV592 (by decide)).trans ((up2_o hV581 (by decide)).trans (up2_o hV376 (by decide))))
            have pq600 : (V592 75 gf).toInt = ((V 75 gf)).toInt := congrArg Int32.toInt ((up2_o hV592 (by decide)).trans ((up2_o hV581 (by decide)).trans (up2_o hV376 (by decide))))
            have pq601 : (V592 76 gf).toInt = ((V 76 gf)).toInt := congrArg Int32.toInt ((up2_o hV592 (by decide)).trans ((up2_o hV581 (by decide)).trans (up2_o hV376 (by decide))))
            have pq602 : (V592 80 gf).toInt = ((V 80 gf)).toInt := congrArg Int32.toInt ((up2_o hV592 (by decide)).trans ((up2_o hV581 (by decide)).trans (up2_o hV376 (by decide))))
            have pq603 : (V592 84 gf).toInt = z375.toInt := congrArg Int32.toInt (up2_s hV592)
            have pq604 : (V592 5 8).toInt = ((V 5 8)).toInt := congrArg Int32.toInt ((up2_o hV592 (by decide)).trans ((up2_k hV581 (by decide)).trans (up2_o hV376 (by decide))))
            have pq605 : (V592 5 9).toInt = ((V 5 9)).toInt := congrArg Int32.toInt ((up2_o hV592 (by decide)).trans ((up2_k hV581 (by decide)).trans (up2_o hV376 (by decide))))
            have pq606 : (V592 3 13).toInt = ((V 3 13)).toInt := congrArg Int32.toInt ((up2_o hV592 (by decide)).trans ((up2_o hV581 (by decide)).trans (up2_o hV376 (by decide))))
            have pq607 : (V592 43 (5 * b + 2)).toInt = ((V 43 (5 * b + 2))).toInt := congrArg Int32.toInt ((up2_o hV592 (by decide)).trans ((up2_o hV581 (by decide)).trans (up2_o hV376 (by decide))))
            have pq608 : (V592 42 b).toInt = ((V 42 b)).toInt := congrArg Int32.toInt ((up2_o hV592 (by decide)).trans ((up2_o hV581 (by decide)).trans (up2_o hV376 (by decide))))
            have pq609 : (V592 41 b).toInt = ((V 41 b)).toInt := congrArg Int32.toInt ((up2_o hV592 (by decide)).trans ((up2_o hV581 (by decide)).trans (up2_o hV376 (by decide))))
            have me612 : ME V V592 0 := (ME.up (ME.up (ME.up ME.rf hV376 (Or.inl ⟨by decide, by decide, by first | omega | ((try (have i_op8 := Imp.go op8 (by omega))); (try (have i_sf := Imp.go sf (by omega))); (try (have i_bc := Imp.go bc (by omega))); (try (have i_rwq := Imp.go rwq (by omega))); (try (have i_hop := Imp.go hop (by omega))); (try (have i_moa := Imp.go moa (by omega))); (try (have i_moa := Imp.go moa (by omega))); (try (have i_hop := Imp.go hop (by omega))); (try (have i_rwq := Imp.go rwq (by omega))); (try (have i_bc := Imp.go bc (by omega))); (try (have i_sf := Imp.go sf (by omega))); (try (have i_op8 := Imp.go op8 (by omega))); omega)⟩)) hV581 (Or.inr (by omega))) hV592 (Or.inl ⟨by decide, by decide, by first | omega | ((try (have i_op8 := Imp.go op8 (by omega))); (try (have i_sf := Imp.go sf (by omega))); (try (have i_bc := Imp.go bc (by omega))); (try (have i_rwq := Imp.go rwq (by omega))); (try (have i_hop := Imp.go hop (by omega))); (try (have i_moa := Imp.go moa (by omega))); (try (have i_moa := Imp.go moa (by omega))); (try (have i_hop := Imp.go hop (by omega))); (try (have i_rwq := Imp.go rwq (by omega))); (try (have i_bc := Imp.go bc (by omega))); (try (have i_sf := Imp.go sf (by omega))); (try (have i_op8 := Imp.go op8 (by omega))); omega)⟩))
            have af611 : (V592 42 b).toInt ≤ (V592 84 gf).toInt ∨ (bdp V592 b (V592 84 gf).toInt.toNat).1 = true := by rw [(up2_s hV592), me612.1.bd, me612.1 42 b (by decide) (by decide)]; exact atn
            have mo610 : MO V592 Z b gf True True True := MO.ch mo me597 ((up2_o hV592 (by decide)).trans ((up2_o hV581 (by decide)).trans ((up2_o hV376 (by decide)).trans ea67.symm))) ((up2_o hV592 (by decide)).trans ((up2_o hV581 (by decide)).trans ((up2_o hV376 (by decide)).trans ea80.symm))) (fun _ => Or.inl (by omega)) (fun x h => FK.k4 (by first | omega | ((try (have i_op8 := Imp.go op8 (by omega))); (try (have i_sf := Imp.go sf (by omega))); (try (have i_bc := Imp.go bc (by omega))); (try (have i_rwq := Imp.go rwq (by omega))); (try (have i_hop := Imp.go hop (by omega))); (try (have i_moa := Imp.go moa (by omega))); (try (have i_moa := Imp.go moa (by omega))); (try (have i_hop := Imp.go hop (by omega))); (try (have i_rwq := Imp.go rwq (by omega))); (try (have i_bc := Imp.go bc (by omega))); (try (have i_sf := Imp.go sf (by omega))); (try (have i_op8 := Imp.go op8 (by omega))); omega)) (by first | omega | ((try (have i_op8 := Imp.go op8 (by omega))); (try (have i_sf := Imp.go sf (by omega))); (try (have i_bc := Imp.go bc (by omega))); (try (have i_rwq := Imp.go rwq (by omega))); (try (have i_hop := Imp.go hop (by omega))); (try (have i_moa := Imp.go moa (by omega))); (try (have i_moa := Imp.go moa (by omega))); (try (have i_hop := Imp.go hop (by omega))); (try (have i_rwq := Imp.go rwq (by omega))); (try (have i_bc := Imp.go bc (by omega))); (try (have i_sf := Imp.go sf (by omega))); (try (have i_op8 := Imp.go op8 (by omega))); omega)) (by first | omega | ((try (have i_op8 := Imp.go op8 (by omega))); (try (have i_sf := Imp.go sf (by omega))); (try (have i_bc := Imp.go bc (by omega))); (try (have i_rwq := Imp.go rwq (by omega))); (try (have i_hop := Imp.go hop (by omega))); (try (have i_moa := Imp.go moa (by omega))); (try (have i_moa := Imp.go moa (by omega))); (try (have i_hop := Imp.go hop (by omega))); (try (have i_rwq := Imp.go rwq (by omega))); (try (have i_bc := Imp.go bc (by omega))); (try (have i_sf := Imp.go sf (by omega))); (try (have i_op8 := Imp.go op8 (by omega))); omega)) af611 (by first | omega | ((try (have i_op8 := Imp.go op8 (by omega))); (try (have i_sf := Imp.go sf (by omega))); (try (have i_bc := Imp.go bc (by omega))); (try (have i_rwq := Imp.go rwq (by omega))); (try (have i_hop := Imp.go hop (by omega))); (try (have i_moa := Imp.go moa (by omega))); (try (have i_moa := Imp.go moa (by omega))); (try (have i_hop := Imp.go hop (by omega))); (try (have i_rwq := Imp.go rwq (by omega))); (try (have i_bc := Imp.go bc (by omega))); (try (have i_sf := Imp.go sf (by omega))); (try (have i_op8 := Imp.go op8 (by omega))); omega)) (fun hph => absurd hph (by omega)))
            have o9 : opf gB.1 at9.toNat = 12 := ((enO_i ⟨opf gB.1 at9.toNat, op9⟩).2.2.2.2.2.2.2.2.2.2.2.2.2.1).mp (show enO (opf gB.1 at9.toNat) = 13 from c48.symm.trans (by omega))
            have p84 : psz (opf gB.1) (at9.toNat + 1) = psz (opf gB.1) at9.toNat + 2 := psz_2 (show opf gB.1 at9.toNat = 2 ∨ (10 ≤ opf gB.1 at9.toNat ∧ opf gB.1 at9.toNat ≤ 14) from by omega)
            have pw9 : psz (opf gB.1) (at9.toNat + 1) ≤ wl gB.1 := psz_le hi9
            have c42 : (V 42 b).toInt = ((wl gB.1 : Nat) : Int) := bc.1.1
            have ka9 : Int32.toNatClampNeg (V 84 gf) = psz (opf gB.1) at9.toNat + 1 := by have h9 := i_clamp (x := V 84 gf) rfl (by omega); omega
            have wa9 : (V 48 (8200 * b + (Int32.toNatClampNeg (V 84 gf)))).toInt = enA gB.1 at9.toNat := by rw [ka9]; exact cd9.2.1 (by unfold szO; rw [if_pos (show opf gB.1 at9.toNat = 2 ∨ (10 ≤ opf gB.1 at9.toNat ∧ opf gB.1 at9.toNat ≤ 14) from by omega)])
            unfold enA at wa9
            have o8 : nL gB.1 (2000 + 3 * at9.toNat) = 12 := o9
            rw [if_neg (by omega), if_pos (by omega)] at wa9
            have pl9 : 1 ≤ p.length := (by obtain ⟨t8, h8, _⟩ := OQ.i12 oq9 o9; omega)
            obtain ⟨x9, p9, hpe⟩ : ∃ x9 p9, p = x9 :: p9 := by cases p with | nil => exact absurd pl9 (by decide) | cons x y => exact ⟨x, y, rfl⟩
            obtain ⟨t2, ht2, hx2, hp2⟩ : plC V tw9 (x9 :: p9) := by rw [← hpe]; exact hp8
            have lp9 : p.length = p9.length + 1 := by rw [hpe]; rfl
            have cz9 : Int32.toNatClampNeg (V376 5 7 - 1) = t2 := by have h9 : (V376 5 7 - 1).toInt = (V376 5 7).toInt - 1 := i_sub rfl rfl (by decide) (by omega); have h8 := i_clamp (x := V376 5 7 - 1) rfl (by omega); omega
            have zx9 : z577 = x9 := by rw [hc583.2, cz9, (up2_o hV376 (by decide))]; exact hx2
            have xz9 : ¬ x9 = 0 := by rw [← zx9]; intro h9; have h8 := congrArg Int32.toInt h9; have h7 : Int32.toInt 0 = 0 := (by decide); omega
            have wr613 : (V592 3 13).toInt = (V 3 13).toInt := congrArg Int32.toInt ((up2_o hV592 (by decide)).trans ((up2_o hV581 (by decide)).trans (up2_o hV376 (by decide))))
            have wr614 : (V592 3 12).toInt = (V 3 12).toInt := congrArg Int32.toInt ((up2_o hV592 (by decide)).trans ((up2_o hV581 (by decide)).trans (up2_o hV376 (by decide))))
            have wr615 : (V592 67 gf).toInt = ((V 67 gf)).toInt := (congrArg Int32.toInt ((up2_o hV592 (by decide)).trans ((up2_o hV581 (by decide)).trans (up2_o hV376 (by decide)))))
            have wr616 : (V592 68 gf).toInt = ((V 68 gf)).toInt := (congrArg Int32.toInt ((up2_o hV592 (by decide)).trans ((up2_o hV581 (by decide)).trans (up2_o hV376 (by decide)))))
            have wr617 : (V592 69 gf).toInt = ((V 69 gf)).toInt := (congrArg Int32.toInt ((up2_o hV592 (by decide)).trans ((up2_o hV581 (by decide)).trans (up2_o hV376 (by decide)))))
            have wr618 : (V592 70 gf).toInt = ((V 70 gf)).toInt := (congrArg Int32.toInt ((up2_o hV592 (by decide)).trans ((up2_o hV581 (by decide)).trans (up2_o hV376 (by decide)))))
            have wr619 : (V592 71 gf).toInt = ((V 71 gf)).toInt := (congrArg Int32.toInt ((up2_o hV592 (by decide)).trans ((up2_o hV581 (by decide)).trans (up2_o hV376 (by decide)))))
            have wr620 : (V592 72 gf).toInt = ((V 72 gf)).toInt := (congrArg Int32.toInt ((up2_o hV592 (by decide)).trans ((up2_o hV581 (by decide)).trans (up2_o hV376 (by decide)))))
            have wr621 : (V592 73 gf).toInt = ((V 73 gf)).toInt := (congrArg Int32.toInt ((up2_o hV592 (by decide)).trans ((up2_o hV581 (by decide)).trans (up2_o hV376 (by decide)))))
            have wr622 : (V592 75 gf).toInt = ((V 75 gf)).toInt := (congrArg Int32.toInt ((up2_o hV592 (by decide)).trans ((up2_o hV581 (by decide)).trans (up2_o hV376 (by decide)))))
            have wr623 : (V592 84 gf).toInt = z375.toInt := (congrArg Int32.toInt (up2_s hV592))
            have me624 : ME V V592 gf := (ME.up (ME.up (ME.up ME.rf hV376 (Or.inl ⟨by decide, by decide, Nat.le_refl _⟩)) hV581 (Or.inr (by omega))) hV592 (Or.inl ⟨by decide, by decide, Nat.le_refl _⟩))
            have rl625 : RWl V592 gB gr t0 := RWl.mv hlr (fun i9 hi9 c9 h1 h2 => me624.2.1 c9 i9 h1 h2 (by omega)) (fun j9 hj9 => ((up2_o hV592 (by decide)).trans ((up2_o hV581 (by decide)).trans (up2_o hV376 (by decide))))) (by rw [((up2_o hV592 (by decide)).trans ((up2_o hV581 (by decide)).trans (up2_o hV376 (by decide))))]; exact Int.le_refl _) ((up2_o hV592 (by decide)).trans ((up2_o hV581 (by decide)).trans (up2_o hV376 (by decide))))
            have pq626 : (V592 5 7).toInt = z587.toInt := congrArg Int32.toInt ((up2_o hV592 (by decide)).trans (up2_s hV581))
            have fo8 : FRc V592 gB gr.length (Fwork lv o c sc me ps ((at9.toNat + 1 : Nat) : Int) v p9) := by rw [gl9]; exact ⟨⟨by omega, by omega⟩, ⟨by omega, ⟨by omega, by omega, by omega⟩, ⟨by omega, by omega, by omega⟩, ⟨by omega, by omega, by omega⟩⟩, (fun h9 => by have h8 := hps9 h9; exact ⟨by omega, by omega, by omega, by omega⟩), ⟨Int.natCast_nonneg _, by show _ = ((psz (opf gB.1) (at9.toNat + 1) : Nat) : Int); omega⟩, (((up2_o hV592 (by decide)).trans ((up2_o hV581 (by decide)).trans (up2_o hV376 (by decide)))).trans q74)⟩
            have esu : ESw U0 V := ESw.sy (ESw.ag (show agr [] [84] V U0 from agr.up agr.rf hU0 rfl) (by decide))
            have rlu : RWl V592 gB (Fwork lv o c sc me ps ((at9.toNat + 1 : Nat) : Int) v p9 :: gr) (t2) := ⟨t0, (show t2 = t0 + p9.length from by omega), fo8, fun _ _ => (by rw [gl9, ((up2_o hV592 (by decide)).trans ((up2_o hV581 (by decide)).trans (up2_o hV376 (by decide))))]; exact hb8), plC.mv hp2 (fun j9 hj9 => ((up2_o hV592 (by decide)).trans ((up2_o hV581 (by decide)).trans (up2_o hV376 (by decide))))), rl625⟩
            have rz9 : RW V592 gB (gm, ga, Fwork lv o c sc me ps ((at9.toNat + 1 : Nat) : Int) v p9 :: gr) := RW.id rwu (ESw.tr esu (ESw.ag (show agr [(5, 7)] [84] V V592 from (agr.up (agr.up (agr.up agr.rf hV376 rfl) hV581 rfl) hV592 rfl)) (by decide))) ((((up2_o hV592 (by decide)).trans ((up2_k hV581 (by decide)).trans (up2_o hV376 (by decide))))).trans (up2_o hU0 (by decide)).symm) ((((up2_o hV592 (by decide)).trans ((up2_k hV581 (by decide)).trans (up2_o hV376 (by decide))))).trans (up2_o hU0 (by decide)).symm) ((((up2_o hV592 (by decide)).trans ((up2_k hV581 (by decide)).trans (up2_o hV376 (by decide))))).trans (up2_o hU0 (by decide)).symm) ((((up2_o hV592 (by decide)).trans ((up2_k hV581 (by decide)).trans (up2_o hV376 (by decide))))).trans (up2_o hU0 (by decide)).symm) (show (V592 5 6).toInt = ((gr.length + 1 : Nat) : Int) from by omega) (show (V592 5 7).toInt = ((t2 : Nat) : Int) from by omega) rlu
            have rx627 : ∃ f2, stM gB (gm, ga, gfr :: gr) = (gm, ga, f2 :: gr) ∧ RW V592 gB (gm, ga, f2 :: gr) := ⟨_, (by rw [hfe, st_12.trans (or_12 o9), hpe]; show (gm, ga, Fwork lv o c sc me ps (if x9 = 0 then ((nL gB.1 (2001 + 3 * at9.toNat) : Nat) : Int) else ((at9.toNat + 1 : Nat) : Int)) v p9 :: gr) = _; rw [if_neg xz9]), rz9⟩
            exact W.zret (v := 1) hx hb hr rfl (fun t ht hW => ⟨⟨1, (V592, L), rfl, ⟨hMV592, agV592, rfl, (by decide), (Imp.mk (fun _ => mo610)), (Imp.mk (fun hp => absurd hp (by decide))), (Imp.mk (fun _ => (show (V592 5 6).toInt = (V 5 6).toInt ∧ (V592 67 gf).toInt = 4 ∧ (V592 68 gf).toInt = 0 from by first | omega | ((try (have i_op8 := Imp.go op8 (by omega))); (try (have i_sf := Imp.go sf (by omega))); (try (have i_bc := Imp.go bc (by omega))); (try (have i_rwq := Imp.go rwq (by omega))); (try (have i_hop := Imp.go hop (by omega))); (try (have i_moa := Imp.go moa (by omega))); (try (have i_moa := Imp.go moa (by omega))); (try (have i_hop := Imp.go hop (by omega))); (try (have i_rwq := Imp.go rwq (by omega))); (try (have i_bc := Imp.go bc (by omega))); (try (have i_sf := Imp.go sf (by omega))); (try (have i_op8 := Imp.go op8 (by omega))); omega)))), (Or.inl ⟨rfl, _, rx627⟩)⟩, by rw [ht]; exact hP, va_K.moved hW.alike hK, hD⟩, hS.F ht⟩) hS.2.2 dX5_worksWith_125
          · skip
            have f628 : z577.toInt = 0 := b_eq rfl (by decide) c590
            refine lv_iload_n hx hb dX5_worksWith_113 rfl (lv_at hl 0 rfl) ?_
            refine lv_goto (tgt := 121) hx hb dX5_worksWith_114 (by decide) ?_
            refine va_putN (D := D) (ci := 4) (v := .int (V 48 (8200 * b + (Int32.toNatClampNeg (V 84 gf))))) (ty := tyX4 17) (fs := (xfFrame V581 gf)) (C := RX4) (T := TX4) (N := 19) hx hb hg inX4 tyX4 tyX4_ok nmX4 hown hK hP hD hS (336 + gf) (xgFrame hgf) rfl 17 (by decide) (hnw.use 1206 n1206 rfl) (fun _ h9 => h9) rfl (tyX4_ok 17 (by decide)) rfl rfl (Nat.le_of_ble_eq_true rfl) dX5_worksWith_121 (fun H locs hP hD hS => ?_)
            obtain ⟨V629, hV629⟩ : ∃ z, z = up2 V581 84 gf (V 48 (8200 * b + (Int32.toNatClampNeg (V 84 gf)))) := ⟨_, rfl⟩
            have ew630 : (xw ad kk V581 L Z).set (336 + gf) ((Z.fa gf), .inr (4, (xfFrame V581 gf).set 17 (.int (V 48 (8200 * b + (Int32.toNatClampNeg (V 84 gf))))))) = xw ad kk V629 L Z := by rw [hV629]; exact xpFrame_at hgf
            have hP : va_P D vwCl (xw ad kk V629 L Z) H := by rw [← ew630]; exact hP
            have hD : va_D A (xw ad kk V629 L Z) := by rw [← ew630]; exact hD
            have hMV629 : rgd bX V629 := hMV581.put hV629 (show 0 ≤ ((V 48 (8200 * b + (Int32.toNatClampNeg (V 84 gf))))).toInt ∧ ((V 48 (8200 * b + (Int32.toNatClampNeg (V 84 gf))))).toInt ≤ 2147483647 from by first | omega | ((try (have i_op8 := Imp.go op8 (by omega))); (try (have i_sf := Imp.go sf (by omega))); (try (have i_bc := Imp.go bc (by omega))); (try (have i_rwq := Imp.go rwq (by omega))); (try (have i_hop := Imp.go hop (by omega))); (try (have i_moa := Imp.go moa (by omega))); (try (have i_moa := Imp.go moa (by omega))); (try (have i_hop := Imp.go hop (by omega))); (try (have i_rwq := Imp.go rwq (by omega))); (try (have i_bc := Imp.go bc (by omega))); (try (have i_sf := Imp.go sf (by omega))); (try (have i_op8 := Imp.go op8 (by omega))); omega))
            have agV629 : agr [(5, 6), (5, 7), (5, 9), (5, 11), (5, 12)] [39, 68, 75, 77, 78, 84] V V629 := agV581.up hV629 rfl
            refine lv_iconst (v := 1) hx hb dX5_worksWith_124 (by decide) ?_
            have pq631 : (V629 5 6).toInt = ((V 5 6)).toInt := congrArg Int32.toInt ((up2_o hV629 (by decide)).trans ((up2_k hV581 (by decide)).trans (up2_o hV376 (by decide))))
            have pq632 : (V629 67 gf).toInt = ((V 67 gf)).toInt := congrArg Int32.toInt ((up2_o hV629 (by decide)).trans ((up2_o hV581 (by decide)).trans (up2_o hV376 (by decide))))
            have pq633 : (V629 68 gf).toInt = ((V 68 gf)).toInt := congrArg Int32.toInt ((up2_o hV629 (by decide)).trans ((up2_o hV581 (by decide)).trans (up2_o hV376 (by decide))))
            have me634 : ME Va V629 gf := (ME.up (ME.up (ME.up mV hV376 (Or.inl ⟨by decide, by decide, Nat.le_refl _⟩)) hV581 (Or.inr (by omega))) hV629 (Or.inl ⟨by decide, by decide, Nat.le_refl _⟩))
            have pq635 : (V629 70 gf).toInt = ((V 70 gf)).toInt := congrArg Int32.toInt ((up2_o hV629 (by decide)).trans ((up2_o hV581 (by decide)).trans (up2_o hV376 (by decide))))
            have pq636 : (V629 71 gf).toInt = ((V 71 gf)).toInt := congrArg Int32.toInt ((up2_o hV629 (by decide)).trans ((up2_o hV581 (by decide)).trans (up2_o hV376 (by decide))))
            have pq637 : (V629 75 gf).toInt = ((V 75 gf)).toInt := congrArg Int32.toInt ((up2_o hV629 (by decide)).trans ((up2_o hV581 (by decide)).trans (up2_o hV376 (by decide))))
            have pq638 : (V629 76 gf).toInt = ((V 76 gf)).toInt := congrArg Int32.toInt ((up2_o hV629 (by decide)).trans ((up2_o hV581 (by decide)).trans (up2_o hV376 (by decide))))
            have pq639 : (V629 80 gf).toInt = ((V 80 gf)).toInt := congrArg Int32.toInt ((up2_o hV629 (by decide)).trans ((up2_o hV581 (by decide)).trans (up2_o hV376 (by decide))))
            have pq640 : (V629 84 gf).toInt = ((V 48 (8200 * b + (Int32.toNatClampNeg (V 84 gf))))).toInt := congrArg Int32.toInt (up2_s hV629)
            have pq641 : (V629 5 8).toInt = ((V 5 8)).toInt := congrArg Int32.toInt ((up2_o hV629 (by decide)).trans ((up2_k hV581 (by decide)).trans (up2_o hV376 (by decide))))
            have pq642 : (V629 5 9).toInt = ((V 5 9)).toInt := congrArg Int32.toInt ((up2_o hV629 (by decide)).trans ((up2_k hV581 (by decide)).trans (up2_o hV376 (by decide))))
            have pq643 : (V629 3 13).toInt = ((V 3 13)).toInt := congrArg Int32.toInt ((up2_o hV629 (by decide)).trans ((up2_o hV581 (by decide)).trans (up2_o hV376 (by decide))))
            have pq644 : (V629 43 (5 * b + 2)).toInt = ((V 43 (5 * b + 2))).toInt := congrArg Int32.toInt ((up2_o hV629 (by decide)).trans ((up2_o hV581 (by decide)).trans (up2_o hV376 (by decide))))
            have pq645 : (V629 42 b).toInt = ((V 42 b)).toInt := congrArg Int32.toInt ((up2_o hV629 (by decide)).trans ((up2_o hV581 (by decide)).trans (up2_o hV376 (by decide))))
            have pq646 : (V629 41 b).toInt = ((V 41 b)).toInt := congrArg Int32.toInt ((up2_o hV629 (by decide)).trans ((up2_o hV581 (by decide)).trans (up2_o hV376 (by decide))))
            have me649 : ME V V629 0 := (ME.up (ME.up (ME.up ME.rf hV376 (Or.inl ⟨by decide, by decide, by first | omega | ((try (have i_op8 := Imp.go op8 (by omega))); (try (have i_sf := Imp.go sf (by omega))); (try (have i_bc := Imp.go bc (by omega))); (try (have i_rwq := Imp.go rwq (by omega))); (try (have i_hop := Imp.go hop (by omega))); (try (have i_moa := Imp.go moa (by omega))); (try (have i_moa := Imp.go moa (by omega))); (try (have i_hop := Imp.go hop (by omega))); (try (have i_rwq := Imp.go rwq (by omega))); (try (have i_bc := Imp.go bc (by omega))); (try (have i_sf := Imp.go sf (by omega))); (try (have i_op8 := Imp.go op8 (by omega))); omega)⟩)) hV581 (Or.inr (by omega))) hV629 (Or.inl ⟨by decide, by decide, by first | omega | ((try (have i_op8 := Imp.go op8 (by omega))); (try (have i_sf := Imp.go sf (by omega))); (try (have i_bc := Imp.go bc (by omega))); (try (have i_rwq := Imp.go rwq (by omega))); (try (have i_hop := Imp.go hop (by omega))); (try (have i_moa := Imp.go moa (by omega))); (try (have i_moa := Imp.go moa (by omega))); (try (have i_hop := Imp.go hop (by omega))); (try (have i_rwq := Imp.go rwq (by omega))); (try (have i_bc := Imp.go bc (by omega))); (try (have i_sf := Imp.go sf (by omega))); (try (have i_op8 := Imp.go op8 (by omega))); omega)⟩))
            have af648 : (V629 42 b).toInt ≤ (V629 84 gf).toInt ∨ (bdp V629 b (V629 84 gf).toInt.toNat).1 = true := by rw [(up2_s hV629), me649.1.bd, me649.1 42 b (by decide) (by decide)]; exact atw
            have mo647 : MO V629 Z b gf True True True := MO.ch mo me634 ((up2_o hV629 (by decide)).trans ((up2_o hV581 (by decide)).trans ((up2_o hV376 (by decide)).trans ea67.symm))) ((up2_o hV629 (by decide)).trans ((up2_o hV581 (by decide)).trans ((up2_o hV376 (by decide)).trans ea80.symm))) (fun _ => Or.inl (by omega)) (fun x h => FK.k4 (by first | omega | ((try (have i_op8 := Imp.go op8 (by omega))); (try (have i_sf := Imp.go sf (by omega))); (try (have i_bc := Imp.go bc (by omega))); (try (have i_rwq := Imp.go rwq (by omega))); (try (have i_hop := Imp.go hop (by omega))); (try (have i_moa := Imp.go moa (by omega))); (try (have i_moa := Imp.go moa (by omega))); (try (have i_hop := Imp.go hop (by omega))); (try (have i_rwq := Imp.go rwq (by omega))); (try (have i_bc := Imp.go bc (by omega))); (try (have i_sf := Imp.go sf (by omega))); (try (have i_op8 := Imp.go op8 (by omega))); omega)) (by first | omega | ((try (have i_op8 := Imp.go op8 (by omega))); (try (have i_sf := Imp.go sf (by omega))); (try (have i_bc := Imp.go bc (by omega))); (try (have i_rwq := Imp.go rwq (by omega))); (try (have i_hop := Imp.go hop (by omega))); (try (have i_moa := Imp.go moa (by omega))); (try (have i_moa := Imp.go moa (by omega))); (try (have i_hop := Imp.go hop (by omega))); (try (have i_rwq := Imp.go rwq (by omega))); (try (have i_bc := Imp.go bc (by omega))); (try (have i_sf := Imp.go sf (by omega))); (try (have i_op8 := Imp.go op8 (by omega))); omega)) (by first | omega | ((try (have i_op8 := Imp.go op8 (by omega))); (try (have i_sf := Imp.go sf (by omega))); (try (have i_bc := Imp.go bc (by omega))); (try (have i_rwq := Imp.go rwq (by omega))); (try (have i_hop := Imp.go hop (by omega))); (try (have i_moa := Imp.go moa (by omega))); (try (have i_moa := Imp.go moa (by omega))); (try (have i_hop := Imp.go hop (by omega))); (try (have i_rwq := Imp.go rwq (by omega))); (try (have i_bc := Imp.go bc (by omega))); (try (have i_sf := Imp.go sf (by omega))); (try (have i_op8 := Imp.go op8 (by omega))); omega)) af648 (by first | omega | ((try (have i_op8 := Imp.go op8 (by omega))); (try (have i_sf := Imp.go sf (by omega))); (try (have i_bc := Imp.go bc (by omega))); (try (have i_rwq := Imp.go rwq (by omega))); (try (have i_hop := Imp.go hop (by omega))); (try (have i_moa := Imp.go moa (by omega))); (try (have i_moa := Imp.go moa (by omega))); (try (have i_hop := Imp.go hop (by omega))); (try (have i_rwq := Imp.go rwq (by omega))); (try (have i_bc := Imp.go bc (by omega))); (try (have i_sf := Imp.go sf (by omega))); (try (have i_op8 := Imp.go op8 (by omega))); omega)) (fun hph => absurd hph (by omega)))
            have o9 : opf gB.1 at9.toNat = 12 := ((enO_i ⟨opf gB.1 at9.toNat, op9⟩).2.2.2.2.2.2.2.2.2.2.2.2.2.1).mp (show enO (opf gB.1 at9.toNat) = 13 from c48.symm.trans (by omega))
            have p84 : psz (opf gB.1) (at9.toNat + 1) = psz (opf gB.1) at9.toNat + 2 := psz_2 (show opf gB.1 at9.toNat = 2 ∨ (10 ≤ opf gB.1 at9.toNat ∧ opf gB.1 at9.toNat ≤ 14) from by omega)
            have pw9 : psz (opf gB.1) (at9.toNat + 1) ≤ wl gB.1 := psz_le hi9
            have c42 : (V 42 b).toInt = ((wl gB.1 : Nat) : Int) := bc.1.1
            have ka9 : Int32.toNatClampNeg (V 84 gf) = psz (opf gB.1) at9.toNat + 1 := by have h9 := i_clamp (x := V 84 gf) rfl (by omega); omega
            have wa9 : (V 48 (8200 * b + (Int32.toNatClampNeg (V 84 gf)))).toInt = enA gB.1 at9.toNat := by rw [ka9]; exact cd9.2.1 (by unfold szO; rw [if_pos (show opf gB.1 at9.toNat = 2 ∨ (10 ≤ opf gB.1 at9.toNat ∧ opf gB.1 at9.toNat ≤ 14) from by omega)])
            unfold enA at wa9
            have o8 : nL gB.1 (2000 + 3 * at9.toNat) = 12 := o9
            rw [if_neg (by omega), if_pos (by omega)] at wa9
            have pl9 : 1 ≤ p.length := (by obtain ⟨t8, h8, _⟩ := OQ.i12 oq9 o9; omega)
            obtain ⟨x9, p9, hpe⟩ : ∃ x9 p9, p = x9 :: p9 := by cases p with | nil => exact absurd pl9 (by decide) | cons x y => exact ⟨x, y, rfl⟩
            obtain ⟨t2, ht2, hx2, hp2⟩ : plC V tw9 (x9 :: p9) := by rw [← hpe]; exact hp8
            have lp9 : p.length = p9.length + 1 := by rw [hpe]; rfl
            have cz9 : Int32.toNatClampNeg (V376 5 7 - 1) = t2 := by have h9 : (V376 5 7 - 1).toInt = (V376 5 7).toInt - 1 := i_sub rfl rfl (by decide) (by omega); have h8 := i_clamp (x := V376 5 7 - 1) rfl (by omega); omega
            have zx9 : z577 = x9 := by rw [hc583.2, cz9, (up2_o hV376 (by decide))]; exact hx2
            have xz9 : x9 = 0 := by rw [← zx9]; exact Int32.toInt_inj.mp (by show _ = Int32.toInt 0; have h9 : Int32.toInt 0 = 0 := (by decide); omega)
            have wr650 : (V629 3 13).toInt = (V 3 13).toInt := congrArg Int32.toInt ((up2_o hV629 (by decide)).trans ((up2_o hV581 (by decide)).trans (up2_o hV376 (by decide))))
            have wr651 : (V629 3 12).toInt = (V 3 12).toInt := congrArg Int32.toInt ((up2_o hV629 (by decide)).trans ((up2_o hV581 (by decide)).trans (up2_o hV376 (by decide))))
            have wr652 : (V629 67 gf).toInt = ((V 67 gf)).toInt := (congrArg Int32.toInt ((up2_o hV629 (by decide)).trans ((up2_o hV581 (by decide)).trans (up2_o hV376 (by decide)))))
            have wr653 : (V629 68 gf).toInt = ((V 68 gf)).toInt := (congrArg Int32.toInt ((up2_o hV629 (by decide)).trans ((up2_o hV581 (by decide)).trans (up2_o hV376 (by decide)))))
            have wr654 : (V629 69 gf).toInt = ((V 69 gf)).toInt := (congrArg Int32.toInt ((up2_o hV629 (by decide)).trans ((up2_o hV581 (by decide)).trans (up2_o hV376 (by decide)))))
            have wr655 : (V629 70 gf).toInt = ((V 70 gf)).toInt := (congrArg Int32.toInt ((up2_o hV629 (by decide)).trans ((up2_o hV581 (by decide)).trans (up2_o hV376 (by decide)))))
            have wr656 : (V629 71 gf).toInt = ((V 71 gf)).toInt := (congrArg Int32.toInt ((up2_o hV629 (by decide)).trans ((up2_o hV581 (by decide)).trans (up2_o hV376 (by decide)))))
            have wr657 : (V629 72 gf).toInt = ((V 72 gf)).toInt := (congrArg Int32.toInt ((up2_o hV629 (by decide)).trans ((up2_o hV581 (by decide)).trans (up2_o hV376 (by decide)))))
            have wr658 : (V629 73 gf).toInt = ((V 73 gf)).toInt := (congrArg Int32.toInt ((up2_o hV629 (by decide)).trans ((up2_o hV581 (by decide)).trans (up2_o hV376 (by decide)))))
            have wr659 : (V629 75 gf).toInt = ((V 75 gf)).toInt := (congrArg Int32.toInt ((up2_o hV629 (by decide)).trans ((up2_o hV581 (by decide)).trans (up2_o hV376 (by decide)))))
            have wr660 : (V629 84 gf).toInt = ((V 48 (8200 * b + (Int32.toNatClampNeg (V 84 gf))))).toInt := (congrArg Int32.toInt (up2_s hV629))
            have me661 : ME V V629 gf := (ME.up (ME.up (ME.up ME.rf hV376 (Or.inl ⟨by decide, by decide, Nat.le_refl _⟩)) hV581 (Or.inr (by omega))) hV629 (Or.inl ⟨by decide, by decide, Nat.le_refl _⟩))
            have rl662 : RWl V629 gB gr t0 := RWl.mv hlr (fun i9 hi9 c9 h1 h2 => me661.2.1 c9 i9 h1 h2 (by omega)) (fun j9 hj9 => ((up2_o hV629 (by decide)).trans ((up2_o hV581 (by decide)).trans (up2_o hV376 (by decide))))) (by rw [((up2_o hV629 (by decide)).trans ((up2_o hV581 (by decide)).trans (up2_o hV376 (by decide))))]; exact Int.le_refl _) ((up2_o hV629 (by decide)).trans ((up2_o hV581 (by decide)).trans (up2_o hV376 (by decide))))
            have pq663 : (V629 5 7).toInt = z587.toInt := congrArg Int32.toInt ((up2_o hV629 (by decide)).trans (up2_s hV581))
            have fo8 : FRc V629 gB gr.length (Fwork lv o c sc me ps ((nL gB.1 (2001 + 3 * at9.toNat) : Nat) : Int) v p9) := by rw [gl9]; exact ⟨⟨by omega, by omega⟩, ⟨by omega, ⟨by omega, by omega, by omega⟩, ⟨by omega, by omega, by omega⟩, ⟨by omega, by omega, by omega⟩⟩, (fun h9 => by have h8 := hps9 h9; exact ⟨by omega, by omega, by omega, by omega⟩), ⟨Int.natCast_nonneg _, by show _ = ((psz (opf gB.1) (nL gB.1 (2001 + 3 * at9.toNat)) : Nat) : Int); omega⟩, (((up2_o hV629 (by decide)).trans ((up2_o hV581 (by decide)).trans (up2_o hV376 (by decide)))).trans q74)⟩
            have esu : ESw U0 V := ESw.sy (ESw.ag (show agr [] [84] V U0 from agr.up agr.rf hU0 rfl) (by decide))
            have rlu : RWl V629 gB (Fwork lv o c sc me ps ((nL gB.1 (2001 + 3 * at9.toNat) : Nat) : Int) v p9 :: gr) (t2) := ⟨t0, (show t2 = t0 + p9.length from by omega), fo8, fun _ _ => (by rw [gl9, ((up2_o hV629 (by decide)).trans ((up2_o hV581 (by decide)).trans (up2_o hV376 (by decide))))]; exact hb8), plC.mv hp2 (fun j9 hj9 => ((up2_o hV629 (by decide)).trans ((up2_o hV581 (by decide)).trans (up2_o hV376 (by decide))))), rl662⟩
            have rz9 : RW V629 gB (gm, ga, Fwork lv o c sc me ps ((nL gB.1 (2001 + 3 * at9.toNat) : Nat) : Int) v p9 :: gr) := RW.id rwu (ESw.tr esu (ESw.ag (show agr [(5, 7)] [84] V V629 from (agr.up (agr.up (agr.up agr.rf hV376 rfl) hV581 rfl) hV629 rfl)) (by decide))) ((((up2_o hV629 (by decide)).trans ((up2_k hV581 (by decide)).trans (up2_o hV376 (by decide))))).trans (up2_o hU0 (by decide)).symm) ((((up2_o hV629 (by decide)).trans ((up2_k hV581 (by decide)).trans (up2_o hV376 (by decide))))).trans (up2_o hU0 (by decide)).symm) ((((up2_o hV629 (by decide)).trans ((up2_k hV581 (by decide)).trans (up2_o hV376 (by decide))))).trans (up2_o hU0 (by decide)).symm) ((((up2_o hV629 (by decide)).trans ((up2_k hV581 (by decide)).trans (up2_o hV376 (by decide))))).trans (up2_o hU0 (by decide)).symm) (show (V629 5 6).toInt = ((gr.length + 1 : Nat) : Int) from by omega) (show (V629 5 7).toInt = ((t2 : Nat) : Int) from by omega) rlu
            have rx664 : ∃ f2, stM gB (gm, ga, gfr :: gr) = (gm, ga, f2 :: gr) ∧ RW V629 gB (gm, ga, f2 :: gr) := ⟨_, (by rw [hfe, st_12.trans (or_12 o9), hpe]; show (gm, ga, Fwork lv o c sc me ps (if x9 = 0 then ((nL gB.1 (2001 + 3 * at9.toNat) : Nat) : Int) else ((at9.toNat + 1 : Nat) : Int)) v p9 :: gr) = _; rw [if_pos xz9]), rz9⟩
            exact W.zret (v := 1) hx hb hr rfl (fun t ht hW => ⟨⟨1, (V629, L), rfl, ⟨hMV629, agV629, rfl, (by decide), (Imp.mk (fun _ => mo647)), (Imp.mk (fun hp => absurd hp (by decide))), (Imp.mk (fun _ => (show (V629 5 6).toInt = (V 5 6).toInt ∧ (V629 67 gf).toInt = 4 ∧ (V629 68 gf).toInt = 0 from by first | omega | ((try (have i_op8 := Imp.go op8 (by omega))); (try (have i_sf := Imp.go sf (by omega))); (try (have i_bc := Imp.go bc (by omega))); (try (have i_rwq := Imp.go rwq (by omega))); (try (have i_hop := Imp.go hop (by omega))); (try (have i_moa := Imp.go moa (by omega))); (try (have i_moa := Imp.go moa (by omega))); (try (have i_hop := Imp.go hop (by omega))); (try (have i_rwq := Imp.go rwq (by omega))); (try (have i_bc := Imp.go bc (by omega))); (try (have i_sf := Imp.go sf (by omega))); (try (have i_op8 := Imp.go op8 (by omega))); omega)))), (Or.inl ⟨rfl, _, rx664⟩)⟩, by rw [ht]; exact hP, va_K.moved hW.alike hK, hD⟩, hS.F ht⟩) hS.2.2 dX5_worksWith_125
        · skip
          have ajV581 : agr [] [] V376 V581 := by rw [hw586]; exact agr.rf
          refine lv_if_ne (tgt := 117) hx hb dX5_worksWith_110 (by decide) (fun c665 => ?_) (fun c665 => ?_)
          · skip
            have f666 : z577.toInt ≠ 0 := b_neq rfl (by decide) c665
            refine lv_aload_n hx hb dX5_worksWith_117 rfl (lv_at hl 2 rfl) ?_
            refine va_getN (D := D) (ci := 4) (v := .int (V581 84 gf)) (fs := (xfFrame V581 gf)) (C := RX4) (T := TX4) (N := 19) hx hb hg inX4 hown hK hP (336 + gf) (xgFrame hgf) rfl 17 (by decide) (hnw.use 1206 n1206 rfl) (fun _ h9 => h9) rfl dX5_worksWith_118 ?_
            refine g_top (v := z375) ((ajV581 84 gf rfl).trans (up2_s hV376)) ?_
            refine va_putN (D := D) (ci := 4) (v := .int z375) (ty := tyX4 17) (fs := (xfFrame V581 gf)) (C := RX4) (T := TX4) (N := 19) hx hb hg inX4 tyX4 tyX4_ok nmX4 hown hK hP hD hS (336 + gf) (xgFrame hgf) rfl 17 (by decide) (hnw.use 1206 n1206 rfl) (fun _ h9 => h9) rfl (tyX4_ok 17 (by decide)) rfl rfl (Nat.le_of_ble_eq_true rfl) dX5_worksWith_121 (fun H locs hP hD hS => ?_)
            obtain ⟨V667, hV667⟩ : ∃ z, z = up2 V581 84 gf z375 := ⟨_, rfl⟩
            have ew668 : (xw ad kk V581 L Z).set (336 + gf) ((Z.fa gf), .inr (4, (xfFrame V581 gf).set 17 (.int z375))) = xw ad kk V667 L Z := by rw [hV667]; exact xpFrame_at hgf
            have hP : va_P D vwCl (xw ad kk V667 L Z) H := by rw [← ew668]; exact hP
            have hD : va_D A (xw ad kk V667 L Z) := by rw [← ew668]; exact hD
            have hMV667 : rgd bX V667 := hMV581.put hV667 (show 0 ≤ z375.toInt ∧ z375.toInt ≤ 2147483647 from by first | omega | ((try (have i_op8 := Imp.go op8 (by omega))); (try (have i_sf := Imp.go sf (by omega))); (try (have i_bc := Imp.go bc (by omega))); (try (have i_rwq := Imp.go rwq (by omega))); (try (have i_hop := Imp.go hop (by omega))); (try (have i_moa := Imp.go moa (by omega))); (try (have i_moa := Imp.go moa (by omega))); (try (have i_hop := Imp.go hop (by omega))); (try (have i_rwq := Imp.go rwq (by omega))); (try (have i_bc := Imp.go bc (by omega))); (try (have i_sf := Imp.go sf (by omega))); (try (have i_op8 := Imp.go op8 (by omega))); omega))
            have agV667 : agr [(5, 6), (5, 7), (5, 9), (5, 11), (5, 12)] [39, 68, 75, 77, 78, 84] V V667 := agV581.up hV667 rfl
            refine lv_iconst (v := 1) hx hb dX5_worksWith_124 (by decide) ?_
            have pq669 : (V667 5 6).toInt = ((V 5 6)).toInt := congrArg Int32.toInt ((up2_o hV667 (by decide)).trans ((ajV581 5 6 rfl).trans (up2_o hV376 (by decide))))
            have pq670 : (V667 67 gf).toInt = ((V 67 gf)).toInt := congrArg Int32.toInt ((up2_o hV667 (by decide)).trans ((ajV581 67 gf rfl).trans (up2_o hV376 (by decide))))
            have pq671 : (V667 68 gf).toInt = ((V 68 gf)).toInt := congrArg Int32.toInt ((up2_o hV667 (by decide)).trans ((ajV581 68 gf rfl).trans (up2_o hV376 (by decide))))
            have me672 : ME Va V667 gf := (ME.up (ME.tr (ME.up mV hV376 (Or.inl ⟨by decide, by decide, Nat.le_refl _⟩)) (ME.ag ajV581 (by decide))) hV667 (Or.inl ⟨by decide, by decide, Nat.le_refl _⟩))
            have pq673 : (V667 70 gf).toInt = ((V 70 gf)).toInt := congrArg Int32.toInt ((up2_o hV667 (by decide)).trans ((ajV581 70 gf rfl).trans (up2_o hV376 (by decide))))
            have pq674 : (V667 71 gf).toInt = ((V 71 gf)).toInt := congrArg Int32.toInt ((up2_o hV667 (by decide)).trans ((ajV581 71 gf rfl).trans (up2_o hV376 (by decide))))
            have pq675 : (V667 75 gf).toInt = ((V 75 gf)).toInt := congrArg Int32.toInt ((up2_o hV667 (by decide)).trans ((ajV581 75 gf rfl).trans (up2_o hV376 (by decide))))
            have pq676 : (V667 76 gf).toInt = ((V 76 gf)).toInt := congrArg Int32.toInt ((up2_o hV667 (by decide)).trans ((ajV581 76 gf rfl).trans (up2_o hV376 (by decide))))
            have pq677 : (V667 80 gf).toInt = ((V 80 gf)).toInt := congrArg Int32.toInt ((up2_o hV667 (by decide)).trans ((ajV581 80 gf rfl).trans (up2_o hV376 (by decide))))
            have pq678 : (V667 84 gf).toInt = z375.toInt := congrArg Int32.toInt (up2_s hV667)
            have pq679 : (V667 5 8).toInt = ((V 5 8)).toInt := congrArg Int32.toInt ((up2_o hV667 (by decide)).trans ((ajV581 5 8 rfl).trans (up2_o hV376 (by decide))))
            have pq680 : (V667 5 9).toInt = ((V 5 9)).toInt := congrArg Int32.toInt ((up2_o hV667 (by decide)).trans ((ajV581 5 9 rfl).trans (up2_o hV376 (by decide))))
            have pq681 : (V667 3 13).toInt = ((V 3 13)).toInt := congrArg Int32.toInt ((up2_o hV667 (by decide)).trans ((ajV581 3 13 rfl).trans (up2_o hV376 (by decide))))
            have pq682 : (V667 43 (5 * b + 2)).toInt = ((V 43 (5 * b + 2))).toInt := congrArg Int32.toInt ((up2_o hV667 (by decide)).trans ((ajV581 43 (5 * b + 2) rfl).trans (up2_o hV376 (by decide))))
            have pq683 : (V667 42 b).toInt = ((V 42 b)).toInt := congrArg Int32.toInt ((up2_o hV667 (by decide)).trans ((ajV581 42 b rfl).trans (up2_o hV376 (by decide))))
            have pq684 : (V667 41 b).toInt = ((V 41 b)).toInt := congrArg Int32.toInt ((up2_o hV667 (by decide)).trans ((ajV581 41 b rfl).trans (up2_o hV376 (by decide))))
            have me687 : ME V V667 0 := (ME.up (ME.tr (ME.up ME.rf hV376 (Or.inl ⟨by decide, by decide, by first | omega | ((try (have i_op8 := Imp.go op8 (by omega))); (try (have i_sf := Imp.go sf (by omega))); (try (have i_bc := Imp.go bc (by omega))); (try (have i_rwq := Imp.go rwq (by omega))); (try (have i_hop := Imp.go hop (by omega))); (try (have i_moa := Imp.go moa (by omega))); (try (have i_moa := Imp.go moa (by omega))); (try (have i_hop := Imp.go hop (by omega))); (try (have i_rwq := Imp.go rwq (by omega))); (try (have i_bc := Imp.go bc (by omega))); (try (have i_sf := Imp.go sf (by omega))); (try (have i_op8 := Imp.go op8 (by omega))); omega)⟩)) (ME.ag ajV581 (by decide))) hV667 (Or.inl ⟨by decide, by decide, by first | omega | ((try (have i_op8 := Imp.go op8 (by omega))); (try (have i_sf := Imp.go sf (by omega))); (try (have i_bc := Imp.go bc (by omega))); (try (have i_rwq := Imp.go rwq (by omega))); (try (have i_hop := Imp.go hop (by omega))); (try (have i_moa := Imp.go moa (by omega))); (try (have i_moa := Imp.go moa (by omega))); (try (have i_hop := Imp.go hop (by omega))); (try (have i_rwq := Imp.go rwq (by omega))); (try (have i_bc := Imp.go bc (by omega))); (try (have i_sf := Imp.go sf (by omega))); (try (have i_op8 := Imp.go op8 (by omega))); omega)⟩))
            have af686 : (V667 42 b).toInt ≤ (V667 84 gf).toInt ∨ (bdp V667 b (V667 84 gf).toInt.toNat).1 = true := by rw [(up2_s hV667), me687.1.bd, me687.1 42 b (by decide) (by decide)]; exact atn
            have mo685 : MO V667 Z b gf True True True := MO.ch mo me672 ((up2_o hV667 (by decide)).trans ((ajV581 67 gf rfl).trans ((up2_o hV376 (by decide)).trans ea67.symm))) ((up2_o hV667 (by decide)).trans ((ajV581 80 gf rfl).trans ((up2_o hV376 (by decide)).trans ea80.symm))) (fun _ => Or.inl (by omega)) (fun x h => FK.k4 (by first | omega | ((try (have i_op8 := Imp.go op8 (by omega))); (try (have i_sf := Imp.go sf (by omega))); (try (have i_bc := Imp.go bc (by omega))); (try (have i_rwq := Imp.go rwq (by omega))); (try (have i_hop := Imp.go hop (by omega))); (try (have i_moa := Imp.go moa (by omega))); (try (have i_moa := Imp.go moa (by omega))); (try (have i_hop := Imp.go hop (by omega))); (try (have i_rwq := Imp.go rwq (by omega))); (try (have i_bc := Imp.go bc (by omega))); (try (have i_sf := Imp.go sf (by omega))); (try (have i_op8 := Imp.go op8 (by omega))); omega)) (by first | omega | ((try (have i_op8 := Imp.go op8 (by omega))); (try (have i_sf := Imp.go sf (by omega))); (try (have i_bc := Imp.go bc (by omega))); (try (have i_rwq := Imp.go rwq (by omega))); (try (have i_hop := Imp.go hop (by omega))); (try (have i_moa := Imp.go moa (by omega))); (try (have i_moa := Imp.go moa (by omega))); (try (have i_hop := Imp.go hop (by omega))); (try (have i_rwq := Imp.go rwq (by omega))); (try (have i_bc := Imp.go bc (by omega))); (try (have i_sf := Imp.go sf (by omega))); (try (have i_op8 := Imp.go op8 (by omega))); omega)) (by first | omega | ((try (have i_op8 := Imp.go op8 (by omega))); (try (have i_sf := Imp.go sf (by omega))); (try (have i_bc := Imp.go bc (by omega))); (try (have i_rwq := Imp.go rwq (by omega))); (try (have i_hop := Imp.go hop (by omega))); (try (have i_moa := Imp.go moa (by omega))); (try (have i_moa := Imp.go moa (by omega))); (try (have i_hop := Imp.go hop (by omega))); (try (have i_rwq := Imp.go rwq (by omega))); (try (have i_bc := Imp.go bc (by omega))); (try (have i_sf := Imp.go sf (by omega))); (try (have i_op8 := Imp.go op8 (by omega))); omega)) af686 (by first | omega | ((try (have i_op8 := Imp.go op8 (by omega))); (try (have i_sf := Imp.go sf (by omega))); (try (have i_bc := Imp.go bc (by omega))); (try (have i_rwq := Imp.go rwq (by omega))); (try (have i_hop := Imp.go hop (by omega))); (try (have i_moa := Imp.go moa (by omega))); (try (have i_moa := Imp.go moa (by omega))); (try (have i_hop := Imp.go hop (by omega))); (try (have i_rwq := Imp.go rwq (by omega))); (try (have i_bc := Imp.go bc (by omega))); (try (have i_sf := Imp.go sf (by omega))); (try (have i_op8 := Imp.go op8 (by omega))); omega)) (fun hph => absurd hph (by omega)))
            have o9 : opf gB.1 at9.toNat = 12 := ((enO_i ⟨opf gB.1 at9.toNat, op9⟩).2.2.2.2.2.2.2.2.2.2.2.2.2.1).mp (show enO (opf gB.1 at9.toNat) = 13 from c48.symm.trans (by omega))
            have p84 : psz (opf gB.1) (at9.toNat + 1) = psz (opf gB.1) at9.toNat + 2 := psz_2 (show opf gB.1 at9.toNat = 2 ∨ (10 ≤ opf gB.1 at9.toNat ∧ opf gB.1 at9.toNat ≤ 14) from by omega)
            have pw9 : psz (opf gB.1) (at9.toNat + 1) ≤ wl gB.1 := psz_le hi9
            have c42 : (V 42 b).toInt = ((wl gB.1 : Nat) : Int) := bc.1.1
            have ka9 : Int32.toNatClampNeg (V 84 gf) = psz (opf gB.1) at9.toNat + 1 := by have h9 := i_clamp (x := V 84 gf) rfl (by omega); omega
            have wa9 : (V 48 (8200 * b + (Int32.toNatClampNeg (V 84 gf)))).toInt = enA gB.1 at9.toNat := by rw [ka9]; exact cd9.2.1 (by unfold szO; rw [if_pos (show opf gB.1 at9.toNat = 2 ∨ (10 ≤ opf gB.1 at9.toNat ∧ opf gB.1 at9.toNat ≤ 14) from by omega)])
            unfold enA at wa9
            have o8 : nL gB.1 (2000 + 3 * at9.toNat) = 12 := o9
            rw [if_neg (by omega), if_pos (by omega)] at wa9
            have pq688 : (V376 5 7).toInt = ((V 5 7)).toInt := congrArg Int32.toInt (up2_o hV376 (by decide))
            have r689 : 0 ≤ ((V 5 7)).toInt ∧ ((V 5 7)).toInt ≤ 2048 := hMV 5 7
            have pl9 : 1 ≤ p.length := by obtain ⟨t8, h8, _⟩ := OQ.i12 oq9 o9; omega
            exact W.zret (v := 1) hx hb hr rfl (fun t ht hW => ⟨⟨1, (V667, L), rfl, ⟨hMV667, agV667, rfl, (by decide), (Imp.mk (fun _ => mo685)), (Imp.mk (fun hp => absurd hp (by decide))), (Imp.mk (fun _ => (show (V667 5 6).toInt = (V 5 6).toInt ∧ (V667 67 gf).toInt = 4 ∧ (V667 68 gf).toInt = 0 from by first | omega | ((try (have i_op8 := Imp.go op8 (by omega))); (try (have i_sf := Imp.go sf (by omega))); (try (have i_bc := Imp.go bc (by omega))); (try (have i_rwq := Imp.go rwq (by omega))); (try (have i_hop := Imp.go hop (by omega))); (try (have i_moa := Imp.go moa (by omega))); (try (have i_moa := Imp.go moa (by omega))); (try (have i_hop := Imp.go hop (by omega))); (try (have i_rwq := Imp.go rwq (by omega))); (try (have i_bc := Imp.go bc (by omega))); (try (have i_sf := Imp.go sf (by omega))); (try (have i_op8 := Imp.go op8 (by omega))); omega)))), (by exfalso; omega)⟩, by rw [ht]; exact hP, va_K.moved hW.alike hK, hD⟩, hS.F ht⟩) hS.2.2 dX5_worksWith_125
          · skip
            have f690 : z577.toInt = 0 := b_eq rfl (by decide) c665
            refine lv_iload_n hx hb dX5_worksWith_113 rfl (lv_at hl 0 rfl) ?_
            refine lv_goto (tgt := 121) hx hb dX5_worksWith_114 (by decide) ?_
            refine va_putN (D := D) (ci := 4) (v := .int (V 48 (8200 * b + (Int32.toNatClampNeg (V 84 gf))))) (ty := tyX4 17) (fs := (xfFrame V581 gf)) (C := RX4) (T := TX4) (N := 19) hx hb hg inX4 tyX4 tyX4_ok nmX4 hown hK hP hD hS (336 + gf) (xgFrame hgf) rfl 17 (by decide) (hnw.use 1206 n1206 rfl) (fun _ h9 => h9) rfl (tyX4_ok 17 (by decide)) rfl rfl (Nat.le_of_ble_eq_true rfl) dX5_worksWith_121 (fun H locs hP hD hS => ?_)
            obtain ⟨V691, hV691⟩ : ∃ z, z = up2 V581 84 gf (V 48 (8200 * b + (Int32.toNatClampNeg (V 84 gf)))) := ⟨_, rfl⟩
            have ew692 : (xw ad kk V581 L Z).set (336 + gf) ((Z.fa gf), .inr (4, (xfFrame V581 gf).set 17 (.int (V 48 (8200 * b + (Int32.toNatClampNeg (V 84 gf))))))) = xw ad kk V691 L Z := by rw [hV691]; exact xpFrame_at hgf
            have hP : va_P D vwCl (xw ad kk V691 L Z) H := by rw [← ew692]; exact hP
            have hD : va_D A (xw ad kk V691 L Z) := by rw [← ew692]; exact hD
            have hMV691 : rgd bX V691 := hMV581.put hV691 (show 0 ≤ ((V 48 (8200 * b + (Int32.toNatClampNeg (V 84 gf))))).toInt ∧ ((V 48 (8200 * b + (Int32.toNatClampNeg (V 84 gf))))).toInt ≤ 2147483647 from by first | omega | ((try (have i_op8 := Imp.go op8 (by omega))); (try (have i_sf := Imp.go sf (by omega))); (try (have i_bc := Imp.go bc (by omega))); (try (have i_rwq := Imp.go rwq (by omega))); (try (have i_hop := Imp.go hop (by omega))); (try (have i_moa := Imp.go moa (by omega))); (try (have i_moa := Imp.go moa (by omega))); (try (have i_hop := Imp.go hop (by omega))); (try (have i_rwq := Imp.go rwq (by omega))); (try (have i_bc := Imp.go bc (by omega))); (try (have i_sf := Imp.go sf (by omega))); (try (have i_op8 := Imp.go op8 (by omega))); omega))
            have agV691 : agr [(5, 6), (5, 7), (5, 9), (5, 11), (5, 12)] [39, 68, 75, 77, 78, 84] V V691 := agV581.up hV691 rfl
            refine lv_iconst (v := 1) hx hb dX5_worksWith_124 (by decide) ?_
            have pq693 : (V691 5 6).toInt = ((V 5 6)).toInt := congrArg Int32.toInt ((up2_o hV691 (by decide)).trans ((ajV581 5 6 rfl).trans (up2_o hV376 (by decide))))
            have pq694 : (V691 67 gf).toInt = ((V 67 gf)).toInt := congrArg Int32.toInt ((up2_o hV691 (by decide)).trans ((ajV581 67 gf rfl).trans (up2_o hV376 (by decide))))
            have pq695 : (V691 68 gf).toInt = ((V 68 gf)).toInt := congrArg Int32.toInt ((up2_o hV691 (by decide)).trans ((ajV581 68 gf rfl).trans (up2_o hV376 (by decide))))
            have me696 : ME Va V691 gf := (ME.up (ME.tr (ME.up mV hV376 (Or.inl ⟨by decide, by decide, Nat.le_refl _⟩)) (ME.ag ajV581 (by decide))) hV691 (Or.inl ⟨by decide, by decide, Nat.le_refl _⟩))
            have pq697 : (V691 70 gf).toInt = ((V 70 gf)).toInt := congrArg Int32.toInt ((up2_o hV691 (by decide)).trans ((ajV581 70 gf rfl).trans (up2_o hV376 (by decide))))
            have pq698 : (V691 71 gf).toInt = ((V 71 gf)).toInt := congrArg Int32.toInt ((up2_o hV691 (by decide)).trans ((ajV581 71 gf rfl).trans (up2_o hV376 (by decide))))
            have pq699 : (V691 75 gf).toInt = ((V 75 gf)).toInt := congrArg Int32.toInt ((up2_o hV691 (by decide)).trans ((ajV581 75 gf rfl).trans (up2_o hV376 (by decide))))
            have pq700 : (V691 76 gf).toInt = ((V 76 gf)).toInt := congrArg Int32.toInt ((up2_o hV691 (by decide)).trans ((ajV581 76 gf rfl).trans (up2_o hV376 (by decide))))
            have pq701 : (V691 80 gf).toInt = ((V 80 gf)).toInt := congrArg Int32.toInt ((up2_o hV691 (by decide)).trans ((ajV581 80 gf rfl).trans (up2_o hV376 (by decide))))
            have pq702 : (V691 84 gf).toInt = ((V 48 (8200 * b + (Int32.toNatClampNeg (V 84 gf))))).toInt := congrArg Int32.toInt (up2_s hV691)
            have pq703 : (V691 5 8).toInt = ((V 5 8)).toInt := congrArg Int32.toInt ((up2_o hV691 (by decide)).trans ((ajV581 5 8 rfl).trans (up2_o hV376 (by decide))))
            have pq704 : (V691 5 9).toInt = ((V 5 9)).toInt := congrArg Int32.toInt ((up2_o hV691 (by decide)).trans ((ajV581 5 9 rfl).trans (up2_o hV376 (by decide))))
            have pq705 : (V691 3 13).toInt = ((V 3 13)).toInt := congrArg Int32.toInt ((up2_o hV691 (by decide)).trans ((ajV581 3 13 rfl).trans (up2_o hV376 (by decide))))
            have pq706 : (V691 43 (5 * b + 2)).toInt = ((V 43 (5 * b + 2))).toInt := congrArg Int32.toInt ((up2_o hV691 (by decide)).trans ((ajV581 43 (5 * b + 2) rfl).trans (up2_o hV376 (by decide))))
            have pq707 : (V691 42 b).toInt = ((V 42 b)).toInt := congrArg Int32.toInt ((up2_o hV691 (by decide)).trans ((ajV581 42 b rfl).trans (up2_o hV376 (by decide))))
            have pq708 : (V691 41 b).toInt = ((V 41 b)).toInt := congrArg Int32.toInt ((up2_o hV691 (by decide)).trans ((ajV581 41 b rfl).trans (up2_o hV376 (by decide))))
            have me711 : ME V V691 0 := (ME.up (ME.tr (ME.up ME.rf hV376 (Or.inl ⟨by decide, by decide, by first | omega | ((try (have i_op8 := Imp.go op8 (by omega))); (try (have i_sf := Imp.go sf (by omega))); (try (have i_bc := Imp.go bc (by omega))); (try (have i_rwq := Imp.go rwq (by omega))); (try (have i_hop := Imp.go hop (by omega))); (try (have i_moa := Imp.go moa (by omega))); (try (have i_moa := Imp.go moa (by omega))); (try (have i_hop := Imp.go hop (by omega))); (try (have i_rwq := Imp.go rwq (by omega))); (try (have i_bc := Imp.go bc (by omega))); (try (have i_sf := Imp.go sf (by omega))); (try (have i_op8 := Imp.go op8 (by omega))); omega)⟩)) (ME.ag ajV581 (by decide))) hV691 (Or.inl ⟨by decide, by decide, by first | omega | ((try (have i_op8 := Imp.go op8 (by omega))); (try (have i_sf := Imp.go sf (by omega))); (try (have i_bc := Imp.go bc (by omega))); (try (have i_rwq := Imp.go rwq (by omega))); (try (have i_hop := Imp.go hop (by omega))); (try (have i_moa := Imp.go moa (by omega))); (try (have i_moa := Imp.go moa (by omega))); (try (have i_hop := Imp.go hop (by omega))); (try (have i_rwq := Imp.go rwq (by omega))); (try (have i_bc := Imp.go bc (by omega))); (try (have i_sf := Imp.go sf (by omega))); (try (have i_op8 := Imp.go op8 (by omega))); omega)⟩))
            have af710 : (V691 42 b).toInt ≤ (V691 84 gf).toInt ∨ (bdp V691 b (V691 84 gf).toInt.toNat).1 = true := by rw [(up2_s hV691), me711.1.bd, me711.1 42 b (by decide) (by decide)]; exact atw
            have mo709 : MO V691 Z b gf True True True := MO.ch mo me696 ((up2_o hV691 (by decide)).trans ((ajV581 67 gf rfl).trans ((up2_o hV376 (by decide)).trans ea67.symm))) ((up2_o hV691 (by decide)).trans ((ajV581 80 gf rfl).trans ((up2_o hV376 (by decide)).trans ea80.symm))) (fun _ => Or.inl (by omega)) (fun x h => FK.k4 (by first | omega | ((try (have i_op8 := Imp.go op8 (by omega))); (try (have i_sf := Imp.go sf (by omega))); (try (have i_bc := Imp.go bc (by omega))); (try (have i_rwq := Imp.go rwq (by omega))); (try (have i_hop := Imp.go hop (by omega))); (try (have i_moa := Imp.go moa (by omega))); (try (have i_moa := Imp.go moa (by omega))); (try (have i_hop := Imp.go hop (by omega))); (try (have i_rwq := Imp.go rwq (by omega))); (try (have i_bc := Imp.go bc (by omega))); (try (have i_sf := Imp.go sf (by omega))); (try (have i_op8 := Imp.go op8 (by omega))); omega)) (by first | omega | ((try (have i_op8 := Imp.go op8 (by omega))); (try (have i_sf := Imp.go sf (by omega))); (try (have i_bc := Imp.go bc (by omega))); (try (have i_rwq := Imp.go rwq (by omega))); (try (have i_hop := Imp.go hop (by omega))); (try (have i_moa := Imp.go moa (by omega))); (try (have i_moa := Imp.go moa (by omega))); (try (have i_hop := Imp.go hop (by omega))); (try (have i_rwq := Imp.go rwq (by omega))); (try (have i_bc := Imp.go bc (by omega))); (try (have i_sf := Imp.go sf (by omega))); (try (have i_op8 := Imp.go op8 (by omega))); omega)) (by first | omega | ((try (have i_op8 := Imp.go op8 (by omega))); (try (have i_sf := Imp.go sf (by omega))); (try (have i_bc := Imp.go bc (by omega))); (try (have i_rwq := Imp.go rwq (by omega))); (try (have i_hop := Imp.go hop (by omega))); (try (have i_moa := Imp.go moa (by omega))); (try (have i_moa := Imp.go moa (by omega))); (try (have i_hop := Imp.go hop (by omega))); (try (have i_rwq := Imp.go rwq (by omega))); (try (have i_bc := Imp.go bc (by omega))); (try (have i_sf := Imp.go sf (by omega))); (try (have i_op8 := Imp.go op8 (by omega))); omega)) af710 (by first | omega | ((try (have i_op8 := Imp.go op8 (by omega))); (try (have i_sf := Imp.go sf (by omega))); (try (have i_bc := Imp.go bc (by omega))); (try (have i_rwq := Imp.go rwq (by omega))); (try (have i_hop := Imp.go hop (by omega))); (try (have i_moa := Imp.go moa (by omega))); (try (have i_moa := Imp.go moa (by omega))); (try (have i_hop := Imp.go hop (by omega))); (try (have i_rwq := Imp.go rwq (by omega))); (try (have i_bc := Imp.go bc (by omega))); (try (have i_sf := Imp.go sf (by omega))); (try (have i_op8 := Imp.go op8 (by omega))); omega)) (fun hph => absurd hph (by omega)))
            have o9 : opf gB.1 at9.toNat = 12 := ((enO_i ⟨opf gB.1 at9.toNat, op9⟩).2.2.2.2.2.2.2.2.2.2.2.2.2.1).mp (show enO (opf gB.1 at9.toNat) = 13 from c48.symm.trans (by omega))
            have p84 : psz (opf gB.1) (at9.toNat + 1) = psz (opf gB.1) at9.toNat + 2 := psz_2 (show opf gB.1 at9.toNat = 2 ∨ (10 ≤ opf gB.1 at9.toNat ∧ opf gB.1 at9.toNat ≤ 14) from by omega)
            have pw9 : psz (opf gB.1) (at9.toNat + 1) ≤ wl gB.1 := psz_le hi9
            have c42 : (V 42 b).toInt = ((wl gB.1 : Nat) : Int) := bc.1.1
            have ka9 : Int32.toNatClampNeg (V 84 gf) = psz (opf gB.1) at9.toNat + 1 := by have h9 := i_clamp (x := V 84 gf) rfl (by omega); omega
            have wa9 : (V 48 (8200 * b + (Int32.toNatClampNeg (V 84 gf)))).toInt = enA gB.1 at9.toNat := by rw [ka9]; exact cd9.2.1 (by unfold szO; rw [if_pos (show opf gB.1 at9.toNat = 2 ∨ (10 ≤ opf gB.1 at9.toNat ∧ opf gB.1 at9.toNat ≤ 14) from by omega)])
            unfold enA at wa9
            have o8 : nL gB.1 (2000 + 3 * at9.toNat) = 12 := o9
            rw [if_neg (by omega), if_pos (by omega)] at wa9
            have pq712 : (V376 5 7).toInt = ((V 5 7)).toInt := congrArg Int32.toInt (up2_o hV376 (by decide))
            have r713 : 0 ≤ ((V 5 7)).toInt ∧ ((V 5 7)).toInt ≤ 2048 := hMV 5 7
            have pl9 : 1 ≤ p.length := by obtain ⟨t8, h8, _⟩ := OQ.i12 oq9 o9; omega
            exact W.zret (v := 1) hx hb hr rfl (fun t ht hW => ⟨⟨1, (V691, L), rfl, ⟨hMV691, agV691, rfl, (by decide), (Imp.mk (fun _ => mo709)), (Imp.mk (fun hp => absurd hp (by decide))), (Imp.mk (fun _ => (show (V691 5 6).toInt = (V 5 6).toInt ∧ (V691 67 gf).toInt = 4 ∧ (V691 68 gf).toInt = 0 from by first | omega | ((try (have i_op8 := Imp.go op8 (by omega))); (try (have i_sf := Imp.go sf (by omega))); (try (have i_bc := Imp.go bc (by omega))); (try (have i_rwq := Imp.go rwq (by omega))); (try (have i_hop := Imp.go hop (by omega))); (try (have i_moa := Imp.go moa (by omega))); (try (have i_moa := Imp.go moa (by omega))); (try (have i_hop := Imp.go hop (by omega))); (try (have i_rwq := Imp.go rwq (by omega))); (try (have i_bc := Imp.go bc (by omega))); (try (have i_sf := Imp.go sf (by omega))); (try (have i_op8 := Imp.go op8 (by omega))); omega)))), (by exfalso; omega)⟩, by rw [ht]; exact hP, va_K.moved hW.alike hK, hD⟩, hS.F ht⟩) hS.2.2 dX5_worksWith_125
      have gq576 : p1.toInt ≠ 13 := b_neq rfl (by decide) q576
      by_cases q714 : p1 = 14
      · refine g_top (v := 14) q714 ?_
        have fq714 : p1.toInt = 14 := b_eq rfl (by decide) q714
        refine lv_tableIn (x := 14) (off := 56) (tgt := 98) hx hb dX5_worksWith_42 (by decide) (by decide) (by decide) (by decide) ?_
        have hjm := hop1.1.2.2 (by omega)
        have hfw := i_full (V 48 (8200 * b + (Int32.toNatClampNeg (V 84 gf))))
        have hj0 : 0 ≤ (V 48 (8200 * b + (Int32.toNatClampNeg (V 84 gf)))).toInt := by rcases hjm with h | h <;> omega
        have atw : (V 42 b).toInt ≤ (V 48 (8200 * b + (Int32.toNatClampNeg (V 84 gf)))).toInt ∨ (bdp V b (V 48 (8200 * b + (Int32.toNatClampNeg (V 84 gf)))).toInt.toNat).1 = true := hjm.elim (fun h => Or.inl (by omega)) (fun h => Or.inr h.2.2)
        refine lv_aload_n hx hb dX5_worksWith_98 rfl (lv_at hl 2 rfl) ?_
        refine lv_iload_n hx hb dX5_worksWith_99 rfl (lv_at hl 0 rfl) ?_
        refine va_putN (D := D) (ci := 4) (v := .int (V 48 (8200 * b + (Int32.toNatClampNeg (V 84 gf))))) (ty := tyX4 17) (fs := (xfFrame V376 gf)) (C := RX4) (T := TX4) (N := 19) hx hb hg inX4 tyX4 tyX4_ok nmX4 hown hK hP hD hS (336 + gf) (xgFrame hgf) rfl 17 (by decide) (hnw.use 1206 n1206 rfl) (fun _ h9 => h9) rfl (tyX4_ok 17 (by decide)) rfl rfl (Nat.le_of_ble_eq_true rfl) dX5_worksWith_100 (fun H locs hP hD hS => ?_)
        obtain ⟨V715, hV715⟩ : ∃ z, z = up2 V376 84 gf (V 48 (8200 * b + (Int32.toNatClampNeg (V 84 gf)))) := ⟨_, rfl⟩
        have ew716 : (xw ad kk V376 L Z).set (336 + gf) ((Z.fa gf), .inr (4, (xfFrame V376 gf).set 17 (.int (V 48 (8200 * b + (Int32.toNatClampNeg (V 84 gf))))))) = xw ad kk V715 L Z := by rw [hV715]; exact xpFrame_at hgf
        have hP : va_P D vwCl (xw ad kk V715 L Z) H := by rw [← ew716]; exact hP
        have hD : va_D A (xw ad kk V715 L Z) := by rw [← ew716]; exact hD
        have hMV715 : rgd bX V715 := hMV376.put hV715 (show 0 ≤ ((V 48 (8200 * b + (Int32.toNatClampNeg (V 84 gf))))).toInt ∧ ((V 48 (8200 * b + (Int32.toNatClampNeg (V 84 gf))))).toInt ≤ 2147483647 from by first | omega | ((try (have i_op8 := Imp.go op8 (by omega))); (try (have i_sf := Imp.go sf (by omega))); (try (have i_bc := Imp.go bc (by omega))); (try (have i_rwq := Imp.go rwq (by omega))); (try (have i_hop := Imp.go hop (by omega))); (try (have i_moa := Imp.go moa (by omega))); (try (have i_moa := Imp.go moa (by omega))); (try (have i_hop := Imp.go hop (by omega))); (try (have i_rwq := Imp.go rwq (by omega))); (try (have i_bc := Imp.go bc (by omega))); (try (have i_sf := Imp.go sf (by omega))); (try (have i_op8 := Imp.go op8 (by omega))); omega))
        have agV715 : agr [(5, 6), (5, 7), (5, 9), (5, 11), (5, 12)] [39, 68, 75, 77, 78, 84] V V715 := agV376.up hV715 rfl
        refine lv_iconst (v := 1) hx hb dX5_worksWith_103 (by decide) ?_
        have pq717 : (V715 5 6).toInt = ((V 5 6)).toInt := congrArg Int32.toInt ((up2_o hV715 (by decide)).trans (up2_o hV376 (by decide)))
        have pq718 : (V715 67 gf).toInt = ((V 67 gf)).toInt := congrArg Int32.toInt ((up2_o hV715 (by decide)).trans (up2_o hV376 (by decide)))
        have pq719 : (V715 68 gf).toInt = ((V 68 gf)).toInt := congrArg Int32.toInt ((up2_o hV715 (by decide)).trans (up2_o hV376 (by decide)))
        have me720 : ME Va V715 gf := (ME.up (ME.up mV hV376 (Or.inl ⟨by decide, by decide, Nat.le_refl _⟩)) hV715 (Or.inl ⟨by decide, by decide, Nat.le_refl _⟩))
        have pq721 : (V715 70 gf).toInt = ((V 70 gf)).toInt := congrArg Int32.toInt ((up2_o hV715 (by decide)).trans (up2_o hV376 (by decide)))
        have pq722 : (V715 71 gf).toInt = ((V 71 gf)).toInt := congrArg Int32.toInt ((up2_o hV715 (by decide)).trans (up2_o hV376 (by decide)))
        have pq723 : (V715 75 gf).toInt = ((V 75 gf)).toInt := congrArg Int32.toInt ((up2_o hV715 (by decide)).trans (up2_o hV376 (by decide)))
        have pq724 : (V715 76 gf).toInt = ((V 76 gf)).toInt := congrArg Int32.toInt ((up2_o hV715 (by decide)).trans (up2_o hV376 (by decide)))
        have pq725 : (V715 80 gf).toInt = ((V 80 gf)).toInt := congrArg Int32.toInt ((up2_o hV715 (by decide)).trans (up2_o hV376 (by decide)))
        have pq726 : (V715 84 gf).toInt = ((V 48 (8200 * b + (Int32.toNatClampNeg (V 84 gf))))).toInt := congrArg Int32.toInt (up2_s hV715)
        have pq727 : (V715 5 8).toInt = ((V 5 8)).toInt := congrArg Int32.toInt ((up2_o hV715 (by decide)).trans (up2_o hV376 (by decide)))
        have pq728 : (V715 5 9).toInt = ((V 5 9)).toInt := congrArg Int32.toInt ((up2_o hV715 (by decide)).trans (up2_o hV376 (by decide)))
        have pq729 : (V715 3 13).toInt = ((V 3 13)).toInt := congrArg Int32.toInt ((up2_o hV715 (by decide)).trans (up2_o hV376 (by decide)))
        have pq730 : (V715 43 (5 * b + 2)).toInt = ((V 43 (5 * b + 2))).toInt := congrArg Int32.toInt ((up2_o hV715 (by decide)).trans (up2_o hV376 (by decide)))
        have pq731 : (V715 42 b).toInt = ((V 42 b)).toInt := congrArg Int32.toInt ((up2_o hV715 (by decide)).trans (up2_o hV376 (by decide)))
        have pq732 : (V715 41 b).toInt = ((V 41 b)).toInt := congrArg Int32.toInt ((up2_o hV715 (by decide)).trans (up2_o hV376 (by decide)))
        have me735 : ME V V715 0 := (ME.up (ME.up ME.rf hV376 (Or.inl ⟨by decide, by decide, by first | omega | ((try (have i_op8 := Imp.go op8 (by omega))); (try (have i_sf := Imp.go sf (by omega))); (try (have i_bc := Imp.go bc (by omega))); (try (have i_rwq := Imp.go rwq (by omega))); (try (have i_hop := Imp.go hop (by omega))); (try (have i_moa := Imp.go moa (by omega))); (try (have i_moa := Imp.go moa (by omega))); (try (have i_hop := Imp.go hop (by omega))); (try (have i_rwq := Imp.go rwq (by omega))); (try (have i_bc := Imp.go bc (by omega))); (try (have i_sf := Imp.go sf (by omega))); (try (have i_op8 := Imp.go op8 (by omega))); omega)⟩)) hV715 (Or.inl ⟨by decide, by decide, by first | omega | ((try (have i_op8 := Imp.go op8 (by omega))); (try (have i_sf := Imp.go sf (by omega))); (try (have i_bc := Imp.go bc (by omega))); (try (have i_rwq := Imp.go rwq (by omega))); (try (have i_hop := Imp.go hop (by omega))); (try (have i_moa := Imp.go moa (by omega))); (try (have i_moa := Imp.go moa (by omega))); (try (have i_hop := Imp.go hop (by omega))); (try (have i_rwq := Imp.go rwq (by omega))); (try (have i_bc := Imp.go bc (by omega))); (try (have i_sf := Imp.go sf (by omega))); (try (have i_op8 := Imp.go op8 (by omega))); omega)⟩))
        have af734 : (V715 42 b).toInt ≤ (V715 84 gf).toInt ∨ (bdp V715 b (V715 84 gf).toInt.toNat).1 = true := by rw [(up2_s hV715), me735.1.bd, me735.1 42 b (by decide) (by decide)]; exact atw
        have mo733 : MO V715 Z b gf True True True := MO.ch mo me720 ((up2_o hV715 (by decide)).trans ((up2_o hV376 (by decide)).trans ea67.symm)) ((up2_o hV715 (by decide)).trans ((up2_o hV376 (by decide)).trans ea80.symm)) (fun _ => Or.inl (by omega)) (fun x h => FK.k4 (by first | omega | ((try (have i_op8 := Imp.go op8 (by omega))); (try (have i_sf := Imp.go sf (by omega))); (try (have i_bc := Imp.go bc (by omega))); (try (have i_rwq := Imp.go rwq (by omega))); (try (have i_hop := Imp.go hop (by omega))); (try (have i_moa := Imp.go moa (by omega))); (try (have i_moa := Imp.go moa (by omega))); (try (have i_hop := Imp.go hop (by omega))); (try (have i_rwq := Imp.go rwq (by omega))); (try (have i_bc := Imp.go bc (by omega))); (try (have i_sf := Imp.go sf (by omega))); (try (have i_op8 := Imp.go op8 (by omega))); omega)) (by first | omega | ((try (have i_op8 := Imp.go op8 (by omega))); (try (have i_sf := Imp.go sf (by omega))); (try (have i_bc := Imp.go bc (by omega))); (try (have i_rwq := Imp.go rwq (by omega))); (try (have i_hop := Imp.go hop (by omega))); (try (have i_moa := Imp.go moa (by omega))); (try (have i_moa := Imp.go moa (by omega))); (try (have i_hop := Imp.go hop (by omega))); (try (have i_rwq := Imp.go rwq (by omega))); (try (have i_bc := Imp.go bc (by omega))); (try (have i_sf := Imp.go sf (by omega))); (try (have i_op8 := Imp.go op8 (by omega))); omega)) (by first | omega | ((try (have i_op8 := Imp.go op8 (by omega))); (try (have i_sf := Imp.go sf (by omega))); (try (have i_bc := Imp.go bc (by omega))); (try (have i_rwq := Imp.go rwq (by omega))); (try (have i_hop := Imp.go hop (by omega))); (try (have i_moa := Imp.go moa (by omega))); (try (have i_moa := Imp.go moa (by omega))); (try (have i_hop := Imp.go hop (by omega))); (try (have i_rwq := Imp.go rwq (by omega))); (try (have i_bc := Imp.go bc (by omega))); (try (have i_sf := Imp.go sf (by omega))); (try (have i_op8 := Imp.go op8 (by omega))); omega)) af734 (by first | omega | ((try (have i_op8 := Imp.go op8 (by omega))); (try (have i_sf := Imp.go sf (by omega))); (try (have i_bc := Imp.go bc (by omega))); (try (have i_rwq := Imp.go rwq (by omega))); (try (have i_hop := Imp.go hop (by omega))); (try (have i_moa := Imp.go moa (by omega))); (try (have i_moa := Imp.go moa (by omega))); (try (have i_hop := Imp.go hop (by omega))); (try (have i_rwq := Imp.go rwq (by omega))); (try (have i_bc := Imp.go bc (by omega))); (try (have i_sf := Imp.go sf (by omega))); (try (have i_op8 := Imp.go op8 (by omega))); omega)) (fun hph => absurd hph (by omega)))
        have o9 : opf gB.1 at9.toNat = 13 := ((enO_i ⟨opf gB.1 at9.toNat, op9⟩).2.2.2.2.2.2.2.2.2.2.2.2.2.2.1).mp (show enO (opf gB.1 at9.toNat) = 14 from c48.symm.trans (by omega))
        have p84 : psz (opf gB.1) (at9.toNat + 1) = psz (opf gB.1) at9.toNat + 2 := psz_2 (show opf gB.1 at9.toNat = 2 ∨ (10 ≤ opf gB.1 at9.toNat ∧ opf gB.1 at9.toNat ≤ 14) from by omega)
        have pw9 : psz (opf gB.1) (at9.toNat + 1) ≤ wl gB.1 := psz_le hi9
        have c42 : (V 42 b).toInt = ((wl gB.1 : Nat) : Int) := bc.1.1
        have ka9 : Int32.toNatClampNeg (V 84 gf) = psz (opf gB.1) at9.toNat + 1 := by have h9 := i_clamp (x := V 84 gf) rfl (by omega); omega
        have wa9 : (V 48 (8200 * b + (Int32.toNatClampNeg (V 84 gf)))).toInt = enA gB.1 at9.toNat := by rw [ka9]; exact cd9.2.1 (by unfold szO; rw [if_pos (show opf gB.1 at9.toNat = 2 ∨ (10 ≤ opf gB.1 at9.toNat ∧ opf gB.1 at9.toNat ≤ 14) from by omega)])
        unfold enA at wa9
        have o8 : nL gB.1 (2000 + 3 * at9.toNat) = 13 := o9
        rw [if_neg (by omega), if_pos (by omega)] at wa9
        have wr736 : (V715 3 13).toInt = (V 3 13).toInt := congrArg Int32.toInt ((up2_o hV715 (by decide)).trans (up2_o hV376 (by decide)))
        have wr737 : (V715 3 12).toInt = (V 3 12).toInt := congrArg Int32.toInt ((up2_o hV715 (by decide)).trans (up2_o hV376 (by decide)))
        have wr738 : (V715 67 gf).toInt = ((V 67 gf)).toInt := (congrArg Int32.toInt ((up2_o hV715 (by decide)).trans (up2_o hV376 (by decide))))
        have wr739 : (V715 68 gf).toInt = ((V 68 gf)).toInt := (congrArg Int32.toInt ((up2_o hV715 (by decide)).trans (up2_o hV376 (by decide))))
        have wr740 : (V715 69 gf).toInt = ((V 69 gf)).toInt := (congrArg Int32.toInt ((up2_o hV715 (by decide)).trans (up2_o hV376 (by decide))))
        have wr741 : (V715 70 gf).toInt = ((V 70 gf)).toInt := (congrArg Int32.toInt ((up2_o hV715 (by decide)).trans (up2_o hV376 (by decide))))
        have wr742 : (V715 71 gf).toInt = ((V 71 gf)).toInt := (congrArg Int32.toInt ((up2_o hV715 (by decide)).trans (up2_o hV376 (by decide))))
        have wr743 : (V715 72 gf).toInt = ((V 72 gf)).toInt := (congrArg Int32.toInt ((up2_o hV715 (by decide)).trans (up2_o hV376 (by decide))))
        have wr744 : (V715 73 gf).toInt = ((V 73 gf)).toInt := (congrArg Int32.toInt ((up2_o hV715 (by decide)).trans (up2_o hV376 (by decide))))
        have wr745 : (V715 75 gf).toInt = ((V 75 gf)).toInt := (congrArg Int32.toInt ((up2_o hV715 (by decide)).trans (up2_o hV376 (by decide))))
        have wr746 : (V715 84 gf).toInt = ((V 48 (8200 * b + (Int32.toNatClampNeg (V 84 gf))))).toInt := (congrArg Int32.toInt (up2_s hV715))
        have me747 : ME V V715 gf := (ME.up (ME.up ME.rf hV376 (Or.inl ⟨by decide, by decide, Nat.le_refl _⟩)) hV715 (Or.inl ⟨by decide, by decide, Nat.le_refl _⟩))
        have rl748 : RWl V715 gB gr t0 := RWl.mv hlr (fun i9 hi9 c9 h1 h2 => me747.2.1 c9 i9 h1 h2 (by omega)) (fun j9 hj9 => ((up2_o hV715 (by decide)).trans (up2_o hV376 (by decide)))) (by rw [((up2_o hV715 (by decide)).trans (up2_o hV376 (by decide)))]; exact Int.le_refl _) ((up2_o hV715 (by decide)).trans (up2_o hV376 (by decide)))
        have pq749 : (V715 5 7).toInt = ((V 5 7)).toInt := congrArg Int32.toInt ((up2_o hV715 (by decide)).trans (up2_o hV376 (by decide)))
        have r750 : 0 ≤ ((V 5 7)).toInt ∧ ((V 5 7)).toInt ≤ 2048 := hMV 5 7
        have fo8 : FRc V715 gB gr.length (Fwork lv o c sc me ps ((nL gB.1 (2001 + 3 * at9.toNat) : Nat) : Int) v p) := by rw [gl9]; exact ⟨⟨by omega, by omega⟩, ⟨by omega, ⟨by omega, by omega, by omega⟩, ⟨by omega, by omega, by omega⟩, ⟨by omega, by omega, by omega⟩⟩, (fun h9 => by have h8 := hps9 h9; exact ⟨by omega, by omega, by omega, by omega⟩), ⟨Int.natCast_nonneg _, by show _ = ((psz (opf gB.1) (nL gB.1 (2001 + 3 * at9.toNat)) : Nat) : Int); omega⟩, (((up2_o hV715 (by decide)).trans (up2_o hV376 (by decide))).trans q74)⟩
        have esu : ESw U0 V := ESw.sy (ESw.ag (show agr [] [84] V U0 from agr.up agr.rf hU0 rfl) (by decide))
        have rlu : RWl V715 gB (Fwork lv o c sc me ps ((nL gB.1 (2001 + 3 * at9.toNat) : Nat) : Int) v p :: gr) (tw9) := ⟨t0, (show tw9 = t0 + (Fwork lv o c sc me ps ((nL gB.1 (2001 + 3 * at9.toNat) : Nat) : Int) v p : Fr).2.2.2.length from by exact tl7), fo8, fun _ _ => (by rw [gl9, ((up2_o hV715 (by decide)).trans (up2_o hV376 (by decide)))]; exact hb8), plC.mv hp8 (fun j9 hj9 => ((up2_o hV715 (by decide)).trans (up2_o hV376 (by decide)))), rl748⟩
        have rz9 : RW V715 gB (gm, ga, Fwork lv o c sc me ps ((nL gB.1 (2001 + 3 * at9.toNat) : Nat) : Int) v p :: gr) := RW.id rwu (ESw.tr esu (ESw.ag (show agr [] [84] V V715 from (agr.up (agr.up agr.rf hV376 rfl) hV715 rfl)) (by decide))) ((((up2_o hV715 (by decide)).trans (up2_o hV376 (by decide)))).trans (up2_o hU0 (by decide)).symm) ((((up2_o hV715 (by decide)).trans (up2_o hV376 (by decide)))).trans (up2_o hU0 (by decide)).symm) ((((up2_o hV715 (by decide)).trans (up2_o hV376 (by decide)))).trans (up2_o hU0 (by decide)).symm) ((((up2_o hV715 (by decide)).trans (up2_o hV376 (by decide)))).trans (up2_o hU0 (by decide)).symm) (show (V715 5 6).toInt = ((gr.length + 1 : Nat) : Int) from by omega) (show (V715 5 7).toInt = ((tw9 : Nat) : Int) from by omega) rlu
        have rx751 : ∃ f2, stM gB (gm, ga, gfr :: gr) = (gm, ga, f2 :: gr) ∧ RW V715 gB (gm, ga, f2 :: gr) := ⟨_, (by rw [hfe, st_12.trans (or_13 o9)]), rz9⟩
        exact W.zret (v := 1) hx hb hr rfl (fun t ht hW => ⟨⟨1, (V715, L), rfl, ⟨hMV715, agV715, rfl, (by decide), (Imp.mk (fun _ => mo733)), (Imp.mk (fun hp => absurd hp (by decide))), (Imp.mk (fun _ => (show (V715 5 6).toInt = (V 5 6).toInt ∧ (V715 67 gf).toInt = 4 ∧ (V715 68 gf).toInt = 0 from by first | omega | ((try (have i_op8 := Imp.go op8 (by omega))); (try (have i_sf := Imp.go sf (by omega))); (try (have i_bc := Imp.go bc (by omega))); (try (have i_rwq := Imp.go rwq (by omega))); (try (have i_hop := Imp.go hop (by omega))); (try (have i_moa := Imp.go moa (by omega))); (try (have i_moa := Imp.go moa (by omega))); (try (have i_hop := Imp.go hop (by omega))); (try (have i_rwq := Imp.go rwq (by omega))); (try (have i_bc := Imp.go bc (by omega))); (try (have i_sf := Imp.go sf (by omega))); (try (have i_op8 := Imp.go op8 (by omega))); omega)))), (Or.inl ⟨rfl, _, rx751⟩)⟩, by rw [ht]; exact hP, va_K.moved hW.alike hK, hD⟩, hS.F ht⟩) hS.2.2 dX5_worksWith_104
      have gq714 : p1.toInt ≠ 14 := b_neq rfl (by decide) q714
      refine lv_tableOut (x := p1) (tgt := 139) hx hb dX5_worksWith_42 (by omega) (by decide) ?_
      have hwo := hop1.1.2.1 (by omega)
      refine lv_aload_n hx hb dX5_worksWith_139 rfl (lv_at hl 2 rfl) ?_
      refine lv_iload_n hx hb dX5_worksWith_140 rfl (lv_at hl 0 rfl) ?_
      refine lv_bipush (v := 20) hx hb dX5_worksWith_141 (by decide) ?_
      refine lv_idiv hx hb dX5_worksWith_143 (by decide) ?_
      refine lv_topi (fun z752 ez752 => ?_)
      have hz752 : z752.toInt = ((V 48 (8200 * b + (Int32.toNatClampNeg (V 84 gf))))).toInt / 20 := idiv_l ez752 (by decide) (by first | omega | ((try (have i_op8 := Imp.go op8 (by omega))); (try (have i_sf := Imp.go sf (by omega))); (try (have i_bc := Imp.go bc (by omega))); (try (have i_rwq := Imp.go rwq (by omega))); (try (have i_hop := Imp.go hop (by omega))); (try (have i_moa := Imp.go moa (by omega))); (try (have i_moa := Imp.go moa (by omega))); (try (have i_hop := Imp.go hop (by omega))); (try (have i_rwq := Imp.go rwq (by omega))); (try (have i_bc := Imp.go bc (by omega))); (try (have i_sf := Imp.go sf (by omega))); (try (have i_op8 := Imp.go op8 (by omega))); omega)) (by decide)
      refine va_putN (D := D) (ci := 4) (v := .int z752) (ty := tyX4 8) (fs := (xfFrame V376 gf)) (C := RX4) (T := TX4) (N := 19) hx hb hg inX4 tyX4 tyX4_ok nmX4 hown hK hP hD hS (336 + gf) (xgFrame hgf) rfl 8 (by decide) (hnw.use 1197 n1197 rfl) (fun _ h9 => h9) rfl (tyX4_ok 8 (by decide)) rfl rfl (Nat.le_of_ble_eq_true rfl) dX5_worksWith_144 (fun H locs hP hD hS => ?_)
      obtain ⟨V753, hV753⟩ : ∃ z, z = up2 V376 75 gf z752 := ⟨_, rfl⟩
      have ew754 : (xw ad kk V376 L Z).set (336 + gf) ((Z.fa gf), .inr (4, (xfFrame V376 gf).set 8 (.int z752))) = xw ad kk V753 L Z := by rw [hV753]; exact xpFrame_position hgf
      have hP : va_P D vwCl (xw ad kk V753 L Z) H := by rw [← ew754]; exact hP
      have hD : va_D A (xw ad kk V753 L Z) := by rw [← ew754]; exact hD
      have hMV753 : rgd bX V753 := hMV376.put hV753 (show 0 ≤ z752.toInt ∧ z752.toInt ≤ 12 from by first | omega | ((try (have i_op8 := Imp.go op8 (by omega))); (try (have i_sf := Imp.go sf (by omega))); (try (have i_bc := Imp.go bc (by omega))); (try (have i_rwq := Imp.go rwq (by omega))); (try (have i_hop := Imp.go hop (by omega))); (try (have i_moa := Imp.go moa (by omega))); (try (have i_moa := Imp.go moa (by omega))); (try (have i_hop := Imp.go hop (by omega))); (try (have i_rwq := Imp.go rwq (by omega))); (try (have i_bc := Imp.go bc (by omega))); (try (have i_sf := Imp.go sf (by omega))); (try (have i_op8 := Imp.go op8 (by omega))); omega))
      have agV753 : agr [(5, 6), (5, 7), (5, 9), (5, 11), (5, 12)] [39, 68, 75, 77, 78, 84] V V753 := agV376.up hV753 rfl
      refine lv_aload_n hx hb dX5_worksWith_147 rfl (lv_at hl 2 rfl) ?_
      refine lv_iload_n hx hb dX5_worksWith_148 rfl (lv_at hl 0 rfl) ?_
      refine lv_bipush (v := 20) hx hb dX5_worksWith_149 (by decide) ?_
      refine lv_irem hx hb dX5_worksWith_151 (by decide) ?_
      refine lv_topi (fun z755 ez755 => ?_)
      have hz755 : 0 ≤ z755.toInt ∧ z755.toInt < 20 := irem_l ez755 (by decide) (by first | omega | ((try (have i_op8 := Imp.go op8 (by omega))); (try (have i_sf := Imp.go sf (by omega))); (try (have i_bc := Imp.go bc (by omega))); (try (have i_rwq := Imp.go rwq (by omega))); (try (have i_hop := Imp.go hop (by omega))); (try (have i_moa := Imp.go moa (by omega))); (try (have i_moa := Imp.go moa (by omega))); (try (have i_hop := Imp.go hop (by omega))); (try (have i_rwq := Imp.go rwq (by omega))); (try (have i_bc := Imp.go bc (by omega))); (try (have i_sf := Imp.go sf (by omega))); (try (have i_op8 := Imp.go op8 (by omega))); omega)) (by decide)
      refine va_putN (D := D) (ci := 4) (v := .int z755) (ty := tyX4 10) (fs := (xfFrame V753 gf)) (C := RX4) (T := TX4) (N := 19) hx hb hg inX4 tyX4 tyX4_ok nmX4 hown hK hP hD hS (336 + gf) (xgFrame hgf) rfl 10 (by decide) (hnw.use 1199 n1199 rfl) (fun _ h9 => h9) rfl (tyX4_ok 10 (by decide)) rfl rfl (Nat.le_of_ble_eq_true rfl) dX5_worksWith_152 (fun H locs hP hD hS => ?_)
      obtain ⟨V756, hV756⟩ : ∃ z, z = up2 V753 77 gf z755 := ⟨_, rfl⟩
      have ew757 : (xw ad kk V753 L Z).set (336 + gf) ((Z.fa gf), .inr (4, (xfFrame V753 gf).set 10 (.int z755))) = xw ad kk V756 L Z := by rw [hV756]; exact xpFrame_target hgf
      have hP : va_P D vwCl (xw ad kk V756 L Z) H := by rw [← ew757]; exact hP
      have hD : va_D A (xw ad kk V756 L Z) := by rw [← ew757]; exact hD
      have hMV756 : rgd bX V756 := hMV753.put hV756 (show 0 ≤ z755.toInt ∧ z755.toInt ≤ 19 from by first | omega | ((try (have i_op8 := Imp.go op8 (by omega))); (try (have i_sf := Imp.go sf (by omega))); (try (have i_bc := Imp.go bc (by omega))); (try (have i_rwq := Imp.go rwq (by omega))); (try (have i_hop := Imp.go hop (by omega))); (try (have i_moa := Imp.go moa (by omega))); (try (have i_moa := Imp.go moa (by omega))); (try (have i_hop := Imp.go hop (by omega))); (try (have i_rwq := Imp.go rwq (by omega))); (try (have i_bc := Imp.go bc (by omega))); (try (have i_sf := Imp.go sf (by omega))); (try (have i_op8 := Imp.go op8 (by omega))); omega))
      have agV756 : agr [(5, 6), (5, 7), (5, 9), (5, 11), (5, 12)] [39, 68, 75, 77, 78, 84] V V756 := agV753.up hV756 rfl
      refine lv_aload_n hx hb dX5_worksWith_155 rfl (lv_at hl 2 rfl) ?_
      refine lv_aload_n hx hb dX5_worksWith_156 rfl (lv_at hl 1 rfl) ?_
      refine gA_int (gA_runV (As := []) (rest := [.ref (Z.fa gf)]) (ci := 5) (q0 := 5) hx hb hml hown hg hP hD hK hS hA hnw hgk (x_pull9 l D ks H.size ad kk V756 L Z  hMV756 ) w1482 w1484 w76 w171 w1485 rfl xgMachine hdV_yX5_pull ⟨Nat.le_of_ble_eq_true rfl, Nat.le_of_ble_eq_true rfl⟩ rfl hl.1 rfl (Nat.le_of_ble_eq_true rfl) dX5_worksWith_157 ⟨Nat.le_of_ble_eq_true rfl, Nat.le_of_ble_eq_true rfl⟩) hP hD hK hS hA (fun z758 u759 H locs w760 hP hD hK hS => ?_)
      obtain ⟨V762, L763⟩ := u759
      obtain ⟨hMV762, ajV762, axL763, t761⟩ := w760
      have axL763 : L = L763 := Eq.symm axL763
      subst axL763
      replace hP : va_P D vwCl (xw ad kk V762 L Z) H := hP
      replace hD : va_D A (xw ad kk V762 L Z) := hD
      replace hMV762 : rgd bX V762 := hMV762
      replace ajV762 : agr [(5, 7)] [] V756 V762 := ajV762
      have agV762 : agr [(5, 6), (5, 7), (5, 9), (5, 11), (5, 12)] [39, 68, 75, 77, 78, 84] V V762 := agV756.tr ajV762 (by decide) (by decide)
      replace t761 : ((0 < (V756 5 7).toInt ∧ z758 = V756 39 (Int32.toNatClampNeg (V756 5 7 - 1))) ∧ V762 = (up2 V756 5 7 (V756 5 7 - 1))) ∨ (((V756 5 7).toInt ≤ 0 ∧ z758 = 0) ∧ V762 = V756) := t761
      rcases t761 with ⟨hc764, hw765⟩ | ⟨hc766, hw767⟩
      · skip
        have pq769 : (V756 5 7).toInt = ((V 5 7)).toInt := congrArg Int32.toInt ((up2_o hV756 (by decide)).trans ((up2_o hV753 (by decide)).trans (up2_o hV376 (by decide))))
        have r770 : 0 ≤ ((V 5 7)).toInt ∧ ((V 5 7)).toInt ≤ 2048 := hMV 5 7
        obtain ⟨z768, ez768⟩ : ∃ y : Int32, y = V756 5 7 - 1 := ⟨_, rfl⟩
        have hz768 : z768.toInt = (V756 5 7).toInt - 1 := i_sub ez768 rfl (by decide) (by first | omega | ((try (have i_op8 := Imp.go op8 (by omega))); (try (have i_sf := Imp.go sf (by omega))); (try (have i_bc := Imp.go bc (by omega))); (try (have i_rwq := Imp.go rwq (by omega))); (try (have i_hop := Imp.go hop (by omega))); (try (have i_moa := Imp.go moa (by omega))); (try (have i_moa := Imp.go moa (by omega))); (try (have i_hop := Imp.go hop (by omega))); (try (have i_rwq := Imp.go rwq (by omega))); (try (have i_bc := Imp.go bc (by omega))); (try (have i_sf := Imp.go sf (by omega))); (try (have i_op8 := Imp.go op8 (by omega))); omega))
        have hV762 : V762 = up2 V756 5 7 z768 := by rw [hw765, ez768]
        refine va_putN (D := D) (ci := 4) (v := .int z758) (ty := tyX4 11) (fs := (xfFrame V762 gf)) (C := RX4) (T := TX4) (N := 19) hx hb hg inX4 tyX4 tyX4_ok nmX4 hown hK hP hD hS (336 + gf) (xgFrame hgf) rfl 11 (by decide) (hnw.use 1200 n1200 rfl) (fun _ h9 => h9) rfl (tyX4_ok 11 (by decide)) rfl rfl (Nat.le_of_ble_eq_true rfl) dX5_worksWith_160 (fun H locs hP hD hS => ?_)
        obtain ⟨V771, hV771⟩ : ∃ z, z = up2 V762 78 gf z758 := ⟨_, rfl⟩
        have ew772 : (xw ad kk V762 L Z).set (336 + gf) ((Z.fa gf), .inr (4, (xfFrame V762 gf).set 11 (.int z758))) = xw ad kk V771 L Z := by rw [hV771]; exact xpFrame_given hgf
        have hP : va_P D vwCl (xw ad kk V771 L Z) H := by rw [← ew772]; exact hP
        have hD : va_D A (xw ad kk V771 L Z) := by rw [← ew772]; exact hD
        have hMV771 : rgd bX V771 := hMV762.put hV771 (i_full _)
        have agV771 : agr [(5, 6), (5, 7), (5, 9), (5, 11), (5, 12)] [39, 68, 75, 77, 78, 84] V V771 := agV762.up hV771 rfl
        refine lv_aload_n hx hb dX5_worksWith_163 rfl (lv_at hl 2 rfl) ?_
        refine lv_bipush (v := 6) hx hb dX5_worksWith_164 (by decide) ?_
        refine va_putN (D := D) (ci := 4) (v := .int 6) (ty := tyX4 1) (fs := (xfFrame V771 gf)) (C := RX4) (T := TX4) (N := 19) hx hb hg inX4 tyX4 tyX4_ok nmX4 hown hK hP hD hS (336 + gf) (xgFrame hgf) rfl 1 (by decide) (hnw.use 1190 n1190 rfl) (fun _ h9 => h9) rfl (tyX4_ok 1 (by decide)) rfl rfl (Nat.le_of_ble_eq_true rfl) dX5_worksWith_166 (fun H locs hP hD hS => ?_)
        obtain ⟨V773, hV773⟩ : ∃ z, z = up2 V771 68 gf 6 := ⟨_, rfl⟩
        have ew774 : (xw ad kk V771 L Z).set (336 + gf) ((Z.fa gf), .inr (4, (xfFrame V771 gf).set 1 (.int 6))) = xw ad kk V773 L Z := by rw [hV773]; exact xpFrame_phase hgf
        have hP : va_P D vwCl (xw ad kk V773 L Z) H := by rw [← ew774]; exact hP
        have hD : va_D A (xw ad kk V773 L Z) := by rw [← ew774]; exact hD
        have hMV773 : rgd bX V773 := hMV771.put hV773 (i_full _)
        have agV773 : agr [(5, 6), (5, 7), (5, 9), (5, 11), (5, 12)] [39, 68, 75, 77, 78, 84] V V773 := agV771.up hV773 rfl
        refine lv_iconst (v := 0) hx hb dX5_worksWith_169 (by decide) ?_
        have pq775 : (V773 5 6).toInt = ((V 5 6)).toInt := congrArg Int32.toInt ((up2_o hV773 (by decide)).trans ((up2_o hV771 (by decide)).trans ((up2_k hV762 (by decide)).trans ((up2_o hV756 (by decide)).trans ((up2_o hV753 (by decide)).trans (up2_o hV376 (by decide)))))))
        have pq776 : (V773 67 gf).toInt = ((V 67 gf)).toInt := congrArg Int32.toInt ((up2_o hV773 (by decide)).trans ((up2_o hV771 (by decide)).trans ((up2_o hV762 (by decide)).trans ((up2_o hV756 (by decide)).trans ((up2_o hV753 (by decide)).trans (up2_o hV376 (by decide)))))))
        have pq777 : (V773 68 gf).toInt = 6 := (congrArg Int32.toInt (up2_s hV773)).trans (by decide)
        have me778 : ME Va V773 gf := (ME.up (ME.up (ME.up (ME.up (ME.up (ME.up mV hV376 (Or.inl ⟨by decide, by decide, Nat.le_refl _⟩)) hV753 (Or.inl ⟨by decide, by decide, Nat.le_refl _⟩)) hV756 (Or.inl ⟨by decide, by decide, Nat.le_refl _⟩)) hV762 (Or.inr (by omega))) hV771 (Or.inl ⟨by decide, by decide, Nat.le_refl _⟩)) hV773 (Or.inl ⟨by decide, by decide, Nat.le_refl _⟩))
        have pq779 : (V773 70 gf).toInt = ((V 70 gf)).toInt := congrArg Int32.toInt ((up2_o hV773 (by decide)).trans ((up2_o hV771 (by decide)).trans ((up2_o hV762 (by decide)).trans ((up2_o hV756 (by decide)).trans ((up2_o hV753 (by decide)).trans (up2_o hV376 (by decide)))))))
        have pq780 : (V773 71 gf).toInt = ((V 71 gf)).toInt := congrArg Int32.toInt ((up2_o hV773 (by decide)).trans ((up2_o hV771 (by decide)).trans ((up2_o hV762 (by decide)).trans ((up2_o hV756 (by decide)).trans ((up2_o hV753 (by decide)).trans (up2_o hV376 (by decide)))))))
        have pq781 : (V773 75 gf).toInt = z752.toInt := congrArg Int32.toInt ((up2_o hV773 (by decide)).trans ((up2_o hV771 (by decide)).trans ((up2_o hV762 (by decide)).trans ((up2_o hV756 (by decide)).trans (up2_s hV753)))))
        have pq782 : (V773 76 gf).toInt = ((V 76 gf)).toInt := congrArg Int32.toInt ((up2_o hV773 (by decide)).trans ((up2_o hV771 (by decide)).trans ((up2_o hV762 (by decide)).trans ((up2_o hV756 (by decide)).trans ((up2_o hV753 (by decide)).trans (up2_o hV376 (by decide)))))))
        have pq783 : (V773 80 gf).toInt = ((V 80 gf)).toInt := congrArg Int32.toInt ((up2_o hV773 (by decide)).trans ((up2_o hV771 (by decide)).trans ((up2_o hV762 (by decide)).trans ((up2_o hV756 (by decide)).trans ((up2_o hV753 (by decide)).trans (up2_o hV376 (by decide)))))))
        have pq784 : (V773 84 gf).toInt = z375.toInt := congrArg Int32.toInt ((up2_o hV773 (by decide)).trans ((up2_o hV771 (by decide)).trans ((up2_o hV762 (by decide)).trans ((up2_o hV756 (by decide)).trans ((up2_o hV753 (by decide)).trans (up2_s hV376))))))
        have pq785 : (V773 5 8).toInt = ((V 5 8)).toInt := congrArg Int32.toInt ((up2_o hV773 (by decide)).trans ((up2_o hV771 (by decide)).trans ((up2_k hV762 (by decide)).trans ((up2_o hV756 (by decide)).trans ((up2_o hV753 (by decide)).trans (up2_o hV376 (by decide)))))))
        have pq786 : (V773 5 9).toInt = ((V 5 9)).toInt := congrArg Int32.toInt ((up2_o hV773 (by decide)).trans ((up2_o hV771 (by decide)).trans ((up2_k hV762 (by decide)).trans ((up2_o hV756 (by decide)).trans ((up2_o hV753 (by decide)).trans (up2_o hV376 (by decide)))))))
        have pq787 : (V773 3 13).toInt = ((V 3 13)).toInt := congrArg Int32.toInt ((up2_o hV773 (by decide)).trans ((up2_o hV771 (by decide)).trans ((up2_o hV762 (by decide)).trans ((up2_o hV756 (by decide)).trans ((up2_o hV753 (by decide)).trans (up2_o hV376 (by decide)))))))
        have pq788 : (V773 43 (5 * b + 2)).toInt = ((V 43 (5 * b + 2))).toInt := congrArg Int32.toInt ((up2_o hV773 (by decide)).trans ((up2_o hV771 (by decide)).trans ((up2_o hV762 (by decide)).trans ((up2_o hV756 (by decide)).trans ((up2_o hV753 (by decide)).trans (up2_o hV376 (by decide)))))))
        have pq789 : (V773 42 b).toInt = ((V 42 b)).toInt := congrArg Int32.toInt ((up2_o hV773 (by decide)).trans ((up2_o hV771 (by decide)).trans ((up2_o hV762 (by decide)).trans ((up2_o hV756 (by decide)).trans ((up2_o hV753 (by decide)).trans (up2_o hV376 (by decide)))))))
        have pq790 : (V773 41 b).toInt = ((V 41 b)).toInt := congrArg Int32.toInt ((up2_o hV773 (by decide)).trans ((up2_o hV771 (by decide)).trans ((up2_o hV762 (by decide)).trans ((up2_o hV756 (by decide)).trans ((up2_o hV753 (by decide)).trans (up2_o hV376 (by decide)))))))
        have me793 : ME V V773 0 := (ME.up (ME.up (ME.up (ME.up (ME.up (ME.up ME.rf hV376 (Or.inl ⟨by decide, by decide, by first | omega | ((try (have i_op8 := Imp.go op8 (by omega))); (try (have i_sf := Imp.go sf (by omega))); (try (have i_bc := Imp.go bc (by omega))); (try (have i_rwq := Imp.go rwq (by omega))); (try (have i_hop := Imp.go hop (by omega))); (try (have i_moa := Imp.go moa (by omega))); (try (have i_moa := Imp.go moa (by omega))); (try (have i_hop := Imp.go hop (by omega))); (try (have i_rwq := Imp.go rwq (by omega))); (try (have i_bc := Imp.go bc (by omega))); (try (have i_sf := Imp.go sf (by omega))); (try (have i_op8 := Imp.go op8 (by omega))); omega)⟩)) hV753 (Or.inl ⟨by decide, by decide, by first | omega | ((try (have i_op8 := Imp.go op8 (by omega))); (try (have i_sf := Imp.go sf (by omega))); (try (have i_bc := Imp.go bc (by omega))); (try (have i_rwq := Imp.go rwq (by omega))); (try (have i_hop := Imp.go hop (by omega))); (try (have i_moa := Imp.go moa (by omega))); (try (have i_moa := Imp.go moa (by omega))); (try (have i_hop := Imp.go hop (by omega))); (try (have i_rwq := Imp.go rwq (by omega))); (try (have i_bc := Imp.go bc (by omega))); (try (have i_sf := Imp.go sf (by omega))); (try (have i_op8 := Imp.go op8 (by omega))); omega)⟩)) hV756 (Or.inl ⟨by decide, by decide, by first | omega | ((try (have i_op8 := Imp.go op8 (by omega))); (try (have i_sf := Imp.go sf (by omega))); (try (have i_bc := Imp.go bc (by omega))); (try (have i_rwq := Imp.go rwq (by omega))); (try (have i_hop := Imp.go hop (by omega))); (try (have i_moa := Imp.go moa (by omega))); (try (have i_moa := Imp.go moa (by omega))); (try (have i_hop := Imp.go hop (by omega))); (try (have i_rwq := Imp.go rwq (by omega))); (try (have i_bc := Imp.go bc (by omega))); (try (have i_sf := Imp.go sf (by omega))); (try (have i_op8 := Imp.go op8 (by omega))); omega)⟩)) hV762 (Or.inr (by omega))) hV771 (Or.inl ⟨by decide, by decide, by first | omega | ((try (have i_op8 := Imp.go op8 (by omega))); (try (have i_sf := Imp.go sf (by omega))); (try (have i_bc := Imp.go bc (by omega))); (try (have i_rwq := Imp.go rwq (by omega))); (try (have i_hop := Imp.go hop (by omega))); (try (have i_moa := Imp.go moa (by omega))); (try (have i_moa := Imp.go moa (by omega))); (try (have i_hop := Imp.go hop (by omega))); (try (have i_rwq := Imp.go rwq (by omega))); (try (have i_bc := Imp.go bc (by omega))); (try (have i_sf := Imp.go sf (by omega))); (try (have i_op8 := Imp.go op8 (by omega))); omega)⟩)) hV773 (Or.inl ⟨by decide, by decide, by first | omega | ((try (have i_op8 := Imp.go op8 (by omega))); (try (have i_sf := Imp.go sf (by omega))); (try (have i_bc := Imp.go bc (by omega))); (try (have i_rwq := Imp.go rwq (by omega))); (try (have i_hop := Imp.go hop (by omega))); (try (have i_moa := Imp.go moa (by omega))); (try (have i_moa := Imp.go moa (by omega))); (try (have i_hop := Imp.go hop (by omega))); (try (have i_rwq := Imp.go rwq (by omega))); (try (have i_bc := Imp.go bc (by omega))); (try (have i_sf := Imp.go sf (by omega))); (try (have i_op8 := Imp.go op8 (by omega))); omega)⟩))
        have ep794 : V773 84 gf = z375 := ((up2_o hV773 (by decide)).trans ((up2_o hV771 (by decide)).trans ((up2_o hV762 (by decide)).trans ((up2_o hV756 (by decide)).trans ((up2_o hV753 (by decide)).trans (up2_s hV376))))))
        have af792 : (V773 42 b).toInt ≤ (V773 84 gf).toInt ∨ (bdp V773 b (V773 84 gf).toInt.toNat).1 = true := by rw [ep794, me793.1.bd, me793.1 42 b (by decide) (by decide)]; exact atn
        have mo791 : MO V773 Z b gf True (QN V773 b) (QN V773 b) := MO.ch mo me778 ((up2_o hV773 (by decide)).trans ((up2_o hV771 (by decide)).trans ((up2_o hV762 (by decide)).trans ((up2_o hV756 (by decide)).trans ((up2_o hV753 (by decide)).trans ((up2_o hV376 (by decide)).trans ea67.symm)))))) ((up2_o hV773 (by decide)).trans ((up2_o hV771 (by decide)).trans ((up2_o hV762 (by decide)).trans ((up2_o hV756 (by decide)).trans ((up2_o hV753 (by decide)).trans ((up2_o hV376 (by decide)).trans ea80.symm)))))) (fun _ => Or.inl (by omega)) (fun x h => FK.k4 (by first | omega | ((try (have i_op8 := Imp.go op8 (by omega))); (try (have i_sf := Imp.go sf (by omega))); (try (have i_bc := Imp.go bc (by omega))); (try (have i_rwq := Imp.go rwq (by omega))); (try (have i_hop := Imp.go hop (by omega))); (try (have i_moa := Imp.go moa (by omega))); (try (have i_moa := Imp.go moa (by omega))); (try (have i_hop := Imp.go hop (by omega))); (try (have i_rwq := Imp.go rwq (by omega))); (try (have i_bc := Imp.go bc (by omega))); (try (have i_sf := Imp.go sf (by omega))); (try (have i_op8 := Imp.go op8 (by omega))); omega)) (by first | omega | ((try (have i_op8 := Imp.go op8 (by omega))); (try (have i_sf := Imp.go sf (by omega))); (try (have i_bc := Imp.go bc (by omega))); (try (have i_rwq := Imp.go rwq (by omega))); (try (have i_hop := Imp.go hop (by omega))); (try (have i_moa := Imp.go moa (by omega))); (try (have i_moa := Imp.go moa (by omega))); (try (have i_hop := Imp.go hop (by omega))); (try (have i_rwq := Imp.go rwq (by omega))); (try (have i_bc := Imp.go bc (by omega))); (try (have i_sf := Imp.go sf (by omega))); (try (have i_op8 := Imp.go op8 (by omega))); omega)) (by first | omega | ((try (have i_op8 := Imp.go op8 (by omega))); (try (have i_sf := Imp.go sf (by omega))); (try (have i_bc := Imp.go bc (by omega))); (try (have i_rwq := Imp.go rwq (by omega))); (try (have i_hop := Imp.go hop (by omega))); (try (have i_moa := Imp.go moa (by omega))); (try (have i_moa := Imp.go moa (by omega))); (try (have i_hop := Imp.go hop (by omega))); (try (have i_rwq := Imp.go rwq (by omega))); (try (have i_bc := Imp.go bc (by omega))); (try (have i_sf := Imp.go sf (by omega))); (try (have i_op8 := Imp.go op8 (by omega))); omega)) af792 (by first | omega | ((try (have i_op8 := Imp.go op8 (by omega))); (try (have i_sf := Imp.go sf (by omega))); (try (have i_bc := Imp.go bc (by omega))); (try (have i_rwq := Imp.go rwq (by omega))); (try (have i_hop := Imp.go hop (by omega))); (try (have i_moa := Imp.go moa (by omega))); (try (have i_moa := Imp.go moa (by omega))); (try (have i_hop := Imp.go hop (by omega))); (try (have i_rwq := Imp.go rwq (by omega))); (try (have i_bc := Imp.go bc (by omega))); (try (have i_sf := Imp.go sf (by omega))); (try (have i_op8 := Imp.go op8 (by omega))); omega)) (fun hph => absurd hph (by omega)))
        have rp795 : MJ V773 Z b := MO.mj mo791 (by omega) (by omega) id id Or.inr
        have o9 : opf gB.1 at9.toNat = 14 := ((enO_i ⟨opf gB.1 at9.toNat, op9⟩).2.2.2.2.2.2.2.2.2.2.2.2.2.2.2).mp (show enO (opf gB.1 at9.toNat) = 15 from c48.symm.trans (by omega))
        have p84 : psz (opf gB.1) (at9.toNat + 1) = psz (opf gB.1) at9.toNat + 2 := psz_2 (show opf gB.1 at9.toNat = 2 ∨ (10 ≤ opf gB.1 at9.toNat ∧ opf gB.1 at9.toNat ≤ 14) from by omega)
        have pw9 : psz (opf gB.1) (at9.toNat + 1) ≤ wl gB.1 := psz_le hi9
        have c42 : (V 42 b).toInt = ((wl gB.1 : Nat) : Int) := bc.1.1
        have ka9 : Int32.toNatClampNeg (V 84 gf) = psz (opf gB.1) at9.toNat + 1 := by have h9 := i_clamp (x := V 84 gf) rfl (by omega); omega
        have wa9 : (V 48 (8200 * b + (Int32.toNatClampNeg (V 84 gf)))).toInt = enA gB.1 at9.toNat := by rw [ka9]; exact cd9.2.1 (by unfold szO; rw [if_pos (show opf gB.1 at9.toNat = 2 ∨ (10 ≤ opf gB.1 at9.toNat ∧ opf gB.1 at9.toNat ≤ 14) from by omega)])
        unfold enA at wa9
        have o8 : nL gB.1 (2000 + 3 * at9.toNat) = 14 := o9
        rw [if_neg (by omega), if_neg (by omega), if_pos o8] at wa9
        have pl9 : 1 ≤ p.length := (by obtain ⟨_, t8, h8, _⟩ := OQ.i14 oq9 o9; omega)
        obtain ⟨x9, p9, hpe⟩ : ∃ x9 p9, p = x9 :: p9 := by cases p with | nil => exact absurd pl9 (by decide) | cons x y => exact ⟨x, y, rfl⟩
        obtain ⟨t2, ht2, hx2, hp2⟩ : plC V tw9 (x9 :: p9) := by rw [← hpe]; exact hp8
        have lp9 : p.length = p9.length + 1 := by rw [hpe]; rfl
        have cz9 : Int32.toNatClampNeg (V756 5 7 - 1) = t2 := by have h9 : (V756 5 7 - 1).toInt = (V756 5 7).toInt - 1 := i_sub rfl rfl (by decide) (by omega); have h8 := i_clamp (x := V756 5 7 - 1) rfl (by omega); omega
        have zx9 : z758 = x9 := by rw [hc764.2, cz9, ((up2_o hV756 (by decide)).trans ((up2_o hV753 (by decide)).trans (up2_o hV376 (by decide))))]; exact hx2
        have n19 := OQ.i14b oq9 o9
        have n18 := (OQ.i14 oq9 o9).1
        have rm9 := irem_e (n := 20) ez755 (by decide) (by omega) (by decide)
        have wr796 : (V773 3 13).toInt = (V 3 13).toInt := congrArg Int32.toInt ((up2_o hV773 (by decide)).trans ((up2_o hV771 (by decide)).trans ((up2_o hV762 (by decide)).trans ((up2_o hV756 (by decide)).trans ((up2_o hV753 (by decide)).trans (up2_o hV376 (by decide)))))))
        have wr797 : (V773 3 12).toInt = (V 3 12).toInt := congrArg Int32.toInt ((up2_o hV773 (by decide)).trans ((up2_o hV771 (by decide)).trans ((up2_o hV762 (by decide)).trans ((up2_o hV756 (by decide)).trans ((up2_o hV753 (by decide)).trans (up2_o hV376 (by decide)))))))
        have wr798 : (V773 67 gf).toInt = ((V 67 gf)).toInt := (congrArg Int32.toInt ((up2_o hV773 (by decide)).trans ((up2_o hV771 (by decide)).trans ((up2_o hV762 (by decide)).trans ((up2_o hV756 (by decide)).trans ((up2_o hV753 (by decide)).trans (up2_o hV376 (by decide))))))))
        have wr799 : (V773 68 gf).toInt = 6 := (congrArg Int32.toInt (up2_s hV773)).trans (by decide)
        have wr800 : (V773 69 gf).toInt = ((V 69 gf)).toInt := (congrArg Int32.toInt ((up2_o hV773 (by decide)).trans ((up2_o hV771 (by decide)).trans ((up2_o hV762 (by decide)).trans ((up2_o hV756 (by decide)).trans ((up2_o hV753 (by decide)).trans (up2_o hV376 (by decide))))))))
        have wr801 : (V773 70 gf).toInt = ((V 70 gf)).toInt := (congrArg Int32.toInt ((up2_o hV773 (by decide)).trans ((up2_o hV771 (by decide)).trans ((up2_o hV762 (by decide)).trans ((up2_o hV756 (by decide)).trans ((up2_o hV753 (by decide)).trans (up2_o hV376 (by decide))))))))
        have wr802 : (V773 71 gf).toInt = ((V 71 gf)).toInt := (congrArg Int32.toInt ((up2_o hV773 (by decide)).trans ((up2_o hV771 (by decide)).trans ((up2_o hV762 (by decide)).trans ((up2_o hV756 (by decide)).trans ((up2_o hV753 (by decide)).trans (up2_o hV376 (by decide))))))))
        have wr803 : (V773 72 gf).toInt = ((V 72 gf)).toInt := (congrArg Int32.toInt ((up2_o hV773 (by decide)).trans ((up2_o hV771 (by decide)).trans ((up2_o hV762 (by decide)).trans ((up2_o hV756 (by decide)).trans ((up2_o hV753 (by decide)).trans (up2_o hV376 (by decide))))))))
        have wr804 : (V773 75 gf).toInt = z752.toInt := (congrArg Int32.toInt ((up2_o hV773 (by decide)).trans ((up2_o hV771 (by decide)).trans ((up2_o hV762 (by decide)).trans ((up2_o hV756 (by decide)).trans (up2_s hV753))))))
        have wr805 : (V773 77 gf).toInt = z755.toInt := (congrArg Int32.toInt ((up2_o hV773 (by decide)).trans ((up2_o hV771 (by decide)).trans ((up2_o hV762 (by decide)).trans (up2_s hV756)))))
        have wr806 : (V773 84 gf).toInt = z375.toInt := (congrArg Int32.toInt ((up2_o hV773 (by decide)).trans ((up2_o hV771 (by decide)).trans ((up2_o hV762 (by decide)).trans ((up2_o hV756 (by decide)).trans ((up2_o hV753 (by decide)).trans (up2_s hV376)))))))
        have me807 : ME V V773 gf := (ME.up (ME.up (ME.up (ME.up (ME.up (ME.up ME.rf hV376 (Or.inl ⟨by decide, by decide, Nat.le_refl _⟩)) hV753 (Or.inl ⟨by decide, by decide, Nat.le_refl _⟩)) hV756 (Or.inl ⟨by decide, by decide, Nat.le_refl _⟩)) hV762 (Or.inr (by omega))) hV771 (Or.inl ⟨by decide, by decide, Nat.le_refl _⟩)) hV773 (Or.inl ⟨by decide, by decide, Nat.le_refl _⟩))
        have rl808 : RWl V773 gB gr t0 := RWl.mv hlr (fun i9 hi9 c9 h1 h2 => me807.2.1 c9 i9 h1 h2 (by omega)) (fun j9 hj9 => ((up2_o hV773 (by decide)).trans ((up2_o hV771 (by decide)).trans ((up2_o hV762 (by decide)).trans ((up2_o hV756 (by decide)).trans ((up2_o hV753 (by decide)).trans (up2_o hV376 (by decide)))))))) (by rw [((up2_o hV773 (by decide)).trans ((up2_o hV771 (by decide)).trans ((up2_o hV762 (by decide)).trans ((up2_o hV756 (by decide)).trans ((up2_o hV753 (by decide)).trans (up2_o hV376 (by decide)))))))]; exact Int.le_refl _) ((up2_o hV773 (by decide)).trans ((up2_o hV771 (by decide)).trans ((up2_o hV762 (by decide)).trans ((up2_o hV756 (by decide)).trans ((up2_o hV753 (by decide)).trans (up2_o hV376 (by decide)))))))
        have pq809 : (V773 5 7).toInt = z768.toInt := congrArg Int32.toInt ((up2_o hV773 (by decide)).trans ((up2_o hV771 (by decide)).trans (up2_s hV762)))
        have fo8 : FRc V773 gB gr.length (Fask lv o c sc ((at9.toNat + 1 : Nat) : Int) ((nL gB.1 (2001 + 3 * at9.toNat) : Nat) : Int) ((nL gB.1 (2002 + 3 * at9.toNat) : Nat) : Int) v x9 p9) := by rw [gl9]; exact ⟨⟨by omega, by omega⟩, ⟨by omega, ⟨by omega, by omega, by omega⟩, ⟨by omega, by omega, by omega⟩, ⟨by omega, by omega, by omega⟩⟩, ⟨Int.natCast_nonneg _, by show _ = ((psz (opf gB.1) (at9.toNat + 1) : Nat) : Int); omega⟩, by omega, by omega, (((up2_o hV773 (by decide)).trans ((up2_o hV771 (by decide)).trans ((up2_o hV762 (by decide)).trans ((up2_o hV756 (by decide)).trans ((up2_o hV753 (by decide)).trans (up2_o hV376 (by decide))))))).trans q74), ((up2_o hV773 (by decide)).trans (up2_s hV771)).trans zx9⟩
        have esu : ESw U0 V := ESw.sy (ESw.ag (show agr [] [84] V U0 from agr.up agr.rf hU0 rfl) (by decide))
        have rlu : RWl V773 gB (Fask lv o c sc ((at9.toNat + 1 : Nat) : Int) ((nL gB.1 (2001 + 3 * at9.toNat) : Nat) : Int) ((nL gB.1 (2002 + 3 * at9.toNat) : Nat) : Int) v x9 p9 :: gr) (t2) := ⟨t0, (show t2 = t0 + p9.length from by omega), fo8, fun _ _ => (by rw [gl9, ((up2_o hV773 (by decide)).trans ((up2_o hV771 (by decide)).trans ((up2_o hV762 (by decide)).trans ((up2_o hV756 (by decide)).trans ((up2_o hV753 (by decide)).trans (up2_o hV376 (by decide)))))))]; exact hb8), plC.mv hp2 (fun j9 hj9 => ((up2_o hV773 (by decide)).trans ((up2_o hV771 (by decide)).trans ((up2_o hV762 (by decide)).trans ((up2_o hV756 (by decide)).trans ((up2_o hV753 (by decide)).trans (up2_o hV376 (by decide)))))))), rl808⟩
        have rz9 : RW V773 gB (gm, ga, Fask lv o c sc ((at9.toNat + 1 : Nat) : Int) ((nL gB.1 (2001 + 3 * at9.toNat) : Nat) : Int) ((nL gB.1 (2002 + 3 * at9.toNat) : Nat) : Int) v x9 p9 :: gr) := RW.id rwu (ESw.tr esu (ESw.ag (show agr [(5, 7)] [68, 75, 77, 78, 84] V V773 from (agr.up (agr.up (agr.up (agr.up (agr.up (agr.up agr.rf hV376 rfl) hV753 rfl) hV756 rfl) hV762 rfl) hV771 rfl) hV773 rfl)) (by decide))) ((((up2_o hV773 (by decide)).trans ((up2_o hV771 (by decide)).trans ((up2_k hV762 (by decide)).trans ((up2_o hV756 (by decide)).trans ((up2_o hV753 (by decide)).trans (up2_o hV376 (by decide)))))))).trans (up2_o hU0 (by decide)).symm) ((((up2_o hV773 (by decide)).trans ((up2_o hV771 (by decide)).trans ((up2_k hV762 (by decide)).trans ((up2_o hV756 (by decide)).trans ((up2_o hV753 (by decide)).trans (up2_o hV376 (by decide)))))))).trans (up2_o hU0 (by decide)).symm) ((((up2_o hV773 (by decide)).trans ((up2_o hV771 (by decide)).trans ((up2_k hV762 (by decide)).trans ((up2_o hV756 (by decide)).trans ((up2_o hV753 (by decide)).trans (up2_o hV376 (by decide)))))))).trans (up2_o hU0 (by decide)).symm) ((((up2_o hV773 (by decide)).trans ((up2_o hV771 (by decide)).trans ((up2_k hV762 (by decide)).trans ((up2_o hV756 (by decide)).trans ((up2_o hV753 (by decide)).trans (up2_o hV376 (by decide)))))))).trans (up2_o hU0 (by decide)).symm) (show (V773 5 6).toInt = ((gr.length + 1 : Nat) : Int) from by omega) (show (V773 5 7).toInt = ((t2 : Nat) : Int) from by omega) rlu
        have rx810 : ∃ f2, stM gB (gm, ga, gfr :: gr) = (gm, ga, f2 :: gr) ∧ RW V773 gB (gm, ga, f2 :: gr) := ⟨_, (by rw [hfe, st_12.trans (or_14 o9), hpe]; rfl), rz9⟩
        have ry811 : RW V773 gB (stM gB (gm, ga, gfr :: gr)) := by obtain ⟨f8, e8, r8⟩ := rx810; rw [e8]; exact r8
        exact W.zret (v := 0) hx hb hr rfl (fun t ht hW => ⟨⟨0, (V773, L), rfl, ⟨hMV773, agV773, rfl, (by decide), (Imp.mk (fun hp => absurd hp (by decide))), (Imp.mk (fun _ => rp795)), (Imp.mk (fun hp => absurd hp (by decide))), (Or.inr ⟨rfl, ry811⟩)⟩, by rw [ht]; exact hP, va_K.moved hW.alike hK, hD⟩, hS.F ht⟩) hS.2.2 dX5_worksWith_170
      · skip
        have ajV762 : agr [] [] V756 V762 := by rw [hw767]; exact agr.rf
        refine va_putN (D := D) (ci := 4) (v := .int z758) (ty := tyX4 11) (fs := (xfFrame V762 gf)) (C := RX4) (T := TX4) (N := 19) hx hb hg inX4 tyX4 tyX4_ok nmX4 hown hK hP hD hS (336 + gf) (xgFrame hgf) rfl 11 (by decide) (hnw.use 1200 n1200 rfl) (fun _ h9 => h9) rfl (tyX4_ok 11 (by decide)) rfl rfl (Nat.le_of_ble_eq_true rfl) dX5_worksWith_160 (fun H locs hP hD hS => ?_)
        obtain ⟨V812, hV812⟩ : ∃ z, z = up2 V762 78 gf z758 := ⟨_, rfl⟩
        have ew813 : (xw ad kk V762 L Z).set (336 + gf) ((Z.fa gf), .inr (4, (xfFrame V762 gf).set 11 (.int z758))) = xw ad kk V812 L Z := by rw [hV812]; exact xpFrame_given hgf
        have hP : va_P D vwCl (xw ad kk V812 L Z) H := by rw [← ew813]; exact hP
        have hD : va_D A (xw ad kk V812 L Z) := by rw [← ew813]; exact hD
        have hMV812 : rgd bX V812 := hMV762.put hV812 (i_full _)
        have agV812 : agr [(5, 6), (5, 7), (5, 9), (5, 11), (5, 12)] [39, 68, 75, 77, 78, 84] V V812 := agV762.up hV812 rfl
        refine lv_aload_n hx hb dX5_worksWith_163 rfl (lv_at hl 2 rfl) ?_
        refine lv_bipush (v := 6) hx hb dX5_worksWith_164 (by decide) ?_
        refine va_putN (D := D) (ci := 4) (v := .int 6) (ty := tyX4 1) (fs := (xfFrame V812 gf)) (C := RX4) (T := TX4) (N := 19) hx hb hg inX4 tyX4 tyX4_ok nmX4 hown hK hP hD hS (336 + gf) (xgFrame hgf) rfl 1 (by decide) (hnw.use 1190 n1190 rfl) (fun _ h9 => h9) rfl (tyX4_ok 1 (by decide)) rfl rfl (Nat.le_of_ble_eq_true rfl) dX5_worksWith_166 (fun H locs hP hD hS => ?_)
        obtain ⟨V814, hV814⟩ : ∃ z, z = up2 V812 68 gf 6 := ⟨_, rfl⟩
        have ew815 : (xw ad kk V812 L Z).set (336 + gf) ((Z.fa gf), .inr (4, (xfFrame V812 gf).set 1 (.int 6))) = xw ad kk V814 L Z := by rw [hV814]; exact xpFrame_phase hgf
        have hP : va_P D vwCl (xw ad kk V814 L Z) H := by rw [← ew815]; exact hP
        have hD : va_D A (xw ad kk V814 L Z) := by rw [← ew815]; exact hD
        have hMV814 : rgd bX V814 := hMV812.put hV814 (i_full _)
        have agV814 : agr [(5, 6), (5, 7), (5, 9), (5, 11), (5, 12)] [39, 68, 75, 77, 78, 84] V V814 := agV812.up hV814 rfl
        refine lv_iconst (v := 0) hx hb dX5_worksWith_169 (by decide) ?_
        have pq816 : (V814 5 6).toInt = ((V 5 6)).toInt := congrArg Int32.toInt ((up2_o hV814 (by decide)).trans ((up2_o hV812 (by decide)).trans ((ajV762 5 6 rfl).trans ((up2_o hV756 (by decide)).trans ((up2_o hV753 (by decide)).trans (up2_o hV376 (by decide)))))))
        have pq817 : (V814 67 gf).toInt = ((V 67 gf)).toInt := congrArg Int32.toInt ((up2_o hV814 (by decide)).trans ((up2_o hV812 (by decide)).trans ((ajV762 67 gf rfl).trans ((up2_o hV756 (by decide)).trans ((up2_o hV753 (by decide)).trans (up2_o hV376 (by decide)))))))
        have pq818 : (V814 68 gf).toInt = 6 := (congrArg Int32.toInt (up2_s hV814)).trans (by decide)
        have me819 : ME Va V814 gf := (ME.up (ME.up (ME.tr (ME.up (ME.up (ME.up mV hV376 (Or.inl ⟨by decide, by decide, Nat.le_refl _⟩)) hV753 (Or.inl ⟨by decide, by decide, Nat.le_refl _⟩)) hV756 (Or.inl ⟨by decide, by decide, Nat.le_refl _⟩)) (ME.ag ajV762 (by decide))) hV812 (Or.inl ⟨by decide, by decide, Nat.le_refl _⟩)) hV814 (Or.inl ⟨by decide, by decide, Nat.le_refl _⟩))
        have pq820 : (V814 70 gf).toInt = ((V 70 gf)).toInt := congrArg Int32.toInt ((up2_o hV814 (by decide)).trans ((up2_o hV812 (by decide)).trans ((ajV762 70 gf rfl).trans ((up2_o hV756 (by decide)).trans ((up2_o hV753 (by decide)).trans (up2_o hV376 (by decide)))))))
        have pq821 : (V814 71 gf).toInt = ((V 71 gf)).toInt := congrArg Int32.toInt ((up2_o hV814 (by decide)).trans ((up2_o hV812 (by decide)).trans ((ajV762 71 gf rfl).trans ((up2_o hV756 (by decide)).trans ((up2_o hV753 (by decide)).trans (up2_o hV376 (by decide)))))))
        have pq822 : (V814 75 gf).toInt = z752.toInt := congrArg Int32.toInt ((up2_o hV814 (by decide)).trans ((up2_o hV812 (by decide)).trans ((ajV762 75 gf rfl).trans ((up2_o hV756 (by decide)).trans (up2_s hV753)))))
        have pq823 : (V814 76 gf).toInt = ((V 76 gf)).toInt := congrArg Int32.toInt ((up2_o hV814 (by decide)).trans ((up2_o hV812 (by decide)).trans ((ajV762 76 gf rfl).trans ((up2_o hV756 (by decide)).trans ((up2_o hV753 (by decide)).trans (up2_o hV376 (by decide)))))))
        have pq824 : (V814 80 gf).toInt = ((V 80 gf)).toInt := congrArg Int32.toInt ((up2_o hV814 (by decide)).trans ((up2_o hV812 (by decide)).trans ((ajV762 80 gf rfl).trans ((up2_o hV756 (by decide)).trans ((up2_o hV753 (by decide)).trans (up2_o hV376 (by decide)))))))
        have pq825 : (V814 84 gf).toInt = z375.toInt := congrArg Int32.toInt ((up2_o hV814 (by decide)).trans ((up2_o hV812 (by decide)).trans ((ajV762 84 gf rfl).trans ((up2_o hV756 (by decide)).trans ((up2_o hV753 (by decide)).trans (up2_s hV376))))))
        have pq826 : (V814 5 8).toInt = ((V 5 8)).toInt := congrArg Int32.toInt ((up2_o hV814 (by decide)).trans ((up2_o hV812 (by decide)).trans ((ajV762 5 8 rfl).trans ((up2_o hV756 (by decide)).trans ((up2_o hV753 (by decide)).trans (up2_o hV376 (by decide)))))))
        have pq827 : (V814 5 9).toInt = ((V 5 9)).toInt := congrArg Int32.toInt ((up2_o hV814 (by decide)).trans ((up2_o hV812 (by decide)).trans ((ajV762 5 9 rfl).trans ((up2_o hV756 (by decide)).trans ((up2_o hV753 (by decide)).trans (up2_o hV376 (by decide)))))))
        have pq828 : (V814 3 13).toInt = ((V 3 13)).toInt := congrArg Int32.toInt ((up2_o hV814 (by decide)).trans ((up2_o hV812 (by decide)).trans ((ajV762 3 13 rfl).trans ((up2_o hV756 (by decide)).trans ((up2_o hV753 (by decide)).trans (up2_o hV376 (by decide)))))))
        have pq829 : (V814 43 (5 * b + 2)).toInt = ((V 43 (5 * b + 2))).toInt := congrArg Int32.toInt ((up2_o hV814 (by decide)).trans ((up2_o hV812 (by decide)).trans ((ajV762 43 (5 * b + 2) rfl).trans ((up2_o hV756 (by decide)).trans ((up2_o hV753 (by decide)).trans (up2_o hV376 (by decide)))))))
        have pq830 : (V814 42 b).toInt = ((V 42 b)).toInt := congrArg Int32.toInt ((up2_o hV814 (by decide)).trans ((up2_o hV812 (by decide)).trans ((ajV762 42 b rfl).trans ((up2_o hV756 (by decide)).trans ((up2_o hV753 (by decide)).trans (up2_o hV376 (by decide)))))))
        have pq831 : (V814 41 b).toInt = ((V 41 b)).toInt := congrArg Int32.toInt ((up2_o hV814 (by decide)).trans ((up2_o hV812 (by decide)).trans ((ajV762 41 b rfl).trans ((up2_o hV756 (by decide)).trans ((up2_o hV753 (by decide)).trans (up2_o hV376 (by decide)))))))
        have me834 : ME V V814 0 := (ME.up (ME.up (ME.tr (ME.up (ME.up (ME.up ME.rf hV376 (Or.inl ⟨by decide, by decide, by first | omega | ((try (have i_op8 := Imp.go op8 (by omega))); (try (have i_sf := Imp.go sf (by omega))); (try (have i_bc := Imp.go bc (by omega))); (try (have i_rwq := Imp.go rwq (by omega))); (try (have i_hop := Imp.go hop (by omega))); (try (have i_moa := Imp.go moa (by omega))); (try (have i_moa := Imp.go moa (by omega))); (try (have i_hop := Imp.go hop (by omega))); (try (have i_rwq := Imp.go rwq (by omega))); (try (have i_bc := Imp.go bc (by omega))); (try (have i_sf := Imp.go sf (by omega))); (try (have i_op8 := Imp.go op8 (by omega))); omega)⟩)) hV753 (Or.inl ⟨by decide, by decide, by first | omega | ((try (have i_op8 := Imp.go op8 (by omega))); (try (have i_sf := Imp.go sf (by omega))); (try (have i_bc := Imp.go bc (by omega))); (try (have i_rwq := Imp.go rwq (by omega))); (try (have i_hop := Imp.go hop (by omega))); (try (have i_moa := Imp.go moa (by omega))); (try (have i_moa := Imp.go moa (by omega))); (try (have i_hop := Imp.go hop (by omega))); (try (have i_rwq := Imp.go rwq (by omega))); (try (have i_bc := Imp.go bc (by omega))); (try (have i_sf := Imp.go sf (by omega))); (try (have i_op8 := Imp.go op8 (by omega))); omega)⟩)) hV756 (Or.inl ⟨by decide, by decide, by first | omega | ((try (have i_op8 := Imp.go op8 (by omega))); (try (have i_sf := Imp.go sf (by omega))); (try (have i_bc := Imp.go bc (by omega))); (try (have i_rwq := Imp.go rwq (by omega))); (try (have i_hop := Imp.go hop (by omega))); (try (have i_moa := Imp.go moa (by omega))); (try (have i_moa := Imp.go moa (by omega))); (try (have i_hop := Imp.go hop (by omega))); (try (have i_rwq := Imp.go rwq (by omega))); (try (have i_bc := Imp.go bc (by omega))); (try (have i_sf := Imp.go sf (by omega))); (try (have i_op8 := Imp.go op8 (by omega))); omega)⟩)) (ME.ag ajV762 (by decide))) hV812 (Or.inl ⟨by decide, by decide, by first | omega | ((try (have i_op8 := Imp.go op8 (by omega))); (try (have i_sf := Imp.go sf (by omega))); (try (have i_bc := Imp.go bc (by omega))); (try (have i_rwq := Imp.go rwq (by omega))); (try (have i_hop := Imp.go hop (by omega))); (try (have i_moa := Imp.go moa (by omega))); (try (have i_moa := Imp.go moa (by omega))); (try (have i_hop := Imp.go hop (by omega))); (try (have i_rwq := Imp.go rwq (by omega))); (try (have i_bc := Imp.go bc (by omega))); (try (have i_sf := Imp.go sf (by omega))); (try (have i_op8 := Imp.go op8 (by omega))); omega)⟩)) hV814 (Or.inl ⟨by decide, by decide, by first | omega | ((try (have i_op8 := Imp.go op8 (by omega))); (try (have i_sf := Imp.go sf (by omega))); (try (have i_bc := Imp.go bc (by omega))); (try (have i_rwq := Imp.go rwq (by omega))); (try (have i_hop := Imp.go hop (by omega))); (try (have i_moa := Imp.go moa (by omega))); (try (have i_moa := Imp.go moa (by omega))); (try (have i_hop := Imp.go hop (by omega))); (try (have i_rwq := Imp.go rwq (by omega))); (try (have i_bc := Imp.go bc (by omega))); (try (have i_sf := Imp.go sf (by omega))); (try (have i_op8 := Imp.go op8 (by omega))); omega)⟩))
        have ep835 : V814 84 gf = z375 := ((up2_o hV814 (by decide)).trans ((up2_o hV812 (by decide)).trans ((ajV762 84 gf rfl).trans ((up2_o hV756 (by decide)).trans ((up2_o hV753 (by decide)).trans (up2_s hV376))))))
        have af833 : (V814 42 b).toInt ≤ (V814 84 gf).toInt ∨ (bdp V814 b (V814 84 gf).toInt.toNat).1 = true := by rw [ep835, me834.1.bd, me834.1 42 b (by decide) (by decide)]; exact atn
        have mo832 : MO V814 Z b gf True (QN V814 b) (QN V814 b) := MO.ch mo me819 ((up2_o hV814 (by decide)).trans ((up2_o hV812 (by decide)).trans ((ajV762 67 gf rfl).trans ((up2_o hV756 (by decide)).trans ((up2_o hV753 (by decide)).trans ((up2_o hV376 (by decide)).trans ea67.symm)))))) ((up2_o hV814 (by decide)).trans ((up2_o hV812 (by decide)).trans ((ajV762 80 gf rfl).trans ((up2_o hV756 (by decide)).trans ((up2_o hV753 (by decide)).trans ((up2_o hV376 (by decide)).trans ea80.symm)))))) (fun _ => Or.inl (by omega)) (fun x h => FK.k4 (by first | omega | ((try (have i_op8 := Imp.go op8 (by omega))); (try (have i_sf := Imp.go sf (by omega))); (try (have i_bc := Imp.go bc (by omega))); (try (have i_rwq := Imp.go rwq (by omega))); (try (have i_hop := Imp.go hop (by omega))); (try (have i_moa := Imp.go moa (by omega))); (try (have i_moa := Imp.go moa (by omega))); (try (have i_hop := Imp.go hop (by omega))); (try (have i_rwq := Imp.go rwq (by omega))); (try (have i_bc := Imp.go bc (by omega))); (try (have i_sf := Imp.go sf (by omega))); (try (have i_op8 := Imp.go op8 (by omega))); omega)) (by first | omega | ((try (have i_op8 := Imp.go op8 (by omega))); (try (have i_sf := Imp.go sf (by omega))); (try (have i_bc := Imp.go bc (by omega))); (try (have i_rwq := Imp.go rwq (by omega))); (try (have i_hop := Imp.go hop (by omega))); (try (have i_moa := Imp.go moa (by omega))); (try (have i_moa := Imp.go moa (by omega))); (try (have i_hop := Imp.go hop (by omega))); (try (have i_rwq := Imp.go rwq (by omega))); (try (have i_bc := Imp.go bc (by omega))); (try (have i_sf := Imp.go sf (by omega))); (try (have i_op8 := Imp.go op8 (by omega))); omega)) (by first | omega | ((try (have i_op8 := Imp.go op8 (by omega))); (try (have i_sf := Imp.go sf (by omega))); (try (have i_bc := Imp.go bc (by omega))); (try (have i_rwq := Imp.go rwq (by omega))); (try (have i_hop := Imp.go hop (by omega))); (try (have i_moa := Imp.go moa (by omega))); (try (have i_moa := Imp.go moa (by omega))); (try (have i_hop := Imp.go hop (by omega))); (try (have i_rwq := Imp.go rwq (by omega))); (try (have i_bc := Imp.go bc (by omega))); (try (have i_sf := Imp.go sf (by omega))); (try (have i_op8 := Imp.go op8 (by omega))); omega)) af833 (by first | omega | ((try (have i_op8 := Imp.go op8 (by omega))); (try (have i_sf := Imp.go sf (by omega))); (try (have i_bc := Imp.go bc (by omega))); (try (have i_rwq := Imp.go rwq (by omega))); (try (have i_hop := Imp.go hop (by omega))); (try (have i_moa := Imp.go moa (by omega))); (try (have i_moa := Imp.go moa (by omega))); (try (have i_hop := Imp.go hop (by omega))); (try (have i_rwq := Imp.go rwq (by omega))); (try (have i_bc := Imp.go bc (by omega))); (try (have i_sf := Imp.go sf (by omega))); (try (have i_op8 := Imp.go op8 (by omega))); omega)) (fun hph => absurd hph (by omega)))
        have rp836 : MJ V814 Z b := MO.mj mo832 (by omega) (by omega) id id Or.inr
        have o9 : opf gB.1 at9.toNat = 14 := ((enO_i ⟨opf gB.1 at9.toNat, op9⟩).2.2.2.2.2.2.2.2.2.2.2.2.2.2.2).mp (show enO (opf gB.1 at9.toNat) = 15 from c48.symm.trans (by omega))
        have p84 : psz (opf gB.1) (at9.toNat + 1) = psz (opf gB.1) at9.toNat + 2 := psz_2 (show opf gB.1 at9.toNat = 2 ∨ (10 ≤ opf gB.1 at9.toNat ∧ opf gB.1 at9.toNat ≤ 14) from by omega)
        have pw9 : psz (opf gB.1) (at9.toNat + 1) ≤ wl gB.1 := psz_le hi9
        have c42 : (V 42 b).toInt = ((wl gB.1 : Nat) : Int) := bc.1.1
        have ka9 : Int32.toNatClampNeg (V 84 gf) = psz (opf gB.1) at9.toNat + 1 := by have h9 := i_clamp (x := V 84 gf) rfl (by omega); omega
        have wa9 : (V 48 (8200 * b + (Int32.toNatClampNeg (V 84 gf)))).toInt = enA gB.1 at9.toNat := by rw [ka9]; exact cd9.2.1 (by unfold szO; rw [if_pos (show opf gB.1 at9.toNat = 2 ∨ (10 ≤ opf gB.1 at9.toNat ∧ opf gB.1 at9.toNat ≤ 14) from by omega)])
        unfold enA at wa9
        have o8 : nL gB.1 (2000 + 3 * at9.toNat) = 14 := o9
        rw [if_neg (by omega), if_neg (by omega), if_pos o8] at wa9
        have pq837 : (V756 5 7).toInt = ((V 5 7)).toInt := congrArg Int32.toInt ((up2_o hV756 (by decide)).trans ((up2_o hV753 (by decide)).trans (up2_o hV376 (by decide))))
        have r838 : 0 ≤ ((V 5 7)).toInt ∧ ((V 5 7)).toInt ≤ 2048 := hMV 5 7
        have pl9 : 1 ≤ p.length := by obtain ⟨_, t8, h8, _⟩ := OQ.i14 oq9 o9; omega
        exact W.zret (v := 0) hx hb hr rfl (fun t ht hW => ⟨⟨0, (V814, L), rfl, ⟨hMV814, agV814, rfl, (by decide), (Imp.mk (fun hp => absurd hp (by decide))), (Imp.mk (fun _ => rp836)), (Imp.mk (fun hp => absurd hp (by decide))), (by exfalso; omega)⟩, by rw [ht]; exact hP, va_K.moved hW.alike hK, hD⟩, hS.F ht⟩) hS.2.2 dX5_worksWith_170
  · skip
    have hf : FRc U0 gB gf (Fwait lv o c sc me ps at9 v p) := by rw [← hfe]; exact hf0
    have h9 := hf.1.2
    exfalso; omega
  · skip
    have hf : FRc U0 gB gf (Fask lv o c sc at9 nd tg v g p) := by rw [← hfe]; exact hf0
    have h9 := hf.1.2
    exfalso; omega
  · skip
    have hf : FRc U0 gB gf (Fget lv o c sc at9 nd tg v g p) := by rw [← hfe]; exact hf0
    have h9 := hf.1.2
    exfalso; omega
  · skip
    have hf : FRc U0 gB gf (Fsum lv o c sc at9 nd tg it v g u p) := by rw [← hfe]; exact hf0
    have h9 := hf.1.2
    exfalso; omega
