/-! the methods' table never shrinks -/
def GL (N : Nat) : Cf → Prop
  | .inl c => N ≤ (c.1.2.1 3).length
  | .inr _ => True
section GLs
variable {N : Nat} {T : Tk} {s : St}
theorem GL.ub (f : Nat → List Int64) (t : Nat) (w : Int64) (h : N ≤ (f 3).length) : N ≤ (upB f t w 3).length := by
  unfold upB
  split
  · rw [List.length_append]; exact Nat.le_trans h (Nat.le_add_right _ _)
  · exact h
theorem GL.i2 {p : Prop} [Decidable p] {a b : Cf} (ha : GL N a) (hb : GL N b) : GL N (if p then a else b) := by
  split
  · exact ha
  · exact hb
theorem GL.lk {l : List Int64} {k : Nat → Cf} (h : ∀ f, GL N (k f)) : GL N (look T s l k) := by
  unfold look
  split
  · exact trivial
  · split
    · exact trivial
    · exact h _
theorem GL.nw {k : Int64 → Cf} (h : ∀ f, GL N (k f)) : GL N (newN T s k) := by
  unfold newN
  split
  · exact trivial
  · split
    · exact trivial
    · exact h _
theorem GL.nb {j : Nat} {k : Nat × St → Cf} (hs : N ≤ (s.2.1 3).length) (h : ∀ x : Nat × St, N ≤ (x.2.2.1 3).length → GL N (k x)) : GL N (nbrW T s j k) := by
  unfold nbrW
  split
  · exact h _ hs
  · split
    · exact trivial
    · exact h _ (GL.ub _ _ _ hs)
theorem GL.mw {j : Nat} {k : Nat × St → Cf} (hs : N ≤ (s.2.1 3).length) (h : ∀ x : Nat × St, N ≤ (x.2.2.1 3).length → GL N (k x)) : GL N (mthW T s j k) := by
  unfold mthW
  split
  · exact trivial
  · exact GL.nb hs h
theorem GL.mn {k : Nat × St → Cf} (hs : N ≤ (s.2.1 3).length) (h : ∀ x : Nat × St, N ≤ (x.2.2.1 3).length → GL N (k x)) : GL N (mthN T s k) := by
  unfold mthN
  split
  · exact trivial
  · exact GL.mw hs h
theorem GL.it {k : List It} (h : N ≤ (s.2.1 3).length) : (i : It) → GL N (itW T s k i)
  | (0, _, _, _, _, _) => GL.i2 h trivial
  | (1, _, _, _, _, _) => h
  | (2, _, _, _, _, _) => GL.i2 h h
  | (3, _, _, _, _, _) => h
  | (4, _, _, _, _, _) => GL.i2 h h
  | (5, _, _, _, _, _) => h
  | (6, _, _, _, _, _) => GL.i2 h h
  | (7, _, _, _, _, _) => GL.i2 trivial (GL.i2 trivial (by unfold partW; exact GL.i2 h (GL.i2 h (GL.i2 h (GL.i2 h (GL.i2 h (GL.i2 h (GL.i2 h h))))))))
  | (8, _, _, _, _, _) => GL.i2 trivial (GL.i2 trivial h)
  | (9, _, _, _, _, _) => GL.lk (fun _ => h)
  | (10, _, _, _, _, _) => GL.mw h (fun _ q => q)
  | (11, _, _, _, _, _) => GL.mw h (fun _ q => q)
  | (12, _, _, _, _, _) => by
    show GL N (stmtW T s k)
    unfold stmtW
    exact GL.i2 trivial (GL.i2 (GL.i2 trivial h) (GL.i2 (GL.i2 trivial h) (GL.i2 (GL.i2 trivial h) (GL.i2 (GL.i2 trivial h) trivial))))
  | (13, _, _, _, _, _) => GL.nw (k := fun w => Crun (nx s 1) (Ilike w :: k)) (fun _ => h)
  | (14, _, _, _, _, _) => GL.lk (fun _ => GL.i2 trivial (GL.i2 trivial h))
  | (15, _, _, _, w, _) => GL.ub s.2.1 0 w h
  | (16, _, _, _, _, _) => GL.nw (k := fun w => Crun (nx s 1) (Inum 0 999999999 :: Itake 59 :: IaddSe w :: Istmt :: k)) (fun _ => h)
  | (17, _, _, _, w, _) => GL.ub s.2.1 1 w h
  | (18, _, _, _, _, _) => GL.nw (k := fun w => Crun (nx s 1) (Itake 132 :: Itypes 0 [] :: Iscope w :: k)) (fun _ => h)
  | (19, _, _, _, _, _) => GL.i2 trivial h
  | (20, _, _, _, _, _) => GL.i2 h h
  | (21, _, _, _, _, _) => GL.i2 h h
  | (22, _, _, _, _, _) => GL.i2 h h
  | (23, _, _, _, w, _) => GL.ub s.2.1 2 w h
  | (24, _, _, _, _, _) => by
    show GL N (memberW T s k)
    unfold memberW
    exact GL.i2 h (GL.i2 (GL.i2 trivial h) (GL.i2 (GL.i2 trivial h) (GL.i2 (GL.i2 trivial h) (GL.i2 h trivial))))
  | (25, _, _, _, _, _) => GL.lk (fun _ => GL.i2 h h)
  | (26, _, _, _, _, _) => h
  | (27, _, _, _, _, _) => GL.mn h (fun _ q => q)
  | (28, _, _, _, _, _) => GL.lk (fun _ => h)
  | (29, _, _, _, _, _) => GL.mw h (fun _ q => q)
  | (30, _, _, _, _, _) => GL.i2 trivial (GL.i2 trivial h)
  | (31, _, _, _, _, _) => h
  | (32, _, _, _, _, _) => GL.i2 h h
  | (33, _, _, _, _, _) => GL.i2 h h
  | (34, _, _, _, _, _) => GL.i2 h (GL.i2 h h)
  | (_ + 35, _, _, _, _, _) => h
theorem GL.st {c : Cf} (h : GL N c) : GL N (mst T c) := by
  cases c with
  | inr c => exact trivial
  | inl c =>
    obtain ⟨s, k⟩ := c
    cases k with
    | nil => exact h
    | cons i k => exact GL.it (s := s) h i
theorem GL.run (n : Nat) : ∀ {c : Cf}, GL N c → GL N (mrun T n c) := by
  induction n with
  | zero => exact fun h => h
  | succ n ih => exact fun h => ih (GL.st h)
end GLs
theorem Rc.ml {T : Tk} {s s' : St} {k k' : List It} (h : Rc T (Crun s k) (Crun s' k')) : (s.2.1 3).length ≤ (s'.2.1 3).length := by
  obtain ⟨n, e⟩ := h
  have z : GL (s.2.1 3).length (mrun T n (Crun s k)) := GL.run n (Nat.le_refl _)
  rw [e] at z
  exact z
/-! members of the reference -/
theorem nar_01 {z : Int32} (h : z.toInt = 0 ∨ z.toInt = 1) : (vp_nar .boolean z).toInt = z.toInt := by
  rcases h with h | h
  · have e : z = 0 := Int32.toInt_inj.mp h
    subst e
    decide
  · have e : z = 1 := Int32.toInt_inj.mp h
    subst e
    decide
theorem mb_f {T : Tk} {s : St} {k : List It} (h1 : T.1 (s.1 0) ≠ 125) (h2 : T.1 (s.1 0) ≠ 137) (h3 : T.1 (s.1 0) ≠ 140 ∨ s.1 2 = 1) (h4 : T.1 (s.1 0) ≠ 141 ∨ s.1 3 = 1) (h5 : T.1 (s.1 0) ≠ 142) : mst T (Crun s (Imember :: k)) = fl T s 1 := by
  by_cases c : T.1 (s.1 0) = 140
  · exact mb_140f c (h3.resolve_left (fun q => q c))
  · by_cases d : T.1 (s.1 0) = 141
    · exact mb_141f d (h4.resolve_left (fun q => q d))
    · exact mb_x h1 h2 c d h5
theorem mth_k3 {T : Tk} {s : St} {j : Nat} {x : Nat × St} (h : ∀ kk, mthW T s j kk = kk x) : T.1 (s.1 0) = 3 := by
  by_cases c : T.1 (s.1 0) = 3
  · exact c
  · have z := (mth_1 (j := j) c (fun _ => Cdone s)).symm.trans (h _)
    unfold fl at z
    exact absurd z (fun e => by cases e)
theorem MTX.told {T : Tk} {s : St} {x : Nat × St} (m : MTX T s 3 x) (t : x.1 ∈ s.2.2.2) (l : ∀ f ∈ s.2.2.2, f < (s.2.1 3).length) : mTold s (T.2.1 (s.1 0)) = true ∧ x.2 = nx s 1 := by
  rcases m with ⟨a, b⟩ | ⟨a, b, c⟩
  · exact ⟨(mTold_s a).trans (List.contains_iff_mem.mpr t), b⟩
  · have z := l _ t
    omega
theorem MTX.new {T : Tk} {s : St} {x : Nat × St} (m : MTX T s 3 x) (h : ∀ kk, mthW T s 3 kk = kk x) (t : x.1 ∉ s.2.2.2) (kk : Nat × St → Cf) : mthN T s kk = kk x := by
  have hn : mTold s (T.2.1 (s.1 0)) = false := by
    rcases m with ⟨a, b⟩ | ⟨a, b, c⟩
    · rw [mTold_s a]
      exact Bool.eq_false_iff.mpr (fun q => t (List.contains_iff_mem.mp q))
    · exact mTold_n a
  exact (mthN_y (fun q => by rw [hn] at q; exact absurd q.2 (by decide)) kk).trans (h kk)
theorem MTX.le {T : Tk} {s : St} {x : Nat × St} (m : MTX T s 3 x) : (s.2.1 3).length ≤ (x.2.2.1 3).length ∧ x.1 < (x.2.2.1 3).length := by
  rcases m with ⟨a, b⟩ | ⟨a, b, c⟩
  · rw [b]
    refine ⟨Nat.le_refl _, ?_⟩
    unfold fndI at a
    rw [List.findIdx?_eq_some_iff_getElem] at a
    exact a.1
  · have e : (x.2.2.1 3).length = (s.2.1 3).length + 1 := by
      rw [c]
      show ((if 3 = 3 then s.2.1 3 ++ [T.2.1 (s.1 0)] else s.2.1 3)).length = _
      rw [if_pos rfl, List.length_append]
      rfl
    omega
theorem RelM.tl {V : Vf} {L : Lf} {q n : Nat} {T : Tk} {s : St} {l2 : List Int64} {l : List Nat} (h : RelM V L q n T s l2) : RelM V L q n T (sT s l) l2 := h
theorem EM.o {V : Vf} {o : Nat} {s : St} (h : OWm V o s) (e51 : (V 0 51).toInt = (o : Int)) (e52 : (V 0 52).toInt = 0) : EM V s := by
  have k : Int32.toNatClampNeg (V 0 51) = o := by
    have := i_clamp (x := V 0 51) rfl (by omega)
    omega
  have z := h.2.2.2.1
  refine ⟨⟨fun _ => z, fun _ => by omega⟩, ⟨fun q => by omega, fun q => by omega⟩, fun _ => ?_⟩
  rw [k]
  exact h.1
theorem EM.o2 {V : Vf} {o : Nat} {s : St} (c27 : (V 27 o).toInt = ((s.1 1 : Nat) : Int)) (z : s.1 4 = 0) (e51 : (V 0 51).toInt = (o : Int)) (e52 : (V 0 52).toInt = 0) : EM V s := by
  have k : Int32.toNatClampNeg (V 0 51) = o := by
    have := i_clamp (x := V 0 51) rfl (by omega)
    omega
  refine ⟨⟨fun _ => z, fun _ => by omega⟩, ⟨fun q => by omega, fun q => by omega⟩, fun _ => ?_⟩
  rw [k]
  exact c27
section OWs
variable {V W : Vf} {o m : Nat} {s s' : St}
theorem OWm.nd (h : OWm V o s) (k : keepS s m s') (l : (s.2.1 3).length ≤ (s'.2.1 3).length) (e27 : (W 27 o).toInt = (V 27 o).toInt + 1) (e32 : W 32 o = V 32 o) (e33 : W 33 o = V 33 o) (e34 : ∀ f, f < 20 → W 34 (20 * o + f) = V 34 (20 * o + f)) : OWm W o (sN s' 1 (s'.1 1 + 1)) := by
  have k1 := k.2.1 1 (by decide)
  have k2 := k.2.1 2 (by decide)
  have k3 := k.2.1 3 (by decide)
  have k4 := k.2.1 4 (by decide)
  refine ⟨?_, ?_, ?_, ?_, ?_, ?_⟩
  · show (W 27 o).toInt = ((s'.1 1 + 1 : Nat) : Int)
    rw [e27, h.1, k1]
    omega
  · show (W 32 o).toInt < 0 ↔ s'.1 2 ≠ 1
    rw [e32, k2]
    exact h.2.1
  · show (W 33 o).toInt < 0 ↔ s'.1 3 ≠ 1
    rw [e33, k3]
    exact h.2.2.1
  · show s'.1 4 = 0
    rw [k4]
    exact h.2.2.2.1
  · intro f hf
    show _ ↔ f ∈ s'.2.2.2
    rw [e34 f hf, k.2.2.2]
    exact h.2.2.2.2.1 f hf
  · show ∀ f ∈ s'.2.2.2, f < (s'.2.1 3).length
    rw [k.2.2.2]
    exact fun f hf => Nat.lt_of_lt_of_le (h.2.2.2.2.2 f hf) l
theorem OWm.op (h : OWm V o s) (k : keepS (nx (sN s 2 1) 1) m s') (l : (s.2.1 3).length ≤ (s'.2.1 3).length) (e27 : W 27 o = V 27 o) (c32 : 0 ≤ (W 32 o).toInt) (e33 : W 33 o = V 33 o) (e34 : ∀ f, f < 20 → W 34 (20 * o + f) = V 34 (20 * o + f)) : OWm W o s' := by
  have k1 : s'.1 1 = s.1 1 := k.2.1 1 (by decide)
  have k2 : s'.1 2 = 1 := k.2.1 2 (by decide)
  have k3 : s'.1 3 = s.1 3 := k.2.1 3 (by decide)
  have k4 : s'.1 4 = s.1 4 := k.2.1 4 (by decide)
  have kt : s'.2.2 = s.2.2 := k.2.2.2
  refine ⟨by rw [e27, k1]; exact h.1, ⟨fun q => absurd q (by omega), fun q => absurd k2 q⟩, by rw [e33, k3]; exact h.2.2.1, by rw [k4]; exact h.2.2.2.1, fun f hf => by rw [e34 f hf, kt]; exact h.2.2.2.2.1 f hf, by rw [kt]; exact fun f hf => Nat.lt_of_lt_of_le (h.2.2.2.2.2 f hf) l⟩
theorem OWm.cl (h : OWm V o s) (k : keepS (nx (sN s 3 1) 1) m s') (l : (s.2.1 3).length ≤ (s'.2.1 3).length) (e27 : W 27 o = V 27 o) (e32 : W 32 o = V 32 o) (c33 : 0 ≤ (W 33 o).toInt) (e34 : ∀ f, f < 20 → W 34 (20 * o + f) = V 34 (20 * o + f)) : OWm W o s' := by
  have k1 : s'.1 1 = s.1 1 := k.2.1 1 (by decide)
  have k2 : s'.1 2 = s.1 2 := k.2.1 2 (by decide)
  have k3 : s'.1 3 = 1 := k.2.1 3 (by decide)
  have k4 : s'.1 4 = s.1 4 := k.2.1 4 (by decide)
  have kt : s'.2.2 = s.2.2 := k.2.2.2
  refine ⟨by rw [e27, k1]; exact h.1, by rw [e32, k2]; exact h.2.1, ⟨fun q => absurd q (by omega), fun q => absurd k3 q⟩, by rw [k4]; exact h.2.2.2.1, fun f hf => by rw [e34 f hf, kt]; exact h.2.2.2.2.1 f hf, by rw [kt]; exact fun f hf => Nat.lt_of_lt_of_le (h.2.2.2.2.2 f hf) l⟩
theorem OWm.mt {x : Nat × St} {a : St} (h : OWm V o s) (ka : keepS s m a) (la : (s.2.1 3).length ≤ (a.2.1 3).length) (kx : keepS a 1 x.2) (lx : (a.2.1 3).length ≤ (x.2.2.1 3).length) (hx : x.1 < (x.2.2.1 3).length) (k : keepS (sT x.2 (x.1 :: a.2.2.2)) m s') (l : (x.2.2.1 3).length ≤ (s'.2.1 3).length) (e27 : W 27 o = V 27 o) (e32 : W 32 o = V 32 o) (e33 : W 33 o = V 33 o) (c34 : 0 ≤ (W 34 (20 * o + x.1)).toInt) (e34 : ∀ f, f < 20 → f ≠ x.1 → W 34 (20 * o + f) = V 34 (20 * o + f)) : OWm W o s' := by
  have kk : ∀ i, 1 ≤ i → s'.1 i = s.1 i := fun i hi => ((k.2.1 i hi).trans (kx.2.1 i hi)).trans (ka.2.1 i hi)
  have kt : s'.2.2.2 = x.1 :: s.2.2.2 := by
    have z : s'.2.2.2 = x.1 :: a.2.2.2 := congrArg (fun q => q.2) k.2.2.2
    have z2 : a.2.2.2 = s.2.2.2 := congrArg (fun q => q.2) ka.2.2.2
    rw [z, z2]
  refine ⟨by rw [e27, kk 1 (by decide)]; exact h.1, by rw [e32, kk 2 (by decide)]; exact h.2.1, by rw [e33, kk 3 (by decide)]; exact h.2.2.1, by rw [kk 4 (by decide)]; exact h.2.2.2.1, fun f hf => ?_, fun f hf => ?_⟩
  · rw [kt, List.mem_cons]
    by_cases c : f = x.1
    · rw [c]
      exact ⟨fun _ => Or.inl rfl, fun _ => c34⟩
    · rw [e34 f hf c, h.2.2.2.2.1 f hf]
      exact ⟨fun q => Or.inr q, fun q => q.elim (fun z => absurd z c) id⟩
  · rw [kt, List.mem_cons] at hf
    rcases hf with hf | hf
    · omega
    · have := h.2.2.2.2.2 f hf
      omega
end OWs


abbrev r_s_takeNeedB : Room := { frames := 0, cells := 0, slots := 0, locals := 0 }
abbrev q_s_takeNeedB (D : va_G) (ks : KS) (ad : Nat → Nat) (kk : Nat → ClassId) (V : Vf) (L : Lf) (p0 : Int32) (A : Nat → Prop) : Array Value → State → Outcome → State → Prop := va_Qv (fun (u : Vf × Lf) => rgd bM u.1 ∧ agr [(0, 7), (0, 8)] [27, 28, 29, 30, 31, 35, 36, 37, 38] V u.1 ∧ agL [27, 28, 29, 30, 31, 35, 36, 37, 38] L u.2 ∧ ((u.1 0 8).toInt = (V 0 8).toInt)) (fun u t => gq D A (mw ad kk ks.1 u.1 u.2) (mty kk) t) A
set_option maxHeartbeats 4000000 in
set_option maxRecDepth 100000 in
theorem s_takeNeedB (l : Launch) (D : va_G) (ks : KS) (sz : Nat) (ad : Nat → Nat) (kk : Nat → ClassId) (V : Vf) (L : Lf) (p0 : Int32) (hMV : rgd bM V) (rg_p0 : 0 ≤ p0.toInt ∧ p0.toInt ≤ 47) (bf : 1 ≤ (V 0 8).toInt)  : Met l yX12_takeNeed (Cond.code yX12_takeNeed cX12_takeNeed 3 none :: GW) r_s_takeNeedB (va_Pc [.ref (ad 0), .int p0] (gp D ks (mw ad kk ks.1 V L) (mty kk) sz)) (q_s_takeNeedB D ks ad kk V L p0 (va_A (mw ad kk ks.1 V L) sz)) 0 0 (va_A (mw ad kk ks.1 V L) sz) := by
  refine g_met (q_s_takeNeedB D ks ad kk V L p0) (by decide) (Nat.le_of_ble_eq_true rfl) ?_
  intro p e s m below meth c A ls H locs hx hb hr hml hown hg hlocks hin hnw hgk hP hK hD hS hA hl
  have hown : s.vm.findClass RX12 = some m.cls := hown
  have hl : lv_has ls 3 [(0, .ref (ad 0)), (1, .int p0)] := hl
  have hP : va_P D vwCl (mw ad kk ks.1 V L) H := hP
  have hD : va_D A (mw ad kk ks.1 V L) := hD
  have hK : va_K D vwCl (mty kk) s := hK
  have agV : agr [(0, 7), (0, 8)] [27, 28, 29, 30, 31, 35, 36, 37, 38] V V := agr.rf
  have alL : agL [27, 28, 29, 30, 31, 35, 36, 37, 38] L L := agL.rf
  have rf_p0 := i_full p0
  have r1 : 0 ≤ ((V 0 8)).toInt ∧ ((V 0 8)).toInt ≤ 70000 := hMV 0 8
  refine lv_aload_n hx hb dX12_takeNeed_0 rfl (lv_at hl 0 rfl) ?_
  refine va_get (D := D) (ci := 12) (v := .int (V 0 8)) (C := RX12) (T := TX12) (N := 100) hx hb hg inX12 hown hK hP 0 rfl rfl 8 (by decide) (hg _ w1714) (fun _ h9 => h9) rfl dX12_takeNeed_1 ?_
  refine lv_if_le (tgt := 8) hx hb dX12_takeNeed_4 (by decide) (fun c2 => ?_) (fun c2 => ?_)
  · skip
    have f3 : ((V 0 8)).toInt ≤ 0 := b_le rfl (by decide) c2
    exfalso; omega
  · skip
    have f4 : 0 < ((V 0 8)).toInt := b_nle rfl (by decide) c2
    exact W.vret hx hb hr (fun t ht hW => ⟨⟨(V, L), rfl, ⟨hMV, agV, alL, (show (V 0 8).toInt = (V 0 8).toInt from by omega)⟩, by rw [ht]; exact hP, va_K.moved hW.alike hK, hD⟩, hS.F ht⟩) hS.2.2 dX12_takeNeed_7
abbrev r_s_takeNeedA : Room := { frames := 3, cells := 0, slots := 0, locals := 71 }
abbrev q_s_takeNeedA (D : va_G) (ks : KS) (ad : Nat → Nat) (kk : Nat → ClassId) (V : Vf) (L : Lf) (p0 : Int32) (bq : Nat) (gn : Nat) (gT : Tk) (gs : St) (gl : List Int64) (gc : Nat) (A : Nat → Prop) : Array Value → State → Outcome → State → Prop := va_Qv (fun (u : Vf × Lf) => rgd bM u.1 ∧ agr [(0, 7), (0, 8)] [27, 28, 29, 30, 31, 35, 36, 37, 38] V u.1 ∧ agL [27, 28, 29, 30, 31, 35, 36, 37, 38] L u.2 ∧ ((u.1 27 gc).toInt = (V 27 gc).toInt + 1) ∧ (RdM gT gs (fun k => IneedK :: k) (fun k => Itake 59 :: IaddNeed :: Imember :: k) (u.1 0 8).toInt (fun s9 => RelM u.1 u.2 bq gn gT s9 gl ∧ keepS gs 1 s9))) (fun u t => gq D A (mw ad kk ks.1 u.1 u.2) (mty kk) t) A
set_option maxHeartbeats 4000000 in
set_option maxRecDepth 100000 in
theorem s_takeNeedA (l : Launch) (D : va_G) (ks : KS) (sz : Nat) (ad : Nat → Nat) (kk : Nat → ClassId) (V : Vf) (L : Lf) (p0 : Int32) (bq : Nat) (gn : Nat) (gT : Tk) (gs : St) (gl : List Int64) (gc : Nat) (hMV : rgd bM V) (rg_p0 : 0 ≤ p0.toInt ∧ p0.toInt ≤ 47) (rel : RelM V L bq gn gT gs gl) (pgc : p0.toInt = (gc : Int)) (gc48 : gc < 48) (n7 : (V 27 gc).toInt ≤ 7)  : Met l yX12_takeNeed (Cond.code yX12_takeNeed cX12_takeNeed 3 none :: GW) r_s_takeNeedA (va_Pc [.ref (ad 0), .int p0] (gp D ks (mw ad kk ks.1 V L) (mty kk) sz)) (q_s_takeNeedA D ks ad kk V L p0 bq gn gT gs gl gc (va_A (mw ad kk ks.1 V L) sz)) 0 0 (va_A (mw ad kk ks.1 V L) sz) := by
  refine g_met (q_s_takeNeedA D ks ad kk V L p0 bq gn gT gs gl gc) (by decide) (Nat.le_of_ble_eq_true rfl) ?_
  intro p e s m below meth c A ls H locs hx hb hr hml hown hg hlocks hin hnw hgk hP hK hD hS hA hl
  have hown : s.vm.findClass RX12 = some m.cls := hown
  have hl : lv_has ls 3 [(0, .ref (ad 0)), (1, .int p0)] := hl
  have hP : va_P D vwCl (mw ad kk ks.1 V L) H := hP
  have hD : va_D A (mw ad kk ks.1 V L) := hD
  have hK : va_K D vwCl (mty kk) s := hK
  have agV : agr [(0, 7), (0, 8)] [27, 28, 29, 30, 31, 35, 36, 37, 38] V V := agr.rf
  have alL : agL [27, 28, 29, 30, 31, 35, 36, 37, 38] L L := agL.rf
  have rf_p0 := i_full p0
  have r1 : 0 ≤ ((V 27 gc)).toInt ∧ ((V 27 gc)).toInt ≤ 8 := hMV 27 gc
  have rg0 := RelM.rg rel
  have cl0 := RelM.cl rel
  have cq0 := RelM.cq rel
  have kgc : Int32.toNatClampNeg p0 = gc := by have h9 := i_clamp (x := p0) rfl (by omega); omega
  have q27 : (V 27 (Int32.toNatClampNeg p0)).toInt = (V 27 gc).toInt := by rw [kgc]
  have q32 : (V 32 (Int32.toNatClampNeg p0)).toInt = (V 32 gc).toInt := by rw [kgc]
  have q33 : (V 33 (Int32.toNatClampNeg p0)).toInt = (V 33 gc).toInt := by rw [kgc]
  refine lv_aload_n hx hb dX12_takeNeed_0 rfl (lv_at hl 0 rfl) ?_
  refine va_get (D := D) (ci := 12) (v := .int (V 0 8)) (C := RX12) (T := TX12) (N := 100) hx hb hg inX12 hown hK hP 0 rfl rfl 8 (by decide) (hg _ w1714) (fun _ h9 => h9) rfl dX12_takeNeed_1 ?_
  have r2 : 0 ≤ ((V 0 8)).toInt ∧ ((V 0 8)).toInt ≤ 70000 := hMV 0 8
  refine lv_if_le (tgt := 8) hx hb dX12_takeNeed_4 (by decide) (fun c3 => ?_) (fun c3 => ?_)
  · skip
    have f4 : ((V 0 8)).toInt ≤ 0 := b_le rfl (by decide) c3
    refine lv_bipush (v := 8) hx hb dX12_takeNeed_8 (by decide) ?_
    refine lv_iload_n hx hb dX12_takeNeed_10 rfl (lv_at hl 1 rfl) ?_
    refine lv_imul hx hb dX12_takeNeed_11 ?_
    refine lv_topi (fun z5 ez5 => ?_)
    have hz5 : z5.toInt = 8 * p0.toInt := i_mul ez5 (by decide) rfl (by omega)
    refine lv_aload_n hx hb dX12_takeNeed_12 rfl (lv_at hl 0 rfl) ?_
    refine va_get (D := D) (ci := 12) (v := .ref (ad 27)) (C := RX12) (T := TX12) (N := 100) hx hb hg inX12 hown hK hP 0 rfl rfl 27 (by decide) (hg _ w1733) (fun _ h9 => h9) rfl dX12_takeNeed_13 ?_
    refine lv_iload_n hx hb dX12_takeNeed_16 rfl (lv_at hl 1 rfl) ?_
    refine va_iald (D := D) (i := p0) hx hb hK hP 20 19 rfl rfl (i_in (a := p0.toInt) rfl (by omega)) dX12_takeNeed_17 ?_
    have r6 : 0 ≤ ((V 27 (Int32.toNatClampNeg p0))).toInt ∧ ((V 27 (Int32.toNatClampNeg p0))).toInt ≤ 8 := hMV 27 (Int32.toNatClampNeg p0)
    refine lv_iadd hx hb dX12_takeNeed_18 ?_
    refine lv_topi (fun z7 ez7 => ?_)
    have hz7 : z7.toInt = z5.toInt + ((V 27 (Int32.toNatClampNeg p0))).toInt := i_add ez7 rfl rfl (by omega)
    refine lv_istore_n (lv' := [(2, .int z7), (0, .ref (ad 0)), (1, .int p0)]) hx hb dX12_takeNeed_19 rfl hl (by decide) rfl (fun ls hl => ?_)
    refine lv_aload_n hx hb dX12_takeNeed_20 rfl (lv_at hl 1 rfl) ?_
    refine va_get (D := D) (ci := 12) (v := .ref (ad 29)) (C := RX12) (T := TX12) (N := 100) hx hb hg inX12 hown hK hP 0 rfl rfl 29 (by decide) (hg _ w1735) (fun _ h9 => h9) rfl dX12_takeNeed_21 ?_
    refine lv_iload_n hx hb dX12_takeNeed_24 rfl (lv_at hl 0 rfl) ?_
    refine lv_aload_n hx hb dX12_takeNeed_25 rfl (lv_at hl 1 rfl) ?_
    refine lv_bipush (v := 10) hx hb dX12_takeNeed_26 (by decide) ?_
    have r8 : Int32.toInt 10 = 10 := by decide
    refine gA_int (gA_runV (As := [.int 10]) (rest := [.int z7, .ref (ad 29)]) (ci := 12) (q0 := 0) hx hb hml hown hg hP hD hK hS hA hnw hgk (s_hasWordA l D ks H.size ad kk V L 10 (bq) (gn) (gT) (gs) (gl) hMV (by decide) rel) w2051 w2053 w90 w172 w2054 rfl rfl hdV_yX12_hasWord ⟨Nat.le_of_ble_eq_true rfl, Nat.le_of_ble_eq_true rfl⟩ rfl hl.1 rfl (Nat.le_of_ble_eq_true rfl) dX12_takeNeed_28 ⟨Nat.le_of_ble_eq_true rfl, Nat.le_of_ble_eq_true rfl⟩) hP hD hK hS hA (fun z9 u10 H locs w11 hP hD hK hS => ?_)
    obtain ⟨V13, L14⟩ := u10
    obtain ⟨hMV13, ajV13, axL14, rgz9, t12⟩ := w11
    have axL14 : L = L14 := Eq.symm axL14
    subst axL14
    have hP : va_P D vwCl (mw ad kk ks.1 V13 L) H := hP
    have hD : va_D A (mw ad kk ks.1 V13 L) := hD
    have hMV13 : rgd bM V13 := hMV13
    have ajV13 : agr [(0, 7)] [] V V13 := ajV13
    have agV13 : agr [(0, 7), (0, 8)] [27, 28, 29, 30, 31, 35, 36, 37, 38] V V13 := agV.tr ajV13 (by decide) (by decide)
    have rgz9 : 0 ≤ z9.toInt ∧ z9.toInt ≤ 1 := rgz9
    have t12 : (z9.toInt = 1 ∧ (gT).1 ((gs).1 0) = 128 + (Int32.toInt 10) ∧ RelM V13 L (bq) (gn) (gT) (nx (gs) 1) (gl)) ∨ (z9.toInt = 0 ∧ (gT).1 ((gs).1 0) ≠ 128 + (Int32.toInt 10) ∧ RelM V13 L (bq) (gn) (gT) (gs) (gl)) := t12
    rcases t12 with ⟨q15, h16, rl17⟩ | ⟨q15, h16, rl17⟩
    · skip
      have kd18 : gT.1 (gs.1 0) = 138 := h16.trans (by decide)
      have hr19 : ∀ k, Rc gT (Crun gs (IneedK :: k)) (Crun gs (IneedK :: k)) := fun k => Rc.rf
      have hr20 : ∀ k, Rc gT (Crun gs (IneedK :: k)) (Crun (nx gs 1) (IneedT 0 :: k)) := fun k => Rc.go1 (hr19 k) (needK_l kd18)
      have ps21 : (nx gs 1).1 0 = gs.1 0 + 1 := rfl
      have fz22 := RelM.rg rl17
      have pq23 : (V13 0 8).toInt = ((V 0 8)).toInt := congrArg Int32.toInt (ajV13 0 8 rfl)
      refine va_zast (D := D) (i := z7) (x := z9) hx hb hK hP hD hS 22 21 rfl rfl (i_in (a := z7.toInt) rfl (by omega)) dX12_takeNeed_31 (fun H locs hP hD hS => ?_)
      obtain ⟨V24, hV24⟩ : ∃ z, z = up2 V13 29 (Int32.toNatClampNeg z7) (vp_nar .boolean z9) := ⟨_, rfl⟩
      have hP : va_P D vwCl (mw ad kk ks.1 V24 L) H := by rw [hV24]; exact hP
      have hD : va_D A (mw ad kk ks.1 V24 L) := by rw [hV24]; exact hD
      have hMV24 : rgd bM V24 := hMV13.put hV24 (nar_b _)
      have agV24 : agr [(0, 7), (0, 8)] [27, 28, 29, 30, 31, 35, 36, 37, 38] V V24 := agV13.up hV24 rfl
      refine lv_aload_n hx hb dX12_takeNeed_32 rfl (lv_at hl 1 rfl) ?_
      refine va_get (D := D) (ci := 12) (v := .ref (ad 30)) (C := RX12) (T := TX12) (N := 100) hx hb hg inX12 hown hK hP 0 rfl rfl 30 (by decide) (hg _ w1736) (fun _ h9 => h9) rfl dX12_takeNeed_33 ?_
      refine lv_iload_n hx hb dX12_takeNeed_36 rfl (lv_at hl 0 rfl) ?_
      refine lv_aload_n hx hb dX12_takeNeed_37 rfl (lv_at hl 1 rfl) ?_
      refine va_get (D := D) (ci := 12) (v := .ref (ad 29)) (C := RX12) (T := TX12) (N := 100) hx hb hg inX12 hown hK hP 0 rfl rfl 29 (by decide) (hg _ w1735) (fun _ h9 => h9) rfl dX12_takeNeed_38 ?_
      refine lv_iload_n hx hb dX12_takeNeed_41 rfl (lv_at hl 0 rfl) ?_
      refine va_zald (D := D) (i := z7) hx hb hK hP 22 21 rfl rfl (i_in (a := z7.toInt) rfl (by omega)) dX12_takeNeed_42 ?_
      refine g_top (v := (vp_nar .boolean z9)) (up2_s hV24) ?_
      have nr25 : (vp_nar .boolean z9).toInt = z9.toInt := nar_01 (by omega)
      refine lv_if_ne (tgt := 59) hx hb dX12_takeNeed_43 (by decide) (fun c26 => ?_) (fun c26 => ?_)
      · skip
        have f27 : ((vp_nar .boolean z9)).toInt ≠ 0 := b_neq rfl (by decide) c26
        refine lv_iconst (v := 0) hx hb dX12_takeNeed_59 (by decide) ?_
        refine va_zast (D := D) (i := z7) (x := 0) hx hb hK hP hD hS 23 22 rfl rfl (i_in (a := z7.toInt) rfl (by omega)) dX12_takeNeed_60 (fun H locs hP hD hS => ?_)
        obtain ⟨V28, hV28⟩ : ∃ z, z = up2 V24 30 (Int32.toNatClampNeg z7) (vp_nar .boolean 0) := ⟨_, rfl⟩
        have hP : va_P D vwCl (mw ad kk ks.1 V28 L) H := by rw [hV28]; exact hP
        have hD : va_D A (mw ad kk ks.1 V28 L) := by rw [hV28]; exact hD
        have hMV28 : rgd bM V28 := hMV24.put hV28 (nar_b _)
        have agV28 : agr [(0, 7), (0, 8)] [27, 28, 29, 30, 31, 35, 36, 37, 38] V V28 := agV24.up hV28 rfl
        refine lv_aload_n hx hb dX12_takeNeed_61 rfl (lv_at hl 1 rfl) ?_
        refine va_get (D := D) (ci := 12) (v := .ref (ad 28)) (C := RX12) (T := TX12) (N := 100) hx hb hg inX12 hown hK hP 0 rfl rfl 28 (by decide) (hg _ w1734) (fun _ h9 => h9) rfl dX12_takeNeed_62 ?_
        refine lv_iload_n hx hb dX12_takeNeed_65 rfl (lv_at hl 0 rfl) ?_
        refine lv_aload_n hx hb dX12_takeNeed_66 rfl (lv_at hl 1 rfl) ?_
        have rl29 : RelM V28 L bq gn gT (nx gs 1) gl := RelM.ag rl17 (show agr [] [29, 30] V13 V28 from (agr.up (agr.up agr.rf hV24 rfl) hV28 rfl)) (by decide) (show agL [] L L from agL.rf) (by decide)
        refine gA_int (gA_runV (As := []) (rest := [.int z7, .ref (ad 28)]) (ci := 12) (q0 := 0) hx hb hml hown hg hP hD hK hS hA hnw hgk (s_takeTypeA l D ks H.size ad kk V28 L (bq) (gn) (gT) ((nx gs 1)) (gl) hMV28 rl29) w2059 w2061 w92 w172 w2062 rfl rfl hdV_yX12_takeType ⟨Nat.le_of_ble_eq_true rfl, Nat.le_of_ble_eq_true rfl⟩ rfl hl.1 rfl (Nat.le_of_ble_eq_true rfl) dX12_takeNeed_67 ⟨Nat.le_of_ble_eq_true rfl, Nat.le_of_ble_eq_true rfl⟩) hP hD hK hS hA (fun z30 u31 H locs w32 hP hD hK hS => ?_)
        obtain ⟨V34, L35⟩ := u31
        obtain ⟨hMV34, ajV34, axL35, rgz30, t33⟩ := w32
        have axL35 : L = L35 := Eq.symm axL35
        subst axL35
        have hP : va_P D vwCl (mw ad kk ks.1 V34 L) H := hP
        have hD : va_D A (mw ad kk ks.1 V34 L) := hD
        have hMV34 : rgd bM V34 := hMV34
        have ajV34 : agr [(0, 7), (0, 8)] [] V28 V34 := ajV34
        have agV34 : agr [(0, 7), (0, 8)] [27, 28, 29, 30, 31, 35, 36, 37, 38] V V34 := agV28.tr ajV34 (by decide) (by decide)
        have rgz30 : (-1) ≤ z30.toInt ∧ z30.toInt ≤ 23 := rgz30
        have t33 : KmN (look (gT) ((nx gs 1)) (((nx gs 1)).2.1 0)) (V34 0 8).toInt (fun f9 => RelM V34 L (bq) (gn) (gT) (nx ((nx gs 1)) 1) (gl) ∧ z30.toInt = ((f9 : Nat) : Int) ∧ f9 < 24) := t33
        rcases t33 with ⟨q36, fx37, h38, rl39, hf40, hb41⟩ | ⟨q36, h38⟩
        · skip
          have hr42 : ∀ k, Rc gT (Crun gs (IneedK :: k)) (Crun (nx (nx gs 1) 1) (Icalled :: Itake 59 :: IaddNeed :: Imember :: k)) := fun k => Rc.go1 (hr20 k) (nd_0 h38)
          have ps43 : (nx (nx gs 1) 1).1 0 = (nx gs 1).1 0 + 1 := rfl
          have fz44 := RelM.rg rl39
          have r45 : 0 ≤ ((V34 0 8)).toInt ∧ ((V34 0 8)).toInt ≤ 70000 := hMV34 0 8
          refine va_iast (D := D) (i := z7) (x := z30) hx hb hK hP hD hS 21 20 rfl rfl (i_in (a := z7.toInt) rfl (by omega)) dX12_takeNeed_70 (fun H locs hP hD hS => ?_)
          obtain ⟨V46, hV46⟩ : ∃ z, z = up2 V34 28 (Int32.toNatClampNeg z7) z30 := ⟨_, rfl⟩
          have hP : va_P D vwCl (mw ad kk ks.1 V46 L) H := by rw [hV46]; exact hP
          have hD : va_D A (mw ad kk ks.1 V46 L) := by rw [hV46]; exact hD
          have hMV46 : rgd bM V46 := hMV34.put hV46 (show (-1) ≤ z30.toInt ∧ z30.toInt ≤ 23 from by omega)
          have agV46 : agr [(0, 7), (0, 8)] [27, 28, 29, 30, 31, 35, 36, 37, 38] V V46 := agV34.up hV46 rfl
          refine lv_aload_n hx hb dX12_takeNeed_71 rfl (lv_at hl 1 rfl) ?_
          refine va_get (D := D) (ci := 12) (v := .ref (ad 31)) (C := RX12) (T := TX12) (N := 100) hx hb hg inX12 hown hK hP 0 rfl rfl 31 (by decide) (hg _ w1737) (fun _ h9 => h9) rfl dX12_takeNeed_72 ?_
          refine lv_iload_n hx hb dX12_takeNeed_75 rfl (lv_at hl 0 rfl) ?_
          refine lv_aload_n hx hb dX12_takeNeed_76 rfl (lv_at hl 1 rfl) ?_
          refine va_get (D := D) (ci := 12) (v := .ref (ad 30)) (C := RX12) (T := TX12) (N := 100) hx hb hg inX12 hown hK hP 0 rfl rfl 30 (by decide) (hg _ w1736) (fun _ h9 => h9) rfl dX12_takeNeed_77 ?_
          refine lv_iload_n hx hb dX12_takeNeed_80 rfl (lv_at hl 0 rfl) ?_
          refine va_zald (D := D) (i := z7) hx hb hK hP 23 22 rfl rfl (i_in (a := z7.toInt) rfl (by omega)) dX12_takeNeed_81 ?_
          refine g_top (v := (vp_nar .boolean 0)) ((up2_o hV46 (by decide)).trans ((ajV34 30 (Int32.toNatClampNeg z7) rfl).trans (up2_s hV28))) ?_
          have nr47 : (vp_nar .boolean 0).toInt = 0 := by decide
          refine lv_if_ne (tgt := 108) hx hb dX12_takeNeed_82 (by decide) (fun c48 => ?_) (fun c48 => ?_)
          · skip
            have f49 : ((vp_nar .boolean 0)).toInt ≠ 0 := b_neq rfl (by decide) c48
            exfalso; omega
          · skip
            have f50 : ((vp_nar .boolean 0)).toInt = 0 := b_eq rfl (by decide) c48
            refine lv_aload_n hx hb dX12_takeNeed_85 rfl (lv_at hl 1 rfl) ?_
            refine lv_iconst (v := 5) hx hb dX12_takeNeed_86 (by decide) ?_
            have rl51 : RelM V46 L bq gn gT (nx (nx gs 1) 1) gl := RelM.ag rl39 (show agr [] [28] V34 V46 from (agr.up agr.rf hV46 rfl)) (by decide) (show agL [] L L from agL.rf) (by decide)
            have r52 : Int32.toInt 5 = 5 := by decide
            refine gA_int (gA_runV (As := [.int 5]) (rest := [.int z7, .ref (ad 31)]) (ci := 12) (q0 := 0) hx hb hml hown hg hP hD hK hS hA hnw hgk (s_hasWordA l D ks H.size ad kk V46 L 5 (bq) (gn) (gT) ((nx (nx gs 1) 1)) (gl) hMV46 (by decide) rl51) w2051 w2053 w90 w172 w2054 rfl rfl hdV_yX12_hasWord ⟨Nat.le_of_ble_eq_true rfl, Nat.le_of_ble_eq_true rfl⟩ rfl hl.1 rfl (Nat.le_of_ble_eq_true rfl) dX12_takeNeed_87 ⟨Nat.le_of_ble_eq_true rfl, Nat.le_of_ble_eq_true rfl⟩) hP hD hK hS hA (fun z53 u54 H locs w55 hP hD hK hS => ?_)
            obtain ⟨V57, L58⟩ := u54
            obtain ⟨hMV57, ajV57, axL58, rgz53, t56⟩ := w55
            have axL58 : L = L58 := Eq.symm axL58
            subst axL58
            have hP : va_P D vwCl (mw ad kk ks.1 V57 L) H := hP
            have hD : va_D A (mw ad kk ks.1 V57 L) := hD
            have hMV57 : rgd bM V57 := hMV57
            have ajV57 : agr [(0, 7)] [] V46 V57 := ajV57
            have agV57 : agr [(0, 7), (0, 8)] [27, 28, 29, 30, 31, 35, 36, 37, 38] V V57 := agV46.tr ajV57 (by decide) (by decide)
            have rgz53 : 0 ≤ z53.toInt ∧ z53.toInt ≤ 1 := rgz53
            have t56 : (z53.toInt = 1 ∧ (gT).1 (((nx (nx gs 1) 1)).1 0) = 128 + (Int32.toInt 5) ∧ RelM V57 L (bq) (gn) (gT) (nx ((nx (nx gs 1) 1)) 1) (gl)) ∨ (z53.toInt = 0 ∧ (gT).1 (((nx (nx gs 1) 1)).1 0) ≠ 128 + (Int32.toInt 5) ∧ RelM V57 L (bq) (gn) (gT) ((nx (nx gs 1) 1)) (gl)) := t56
            rcases t56 with ⟨q59, h60, rl61⟩ | ⟨q59, h60, rl61⟩
            · skip
              have kd62 : gT.1 ((nx (nx gs 1) 1).1 0) = 133 := h60.trans (by decide)
              have hr63 : ∀ k, Rc gT (Crun gs (IneedK :: k)) (Crun (nx (nx (nx gs 1) 1) 1) (Iword :: Itake 59 :: IaddNeed :: Imember :: k)) := fun k => Rc.go1 (hr42 k) (called_y  kd62)
              have ps64 : (nx (nx (nx gs 1) 1) 1).1 0 = (nx (nx gs 1) 1).1 0 + 1 := rfl
              have fz65 := RelM.rg rl61
              have pq66 : (V57 0 8).toInt = ((V34 0 8)).toInt := congrArg Int32.toInt ((ajV57 0 8 rfl).trans (up2_o hV46 (by decide)))
              refine lv_if_eq (tgt := 108) hx hb dX12_takeNeed_90 (by decide) (fun c67 => ?_) (fun c67 => ?_)
              · skip
                have f68 : z53.toInt = 0 := b_eq rfl (by decide) c67
                exfalso; omega
              · skip
                have f69 : z53.toInt ≠ 0 := b_neq rfl (by decide) c67
                refine lv_aload_n hx hb dX12_takeNeed_93 rfl (lv_at hl 1 rfl) ?_
                refine lv_aload_n hx hb dX12_takeNeed_94 rfl (lv_at hl 1 rfl) ?_
                refine va_get (D := D) (ci := 12) (v := .ref (ad 38)) (C := RX12) (T := TX12) (N := 100) hx hb hg inX12 hown hK hP 0 rfl rfl 38 (by decide) (hg _ w1744) (fun _ h9 => h9) rfl dX12_takeNeed_95 ?_
                refine lv_aload_n hx hb dX12_takeNeed_98 rfl (lv_at hl 1 rfl) ?_
                refine va_get (D := D) (ci := 12) (v := .ref (ad 37)) (C := RX12) (T := TX12) (N := 100) hx hb hg inX12 hown hK hP 0 rfl rfl 37 (by decide) (hg _ w1743) (fun _ h9 => h9) rfl dX12_takeNeed_99 ?_
                refine gA_int (gA_runV (As := [.ref (ad 38), .ref (ad 37)]) (rest := [.int z7, .ref (ad 31)]) (ci := 12) (q0 := 0) hx hb hml hown hg hP hD hK hS hA hnw hgk (s_takeWordOf4 l D ks H.size ad kk V57 L (bq) (gn) (gT) ((nx (nx (nx gs 1) 1) 1)) (gl) hMV57 rl61) w2100 w2102 w102 w172 w2103 rfl rfl hdV_yX12_takeWordOf ⟨Nat.le_of_ble_eq_true rfl, Nat.le_of_ble_eq_true rfl⟩ rfl hl.1 rfl (Nat.le_of_ble_eq_true rfl) dX12_takeNeed_102 ⟨Nat.le_of_ble_eq_true rfl, Nat.le_of_ble_eq_true rfl⟩) hP hD hK hS hA (fun z70 u71 H locs w72 hP hD hK hS => ?_)
                obtain ⟨V74, L75⟩ := u71
                obtain ⟨hMV74, ajV74, axL75, rgz70, t73⟩ := w72
                have alL75 : agL [27, 28, 29, 30, 31, 35, 36, 37, 38] L L75 := agL.tr alL axL75 (by decide)
                have hP : va_P D vwCl (mw ad kk ks.1 V74 L75) H := hP
                have hD : va_D A (mw ad kk ks.1 V74 L75) := hD
                have hMV74 : rgd bM V74 := hMV74
                have ajV74 : agr [(0, 7), (0, 8)] [35, 36, 37, 38] V57 V74 := ajV74
                have agV74 : agr [(0, 7), (0, 8)] [27, 28, 29, 30, 31, 35, 36, 37, 38] V V74 := agV57.tr ajV74 (by decide) (by decide)
                have rgz70 : (-1) ≤ z70.toInt ∧ z70.toInt ≤ 19 := rgz70
                have t73 : KmS (mthW (gT) ((nx (nx (nx gs 1) 1) 1)) 4) (V74 0 8).toInt (fun x9 => RelM V74 L75 (bq) (gn) (gT) x9.2 (gl) ∧ z70.toInt = ((x9.1 : Nat) : Int) ∧ x9.1 < 20 ∧ keepS ((nx (nx (nx gs 1) 1) 1)) 1 x9.2 ∧ MTX (gT) ((nx (nx (nx gs 1) 1) 1)) 4 x9) := t73
                rcases t73 with ⟨q76, mx77, h78, rl79, hf80, hb81, kp82, mt83⟩ | ⟨q76, h78⟩
                · skip
                  have ps84 := kp82.1
                  have hr85 : ∀ k, Rc gT (Crun gs (IneedK :: k)) (Crun mx77.2 (Itake 59 :: IaddNeed :: Imember :: k)) := fun k => Rc.go1 (hr63 k) (wo_y h78)
                  have fz86 := RelM.rg rl79
                  have r87 : 0 ≤ ((V74 0 8)).toInt ∧ ((V74 0 8)).toInt ≤ 70000 := hMV74 0 8
                  refine lv_goto (tgt := 109) hx hb dX12_takeNeed_105 (by decide) ?_
                  refine va_iast (D := D) (i := z7) (x := z70) hx hb hK hP hD hS 24 23 rfl rfl (i_in (a := z7.toInt) rfl (by omega)) dX12_takeNeed_109 (fun H locs hP hD hS => ?_)
                  obtain ⟨V88, hV88⟩ : ∃ z, z = up2 V74 31 (Int32.toNatClampNeg z7) z70 := ⟨_, rfl⟩
                  have hP : va_P D vwCl (mw ad kk ks.1 V88 L75) H := by rw [hV88]; exact hP
                  have hD : va_D A (mw ad kk ks.1 V88 L75) := by rw [hV88]; exact hD
                  have hMV88 : rgd bM V88 := hMV74.put hV88 (i_full _)
                  have agV88 : agr [(0, 7), (0, 8)] [27, 28, 29, 30, 31, 35, 36, 37, 38] V V88 := agV74.up hV88 rfl
                  refine lv_aload_n hx hb dX12_takeNeed_110 rfl (lv_at hl 1 rfl) ?_
                  refine va_get (D := D) (ci := 12) (v := .ref (ad 27)) (C := RX12) (T := TX12) (N := 100) hx hb hg inX12 hown hK hP 0 rfl rfl 27 (by decide) (hg _ w1733) (fun _ h9 => h9) rfl dX12_takeNeed_111 ?_
                  refine lv_iload_n hx hb dX12_takeNeed_114 rfl (lv_at hl 2 rfl) ?_
                  refine lv_dup2_11 hx hb dX12_takeNeed_115 rfl rfl ?_
                  refine va_iald (D := D) (i := p0) hx hb hK hP 20 19 rfl rfl (i_in (a := p0.toInt) rfl (by omega)) dX12_takeNeed_116 ?_
                  refine g_top (v := (V 27 (Int32.toNatClampNeg p0))) ((up2_o hV88 (by decide)).trans ((ajV74 27 (Int32.toNatClampNeg p0) rfl).trans ((ajV57 27 (Int32.toNatClampNeg p0) rfl).trans ((up2_o hV46 (by decide)).trans ((ajV34 27 (Int32.toNatClampNeg p0) rfl).trans ((up2_o hV28 (by decide)).trans ((up2_o hV24 (by decide)).trans (ajV13 27 (Int32.toNatClampNeg p0) rfl)))))))) ?_
                  refine lv_iconst (v := 1) hx hb dX12_takeNeed_117 (by decide) ?_
                  refine lv_iadd hx hb dX12_takeNeed_118 ?_
                  refine lv_topi (fun z89 ez89 => ?_)
                  have hz89 : z89.toInt = ((V 27 (Int32.toNatClampNeg p0))).toInt + 1 := i_add ez89 rfl (by decide) (by omega)
                  refine va_iast (D := D) (i := p0) (x := z89) hx hb hK hP hD hS 20 19 rfl rfl (i_in (a := p0.toInt) rfl (by omega)) dX12_takeNeed_119 (fun H locs hP hD hS => ?_)
                  obtain ⟨V90, hV90⟩ : ∃ z, z = up2 V88 27 (Int32.toNatClampNeg p0) z89 := ⟨_, rfl⟩
                  have hP : va_P D vwCl (mw ad kk ks.1 V90 L75) H := by rw [hV90]; exact hP
                  have hD : va_D A (mw ad kk ks.1 V90 L75) := by rw [hV90]; exact hD
                  have hMV90 : rgd bM V90 := hMV88.put hV90 (show 0 ≤ z89.toInt ∧ z89.toInt ≤ 8 from by omega)
                  have agV90 : agr [(0, 7), (0, 8)] [27, 28, 29, 30, 31, 35, 36, 37, 38] V V90 := agV88.up hV90 rfl
                  have pq91 : (V90 27 (Int32.toNatClampNeg p0)).toInt = z89.toInt := congrArg Int32.toInt (up2_s hV90)
                  have rl92 : RelM V90 L75 bq gn gT mx77.2 gl := RelM.ag rl79 (show agr [] [27, 31] V74 V90 from (agr.up (agr.up agr.rf hV88 rfl) hV90 rfl)) (by decide) (show agL [] L75 L75 from agL.rf) (by decide)
                  exact W.vret hx hb hr (fun t ht hW => ⟨⟨(V90, L75), rfl, ⟨hMV90, agV90, alL75, (show (V90 27 gc).toInt = (V 27 gc).toInt + 1 from by rw [← kgc]; omega), (Or.inl ⟨W0 rl92, mx77.2, hr85, rl92, keepS.le (keepS.tr (keepS.tr (keepS.tr (keepS.tr (keepS.rf : keepS gs 0 gs) (keepS.n1 1)) (keepS.n1 1)) (keepS.n1 1)) kp82) (by decide)⟩)⟩, by rw [ht]; exact hP, va_K.moved hW.alike hK, hD⟩, hS.F ht⟩) hS.2.2 dX12_takeNeed_120
                · skip
                  have hb93 : ∀ k, Rc gT (Crun gs (IneedK :: k)) (Cbad (V74 0 8).toInt) := fun k => Rc.go1 (hr63 k) (wo_b h78)
                  have r94 : 0 ≤ ((V74 0 8)).toInt ∧ ((V74 0 8)).toInt ≤ 70000 := hMV74 0 8
                  refine lv_goto (tgt := 109) hx hb dX12_takeNeed_105 (by decide) ?_
                  refine va_iast (D := D) (i := z7) (x := z70) hx hb hK hP hD hS 24 23 rfl rfl (i_in (a := z7.toInt) rfl (by omega)) dX12_takeNeed_109 (fun H locs hP hD hS => ?_)
                  obtain ⟨V95, hV95⟩ : ∃ z, z = up2 V74 31 (Int32.toNatClampNeg z7) z70 := ⟨_, rfl⟩
                  have hP : va_P D vwCl (mw ad kk ks.1 V95 L75) H := by rw [hV95]; exact hP
                  have hD : va_D A (mw ad kk ks.1 V95 L75) := by rw [hV95]; exact hD
                  have hMV95 : rgd bM V95 := hMV74.put hV95 (i_full _)
                  have agV95 : agr [(0, 7), (0, 8)] [27, 28, 29, 30, 31, 35, 36, 37, 38] V V95 := agV74.up hV95 rfl
                  refine lv_aload_n hx hb dX12_takeNeed_110 rfl (lv_at hl 1 rfl) ?_
                  refine va_get (D := D) (ci := 12) (v := .ref (ad 27)) (C := RX12) (T := TX12) (N := 100) hx hb hg inX12 hown hK hP 0 rfl rfl 27 (by decide) (hg _ w1733) (fun _ h9 => h9) rfl dX12_takeNeed_111 ?_
                  refine lv_iload_n hx hb dX12_takeNeed_114 rfl (lv_at hl 2 rfl) ?_
                  refine lv_dup2_11 hx hb dX12_takeNeed_115 rfl rfl ?_
                  refine va_iald (D := D) (i := p0) hx hb hK hP 20 19 rfl rfl (i_in (a := p0.toInt) rfl (by omega)) dX12_takeNeed_116 ?_
                  refine g_top (v := (V 27 (Int32.toNatClampNeg p0))) ((up2_o hV95 (by decide)).trans ((ajV74 27 (Int32.toNatClampNeg p0) rfl).trans ((ajV57 27 (Int32.toNatClampNeg p0) rfl).trans ((up2_o hV46 (by decide)).trans ((ajV34 27 (Int32.toNatClampNeg p0) rfl).trans ((up2_o hV28 (by decide)).trans ((up2_o hV24 (by decide)).trans (ajV13 27 (Int32.toNatClampNeg p0) rfl)))))))) ?_
                  refine lv_iconst (v := 1) hx hb dX12_takeNeed_117 (by decide) ?_
                  refine lv_iadd hx hb dX12_takeNeed_118 ?_
                  refine lv_topi (fun z96 ez96 => ?_)
                  have hz96 : z96.toInt = ((V 27 (Int32.toNatClampNeg p0))).toInt + 1 := i_add ez96 rfl (by decide) (by omega)
                  refine va_iast (D := D) (i := p0) (x := z96) hx hb hK hP hD hS 20 19 rfl rfl (i_in (a := p0.toInt) rfl (by omega)) dX12_takeNeed_119 (fun H locs hP hD hS => ?_)
                  obtain ⟨V97, hV97⟩ : ∃ z, z = up2 V95 27 (Int32.toNatClampNeg p0) z96 := ⟨_, rfl⟩
                  have hP : va_P D vwCl (mw ad kk ks.1 V97 L75) H := by rw [hV97]; exact hP
                  have hD : va_D A (mw ad kk ks.1 V97 L75) := by rw [hV97]; exact hD
                  have hMV97 : rgd bM V97 := hMV95.put hV97 (show 0 ≤ z96.toInt ∧ z96.toInt ≤ 8 from by omega)
                  have agV97 : agr [(0, 7), (0, 8)] [27, 28, 29, 30, 31, 35, 36, 37, 38] V V97 := agV95.up hV97 rfl
                  have pq98 : (V97 27 (Int32.toNatClampNeg p0)).toInt = z96.toInt := congrArg Int32.toInt (up2_s hV97)
                  have pq99 : (V97 0 8).toInt = ((V74 0 8)).toInt := congrArg Int32.toInt ((up2_o hV97 (by decide)).trans (up2_o hV95 (by decide)))
                  exact W.vret hx hb hr (fun t ht hW => ⟨⟨(V97, L75), rfl, ⟨hMV97, agV97, alL75, (show (V97 27 gc).toInt = (V 27 gc).toInt + 1 from by rw [← kgc]; omega), (Or.inr ⟨(show 1 ≤ (V97 0 8).toInt from by omega), (fun k => by rw [show (V97 0 8).toInt = (V74 0 8).toInt from by omega]; exact hb93 k)⟩)⟩, by rw [ht]; exact hP, va_K.moved hW.alike hK, hD⟩, hS.F ht⟩) hS.2.2 dX12_takeNeed_120
            · skip
              have kd100 : gT.1 ((nx (nx gs 1) 1).1 0) ≠ 133 := fun h9 => h60 (h9.trans (by decide))
              have fz101 := RelM.rg rl61
              have pq102 : (V57 0 8).toInt = ((V34 0 8)).toInt := congrArg Int32.toInt ((ajV57 0 8 rfl).trans (up2_o hV46 (by decide)))
              refine lv_if_eq (tgt := 108) hx hb dX12_takeNeed_90 (by decide) (fun c103 => ?_) (fun c103 => ?_)
              · skip
                have f104 : z53.toInt = 0 := b_eq rfl (by decide) c103
                refine lv_iconst (v := (-1)) hx hb dX12_takeNeed_108 (by decide) ?_
                refine va_iast (D := D) (i := z7) (x := (-1)) hx hb hK hP hD hS 24 23 rfl rfl (i_in (a := z7.toInt) rfl (by omega)) dX12_takeNeed_109 (fun H locs hP hD hS => ?_)
                obtain ⟨V105, hV105⟩ : ∃ z, z = up2 V57 31 (Int32.toNatClampNeg z7) (-1) := ⟨_, rfl⟩
                have hP : va_P D vwCl (mw ad kk ks.1 V105 L) H := by rw [hV105]; exact hP
                have hD : va_D A (mw ad kk ks.1 V105 L) := by rw [hV105]; exact hD
                have hMV105 : rgd bM V105 := hMV57.put hV105 (i_full _)
                have agV105 : agr [(0, 7), (0, 8)] [27, 28, 29, 30, 31, 35, 36, 37, 38] V V105 := agV57.up hV105 rfl
                refine lv_aload_n hx hb dX12_takeNeed_110 rfl (lv_at hl 1 rfl) ?_
                refine va_get (D := D) (ci := 12) (v := .ref (ad 27)) (C := RX12) (T := TX12) (N := 100) hx hb hg inX12 hown hK hP 0 rfl rfl 27 (by decide) (hg _ w1733) (fun _ h9 => h9) rfl dX12_takeNeed_111 ?_
                refine lv_iload_n hx hb dX12_takeNeed_114 rfl (lv_at hl 2 rfl) ?_
                refine lv_dup2_11 hx hb dX12_takeNeed_115 rfl rfl ?_
                refine va_iald (D := D) (i := p0) hx hb hK hP 20 19 rfl rfl (i_in (a := p0.toInt) rfl (by omega)) dX12_takeNeed_116 ?_
                refine g_top (v := (V 27 (Int32.toNatClampNeg p0))) ((up2_o hV105 (by decide)).trans ((ajV57 27 (Int32.toNatClampNeg p0) rfl).trans ((up2_o hV46 (by decide)).trans ((ajV34 27 (Int32.toNatClampNeg p0) rfl).trans ((up2_o hV28 (by decide)).trans ((up2_o hV24 (by decide)).trans (ajV13 27 (Int32.toNatClampNeg p0) rfl))))))) ?_
                refine lv_iconst (v := 1) hx hb dX12_takeNeed_117 (by decide) ?_
                refine lv_iadd hx hb dX12_takeNeed_118 ?_
                refine lv_topi (fun z106 ez106 => ?_)
                have hz106 : z106.toInt = ((V 27 (Int32.toNatClampNeg p0))).toInt + 1 := i_add ez106 rfl (by decide) (by omega)
                refine va_iast (D := D) (i := p0) (x := z106) hx hb hK hP hD hS 20 19 rfl rfl (i_in (a := p0.toInt) rfl (by omega)) dX12_takeNeed_119 (fun H locs hP hD hS => ?_)
                obtain ⟨V107, hV107⟩ : ∃ z, z = up2 V105 27 (Int32.toNatClampNeg p0) z106 := ⟨_, rfl⟩
                have hP : va_P D vwCl (mw ad kk ks.1 V107 L) H := by rw [hV107]; exact hP
                have hD : va_D A (mw ad kk ks.1 V107 L) := by rw [hV107]; exact hD
                have hMV107 : rgd bM V107 := hMV105.put hV107 (show 0 ≤ z106.toInt ∧ z106.toInt ≤ 8 from by omega)
                have agV107 : agr [(0, 7), (0, 8)] [27, 28, 29, 30, 31, 35, 36, 37, 38] V V107 := agV105.up hV107 rfl
                have pq108 : (V107 27 (Int32.toNatClampNeg p0)).toInt = z106.toInt := congrArg Int32.toInt (up2_s hV107)
                have hr109 : ∀ k, Rc gT (Crun gs (IneedK :: k)) (Crun (nx (nx gs 1) 1) (Itake 59 :: IaddNeed :: Imember :: k)) := fun k => Rc.go1 (hr42 k) (called_n  kd100)
                have rl110 : RelM V107 L bq gn gT (nx (nx gs 1) 1) gl := RelM.ag rl61 (show agr [] [27, 31] V57 V107 from (agr.up (agr.up agr.rf hV105 rfl) hV107 rfl)) (by decide) (show agL [] L L from agL.rf) (by decide)
                exact W.vret hx hb hr (fun t ht hW => ⟨⟨(V107, L), rfl, ⟨hMV107, agV107, alL, (show (V107 27 gc).toInt = (V 27 gc).toInt + 1 from by rw [← kgc]; omega), (Or.inl ⟨W0 rl110, (nx (nx gs 1) 1), hr109, rl110, keepS.le (keepS.tr (keepS.tr (keepS.rf : keepS gs 0 gs) (keepS.n1 1)) (keepS.n1 1)) (by decide)⟩)⟩, by rw [ht]; exact hP, va_K.moved hW.alike hK, hD⟩, hS.F ht⟩) hS.2.2 dX12_takeNeed_120
              · skip
                have f111 : z53.toInt ≠ 0 := b_neq rfl (by decide) c103
                exfalso; omega
        · skip
          have hb112 : ∀ k, Rc gT (Crun gs (IneedK :: k)) (Cbad (V34 0 8).toInt) := fun k => Rc.go1 (hr20 k) (nd_b h38)
          have r113 : 0 ≤ ((V34 0 8)).toInt ∧ ((V34 0 8)).toInt ≤ 70000 := hMV34 0 8
          refine va_iast (D := D) (i := z7) (x := z30) hx hb hK hP hD hS 21 20 rfl rfl (i_in (a := z7.toInt) rfl (by omega)) dX12_takeNeed_70 (fun H locs hP hD hS => ?_)
          obtain ⟨V114, hV114⟩ : ∃ z, z = up2 V34 28 (Int32.toNatClampNeg z7) z30 := ⟨_, rfl⟩
          have hP : va_P D vwCl (mw ad kk ks.1 V114 L) H := by rw [hV114]; exact hP
          have hD : va_D A (mw ad kk ks.1 V114 L) := by rw [hV114]; exact hD
          have hMV114 : rgd bM V114 := hMV34.put hV114 (show (-1) ≤ z30.toInt ∧ z30.toInt ≤ 23 from by omega)
          have agV114 : agr [(0, 7), (0, 8)] [27, 28, 29, 30, 31, 35, 36, 37, 38] V V114 := agV34.up hV114 rfl
          refine lv_aload_n hx hb dX12_takeNeed_71 rfl (lv_at hl 1 rfl) ?_
          refine va_get (D := D) (ci := 12) (v := .ref (ad 31)) (C := RX12) (T := TX12) (N := 100) hx hb hg inX12 hown hK hP 0 rfl rfl 31 (by decide) (hg _ w1737) (fun _ h9 => h9) rfl dX12_takeNeed_72 ?_
          refine lv_iload_n hx hb dX12_takeNeed_75 rfl (lv_at hl 0 rfl) ?_
          refine lv_aload_n hx hb dX12_takeNeed_76 rfl (lv_at hl 1 rfl) ?_
          refine va_get (D := D) (ci := 12) (v := .ref (ad 30)) (C := RX12) (T := TX12) (N := 100) hx hb hg inX12 hown hK hP 0 rfl rfl 30 (by decide) (hg _ w1736) (fun _ h9 => h9) rfl dX12_takeNeed_77 ?_
          refine lv_iload_n hx hb dX12_takeNeed_80 rfl (lv_at hl 0 rfl) ?_
          refine va_zald (D := D) (i := z7) hx hb hK hP 23 22 rfl rfl (i_in (a := z7.toInt) rfl (by omega)) dX12_takeNeed_81 ?_
          refine g_top (v := (vp_nar .boolean 0)) ((up2_o hV114 (by decide)).trans ((ajV34 30 (Int32.toNatClampNeg z7) rfl).trans (up2_s hV28))) ?_
          have nr115 : (vp_nar .boolean 0).toInt = 0 := by decide
          refine lv_if_ne (tgt := 108) hx hb dX12_takeNeed_82 (by decide) (fun c116 => ?_) (fun c116 => ?_)
          · skip
            have f117 : ((vp_nar .boolean 0)).toInt ≠ 0 := b_neq rfl (by decide) c116
            exfalso; omega
          · skip
            have f118 : ((vp_nar .boolean 0)).toInt = 0 := b_eq rfl (by decide) c116
            refine lv_aload_n hx hb dX12_takeNeed_85 rfl (lv_at hl 1 rfl) ?_
            refine lv_iconst (v := 5) hx hb dX12_takeNeed_86 (by decide) ?_
            have r119 : Int32.toInt 5 = 5 := by decide
            have pq120 : (V114 0 8).toInt = ((V34 0 8)).toInt := congrArg Int32.toInt (up2_o hV114 (by decide))
            refine gA_int (gA_runV (As := [.int 5]) (rest := [.int z7, .ref (ad 31)]) (ci := 12) (q0 := 0) hx hb hml hown hg hP hD hK hS hA hnw hgk (s_hasWordB l D ks H.size ad kk V114 L 5 hMV114 (by decide) (show 1 ≤ (V114 0 8).toInt from by omega)) w2051 w2053 w90 w172 w2054 rfl rfl hdV_yX12_hasWord ⟨Nat.le_of_ble_eq_true rfl, Nat.le_of_ble_eq_true rfl⟩ rfl hl.1 rfl (Nat.le_of_ble_eq_true rfl) dX12_takeNeed_87 ⟨Nat.le_of_ble_eq_true rfl, Nat.le_of_ble_eq_true rfl⟩) hP hD hK hS hA (fun z121 u122 H locs w123 hP hD hK hS => ?_)
            obtain ⟨V125, L126⟩ := u122
            obtain ⟨hMV125, ajV125, axL126, rgz121, t124⟩ := w123
            have axL126 : L = L126 := Eq.symm axL126
            subst axL126
            have hP : va_P D vwCl (mw ad kk ks.1 V125 L) H := hP
            have hD : va_D A (mw ad kk ks.1 V125 L) := hD
            have hMV125 : rgd bM V125 := hMV125
            have ajV125 : agr [(0, 7)] [] V114 V125 := ajV125
            have agV125 : agr [(0, 7), (0, 8)] [27, 28, 29, 30, 31, 35, 36, 37, 38] V V125 := agV114.tr ajV125 (by decide) (by decide)
            have rgz121 : 0 ≤ z121.toInt ∧ z121.toInt ≤ 0 := rgz121
            have t124 : (V125 0 8).toInt = (V114 0 8).toInt := t124
            have pq127 : (V125 0 8).toInt = ((V34 0 8)).toInt := congrArg Int32.toInt ((ajV125 0 8 rfl).trans (up2_o hV114 (by decide)))
            refine lv_if_eq (tgt := 108) hx hb dX12_takeNeed_90 (by decide) (fun c128 => ?_) (fun c128 => ?_)
            · skip
              have f129 : z121.toInt = 0 := b_eq rfl (by decide) c128
              refine lv_iconst (v := (-1)) hx hb dX12_takeNeed_108 (by decide) ?_
              refine va_iast (D := D) (i := z7) (x := (-1)) hx hb hK hP hD hS 24 23 rfl rfl (i_in (a := z7.toInt) rfl (by omega)) dX12_takeNeed_109 (fun H locs hP hD hS => ?_)
              obtain ⟨V130, hV130⟩ : ∃ z, z = up2 V125 31 (Int32.toNatClampNeg z7) (-1) := ⟨_, rfl⟩
              have hP : va_P D vwCl (mw ad kk ks.1 V130 L) H := by rw [hV130]; exact hP
              have hD : va_D A (mw ad kk ks.1 V130 L) := by rw [hV130]; exact hD
              have hMV130 : rgd bM V130 := hMV125.put hV130 (i_full _)
              have agV130 : agr [(0, 7), (0, 8)] [27, 28, 29, 30, 31, 35, 36, 37, 38] V V130 := agV125.up hV130 rfl
              refine lv_aload_n hx hb dX12_takeNeed_110 rfl (lv_at hl 1 rfl) ?_
              refine va_get (D := D) (ci := 12) (v := .ref (ad 27)) (C := RX12) (T := TX12) (N := 100) hx hb hg inX12 hown hK hP 0 rfl rfl 27 (by decide) (hg _ w1733) (fun _ h9 => h9) rfl dX12_takeNeed_111 ?_
              refine lv_iload_n hx hb dX12_takeNeed_114 rfl (lv_at hl 2 rfl) ?_
              refine lv_dup2_11 hx hb dX12_takeNeed_115 rfl rfl ?_
              refine va_iald (D := D) (i := p0) hx hb hK hP 20 19 rfl rfl (i_in (a := p0.toInt) rfl (by omega)) dX12_takeNeed_116 ?_
              refine g_top (v := (V 27 (Int32.toNatClampNeg p0))) ((up2_o hV130 (by decide)).trans ((ajV125 27 (Int32.toNatClampNeg p0) rfl).trans ((up2_o hV114 (by decide)).trans ((ajV34 27 (Int32.toNatClampNeg p0) rfl).trans ((up2_o hV28 (by decide)).trans ((up2_o hV24 (by decide)).trans (ajV13 27 (Int32.toNatClampNeg p0) rfl))))))) ?_
              refine lv_iconst (v := 1) hx hb dX12_takeNeed_117 (by decide) ?_
              refine lv_iadd hx hb dX12_takeNeed_118 ?_
              refine lv_topi (fun z131 ez131 => ?_)
              have hz131 : z131.toInt = ((V 27 (Int32.toNatClampNeg p0))).toInt + 1 := i_add ez131 rfl (by decide) (by omega)
              refine va_iast (D := D) (i := p0) (x := z131) hx hb hK hP hD hS 20 19 rfl rfl (i_in (a := p0.toInt) rfl (by omega)) dX12_takeNeed_119 (fun H locs hP hD hS => ?_)
              obtain ⟨V132, hV132⟩ : ∃ z, z = up2 V130 27 (Int32.toNatClampNeg p0) z131 := ⟨_, rfl⟩
              have hP : va_P D vwCl (mw ad kk ks.1 V132 L) H := by rw [hV132]; exact hP
              have hD : va_D A (mw ad kk ks.1 V132 L) := by rw [hV132]; exact hD
              have hMV132 : rgd bM V132 := hMV130.put hV132 (show 0 ≤ z131.toInt ∧ z131.toInt ≤ 8 from by omega)
              have agV132 : agr [(0, 7), (0, 8)] [27, 28, 29, 30, 31, 35, 36, 37, 38] V V132 := agV130.up hV132 rfl
              have pq133 : (V132 27 (Int32.toNatClampNeg p0)).toInt = z131.toInt := congrArg Int32.toInt (up2_s hV132)
              have pq134 : (V132 0 8).toInt = ((V34 0 8)).toInt := congrArg Int32.toInt ((up2_o hV132 (by decide)).trans ((up2_o hV130 (by decide)).trans ((ajV125 0 8 rfl).trans (up2_o hV114 (by decide)))))
              exact W.vret hx hb hr (fun t ht hW => ⟨⟨(V132, L), rfl, ⟨hMV132, agV132, alL, (show (V132 27 gc).toInt = (V 27 gc).toInt + 1 from by rw [← kgc]; omega), (Or.inr ⟨(show 1 ≤ (V132 0 8).toInt from by omega), (fun k => by rw [show (V132 0 8).toInt = (V34 0 8).toInt from by omega]; exact hb112 k)⟩)⟩, by rw [ht]; exact hP, va_K.moved hW.alike hK, hD⟩, hS.F ht⟩) hS.2.2 dX12_takeNeed_120
            · skip
              have f135 : z121.toInt ≠ 0 := b_neq rfl (by decide) c128
              exfalso; omega
      · skip
        have f136 : ((vp_nar .boolean z9)).toInt = 0 := b_eq rfl (by decide) c26
        exfalso; omega
    · skip
      have kd137 : gT.1 (gs.1 0) ≠ 138 := fun h9 => h16 (h9.trans (by decide))
      have fz138 := RelM.rg rl17
      have pq139 : (V13 0 8).toInt = ((V 0 8)).toInt := congrArg Int32.toInt (ajV13 0 8 rfl)
      refine va_zast (D := D) (i := z7) (x := z9) hx hb hK hP hD hS 22 21 rfl rfl (i_in (a := z7.toInt) rfl (by omega)) dX12_takeNeed_31 (fun H locs hP hD hS => ?_)
      obtain ⟨V140, hV140⟩ : ∃ z, z = up2 V13 29 (Int32.toNatClampNeg z7) (vp_nar .boolean z9) := ⟨_, rfl⟩
      have hP : va_P D vwCl (mw ad kk ks.1 V140 L) H := by rw [hV140]; exact hP
      have hD : va_D A (mw ad kk ks.1 V140 L) := by rw [hV140]; exact hD
      have hMV140 : rgd bM V140 := hMV13.put hV140 (nar_b _)
      have agV140 : agr [(0, 7), (0, 8)] [27, 28, 29, 30, 31, 35, 36, 37, 38] V V140 := agV13.up hV140 rfl
      refine lv_aload_n hx hb dX12_takeNeed_32 rfl (lv_at hl 1 rfl) ?_
      refine va_get (D := D) (ci := 12) (v := .ref (ad 30)) (C := RX12) (T := TX12) (N := 100) hx hb hg inX12 hown hK hP 0 rfl rfl 30 (by decide) (hg _ w1736) (fun _ h9 => h9) rfl dX12_takeNeed_33 ?_
      refine lv_iload_n hx hb dX12_takeNeed_36 rfl (lv_at hl 0 rfl) ?_
      refine lv_aload_n hx hb dX12_takeNeed_37 rfl (lv_at hl 1 rfl) ?_
      refine va_get (D := D) (ci := 12) (v := .ref (ad 29)) (C := RX12) (T := TX12) (N := 100) hx hb hg inX12 hown hK hP 0 rfl rfl 29 (by decide) (hg _ w1735) (fun _ h9 => h9) rfl dX12_takeNeed_38 ?_
      refine lv_iload_n hx hb dX12_takeNeed_41 rfl (lv_at hl 0 rfl) ?_
      refine va_zald (D := D) (i := z7) hx hb hK hP 22 21 rfl rfl (i_in (a := z7.toInt) rfl (by omega)) dX12_takeNeed_42 ?_
      refine g_top (v := (vp_nar .boolean z9)) (up2_s hV140) ?_
      have nr141 : (vp_nar .boolean z9).toInt = z9.toInt := nar_01 (by omega)
      refine lv_if_ne (tgt := 59) hx hb dX12_takeNeed_43 (by decide) (fun c142 => ?_) (fun c142 => ?_)
      · skip
        have f143 : ((vp_nar .boolean z9)).toInt ≠ 0 := b_neq rfl (by decide) c142
        exfalso; omega
      · skip
        have f144 : ((vp_nar .boolean z9)).toInt = 0 := b_eq rfl (by decide) c142
        refine lv_aload_n hx hb dX12_takeNeed_46 rfl (lv_at hl 1 rfl) ?_
        refine lv_bipush (v := 11) hx hb dX12_takeNeed_47 (by decide) ?_
        have rl145 : RelM V140 L bq gn gT gs gl := RelM.ag rl17 (show agr [] [29] V13 V140 from (agr.up agr.rf hV140 rfl)) (by decide) (show agL [] L L from agL.rf) (by decide)
        have r146 : Int32.toInt 11 = 11 := by decide
        refine gA_int (gA_runV (As := [.int 11]) (rest := [.int z7, .ref (ad 30)]) (ci := 12) (q0 := 0) hx hb hml hown hg hP hD hK hS hA hnw hgk (s_hasWordA l D ks H.size ad kk V140 L 11 (bq) (gn) (gT) (gs) (gl) hMV140 (by decide) rl145) w2051 w2053 w90 w172 w2054 rfl rfl hdV_yX12_hasWord ⟨Nat.le_of_ble_eq_true rfl, Nat.le_of_ble_eq_true rfl⟩ rfl hl.1 rfl (Nat.le_of_ble_eq_true rfl) dX12_takeNeed_49 ⟨Nat.le_of_ble_eq_true rfl, Nat.le_of_ble_eq_true rfl⟩) hP hD hK hS hA (fun z147 u148 H locs w149 hP hD hK hS => ?_)
        obtain ⟨V151, L152⟩ := u148
        obtain ⟨hMV151, ajV151, axL152, rgz147, t150⟩ := w149
        have axL152 : L = L152 := Eq.symm axL152
        subst axL152
        have hP : va_P D vwCl (mw ad kk ks.1 V151 L) H := hP
        have hD : va_D A (mw ad kk ks.1 V151 L) := hD
        have hMV151 : rgd bM V151 := hMV151
        have ajV151 : agr [(0, 7)] [] V140 V151 := ajV151
        have agV151 : agr [(0, 7), (0, 8)] [27, 28, 29, 30, 31, 35, 36, 37, 38] V V151 := agV140.tr ajV151 (by decide) (by decide)
        have rgz147 : 0 ≤ z147.toInt ∧ z147.toInt ≤ 1 := rgz147
        have t150 : (z147.toInt = 1 ∧ (gT).1 ((gs).1 0) = 128 + (Int32.toInt 11) ∧ RelM V151 L (bq) (gn) (gT) (nx (gs) 1) (gl)) ∨ (z147.toInt = 0 ∧ (gT).1 ((gs).1 0) ≠ 128 + (Int32.toInt 11) ∧ RelM V151 L (bq) (gn) (gT) (gs) (gl)) := t150
        rcases t150 with ⟨q153, h154, rl155⟩ | ⟨q153, h154, rl155⟩
        · skip
          have kd156 : gT.1 (gs.1 0) = 139 := h154.trans (by decide)
          have hr157 : ∀ k, Rc gT (Crun gs (IneedK :: k)) (Crun gs (IneedK :: k)) := fun k => Rc.rf
          have hr158 : ∀ k, Rc gT (Crun gs (IneedK :: k)) (Crun (nx gs 1) (IneedT 1 :: k)) := fun k => Rc.go1 (hr157 k) (needK_a kd156)
          have ps159 : (nx gs 1).1 0 = gs.1 0 + 1 := rfl
          have fz160 := RelM.rg rl155
          have pq161 : (V151 0 8).toInt = ((V 0 8)).toInt := congrArg Int32.toInt ((ajV151 0 8 rfl).trans ((up2_o hV140 (by decide)).trans (ajV13 0 8 rfl)))
          refine lv_if_eq (tgt := 59) hx hb dX12_takeNeed_52 (by decide) (fun c162 => ?_) (fun c162 => ?_)
          · skip
            have f163 : z147.toInt = 0 := b_eq rfl (by decide) c162
            exfalso; omega
          · skip
            have f164 : z147.toInt ≠ 0 := b_neq rfl (by decide) c162
            refine lv_iconst (v := 1) hx hb dX12_takeNeed_55 (by decide) ?_
            refine lv_goto (tgt := 60) hx hb dX12_takeNeed_56 (by decide) ?_
            refine va_zast (D := D) (i := z7) (x := 1) hx hb hK hP hD hS 23 22 rfl rfl (i_in (a := z7.toInt) rfl (by omega)) dX12_takeNeed_60 (fun H locs hP hD hS => ?_)
            obtain ⟨V165, hV165⟩ : ∃ z, z = up2 V151 30 (Int32.toNatClampNeg z7) (vp_nar .boolean 1) := ⟨_, rfl⟩
            have hP : va_P D vwCl (mw ad kk ks.1 V165 L) H := by rw [hV165]; exact hP
            have hD : va_D A (mw ad kk ks.1 V165 L) := by rw [hV165]; exact hD
            have hMV165 : rgd bM V165 := hMV151.put hV165 (nar_b _)
            have agV165 : agr [(0, 7), (0, 8)] [27, 28, 29, 30, 31, 35, 36, 37, 38] V V165 := agV151.up hV165 rfl
            refine lv_aload_n hx hb dX12_takeNeed_61 rfl (lv_at hl 1 rfl) ?_
            refine va_get (D := D) (ci := 12) (v := .ref (ad 28)) (C := RX12) (T := TX12) (N := 100) hx hb hg inX12 hown hK hP 0 rfl rfl 28 (by decide) (hg _ w1734) (fun _ h9 => h9) rfl dX12_takeNeed_62 ?_
            refine lv_iload_n hx hb dX12_takeNeed_65 rfl (lv_at hl 0 rfl) ?_
            refine lv_aload_n hx hb dX12_takeNeed_66 rfl (lv_at hl 1 rfl) ?_
            have rl166 : RelM V165 L bq gn gT (nx gs 1) gl := RelM.ag rl155 (show agr [] [30] V151 V165 from (agr.up agr.rf hV165 rfl)) (by decide) (show agL [] L L from agL.rf) (by decide)
            refine gA_int (gA_runV (As := []) (rest := [.int z7, .ref (ad 28)]) (ci := 12) (q0 := 0) hx hb hml hown hg hP hD hK hS hA hnw hgk (s_takeTypeA l D ks H.size ad kk V165 L (bq) (gn) (gT) ((nx gs 1)) (gl) hMV165 rl166) w2059 w2061 w92 w172 w2062 rfl rfl hdV_yX12_takeType ⟨Nat.le_of_ble_eq_true rfl, Nat.le_of_ble_eq_true rfl⟩ rfl hl.1 rfl (Nat.le_of_ble_eq_true rfl) dX12_takeNeed_67 ⟨Nat.le_of_ble_eq_true rfl, Nat.le_of_ble_eq_true rfl⟩) hP hD hK hS hA (fun z167 u168 H locs w169 hP hD hK hS => ?_)
            obtain ⟨V171, L172⟩ := u168
            obtain ⟨hMV171, ajV171, axL172, rgz167, t170⟩ := w169
            have axL172 : L = L172 := Eq.symm axL172
            subst axL172
            have hP : va_P D vwCl (mw ad kk ks.1 V171 L) H := hP
            have hD : va_D A (mw ad kk ks.1 V171 L) := hD
            have hMV171 : rgd bM V171 := hMV171
            have ajV171 : agr [(0, 7), (0, 8)] [] V165 V171 := ajV171
            have agV171 : agr [(0, 7), (0, 8)] [27, 28, 29, 30, 31, 35, 36, 37, 38] V V171 := agV165.tr ajV171 (by decide) (by decide)
            have rgz167 : (-1) ≤ z167.toInt ∧ z167.toInt ≤ 23 := rgz167
            have t170 : KmN (look (gT) ((nx gs 1)) (((nx gs 1)).2.1 0)) (V171 0 8).toInt (fun f9 => RelM V171 L (bq) (gn) (gT) (nx ((nx gs 1)) 1) (gl) ∧ z167.toInt = ((f9 : Nat) : Int) ∧ f9 < 24) := t170
            rcases t170 with ⟨q173, fx174, h175, rl176, hf177, hb178⟩ | ⟨q173, h175⟩
            · skip
              have hr179 : ∀ k, Rc gT (Crun gs (IneedK :: k)) (Crun (nx (nx gs 1) 1) (Itake 59 :: IaddNeed :: Imember :: k)) := fun k => Rc.go1 (hr158 k) (nd_1 h175)
              have ps180 : (nx (nx gs 1) 1).1 0 = (nx gs 1).1 0 + 1 := rfl
              have fz181 := RelM.rg rl176
              have r182 : 0 ≤ ((V171 0 8)).toInt ∧ ((V171 0 8)).toInt ≤ 70000 := hMV171 0 8
              refine va_iast (D := D) (i := z7) (x := z167) hx hb hK hP hD hS 21 20 rfl rfl (i_in (a := z7.toInt) rfl (by omega)) dX12_takeNeed_70 (fun H locs hP hD hS => ?_)
              obtain ⟨V183, hV183⟩ : ∃ z, z = up2 V171 28 (Int32.toNatClampNeg z7) z167 := ⟨_, rfl⟩
              have hP : va_P D vwCl (mw ad kk ks.1 V183 L) H := by rw [hV183]; exact hP
              have hD : va_D A (mw ad kk ks.1 V183 L) := by rw [hV183]; exact hD
              have hMV183 : rgd bM V183 := hMV171.put hV183 (show (-1) ≤ z167.toInt ∧ z167.toInt ≤ 23 from by omega)
              have agV183 : agr [(0, 7), (0, 8)] [27, 28, 29, 30, 31, 35, 36, 37, 38] V V183 := agV171.up hV183 rfl
              refine lv_aload_n hx hb dX12_takeNeed_71 rfl (lv_at hl 1 rfl) ?_
              refine va_get (D := D) (ci := 12) (v := .ref (ad 31)) (C := RX12) (T := TX12) (N := 100) hx hb hg inX12 hown hK hP 0 rfl rfl 31 (by decide) (hg _ w1737) (fun _ h9 => h9) rfl dX12_takeNeed_72 ?_
              refine lv_iload_n hx hb dX12_takeNeed_75 rfl (lv_at hl 0 rfl) ?_
              refine lv_aload_n hx hb dX12_takeNeed_76 rfl (lv_at hl 1 rfl) ?_
              refine va_get (D := D) (ci := 12) (v := .ref (ad 30)) (C := RX12) (T := TX12) (N := 100) hx hb hg inX12 hown hK hP 0 rfl rfl 30 (by decide) (hg _ w1736) (fun _ h9 => h9) rfl dX12_takeNeed_77 ?_
              refine lv_iload_n hx hb dX12_takeNeed_80 rfl (lv_at hl 0 rfl) ?_
              refine va_zald (D := D) (i := z7) hx hb hK hP 23 22 rfl rfl (i_in (a := z7.toInt) rfl (by omega)) dX12_takeNeed_81 ?_
              refine g_top (v := (vp_nar .boolean 1)) ((up2_o hV183 (by decide)).trans ((ajV171 30 (Int32.toNatClampNeg z7) rfl).trans (up2_s hV165))) ?_
              have nr184 : (vp_nar .boolean 1).toInt = 1 := by decide
              refine lv_if_ne (tgt := 108) hx hb dX12_takeNeed_82 (by decide) (fun c185 => ?_) (fun c185 => ?_)
              · skip
                have f186 : ((vp_nar .boolean 1)).toInt ≠ 0 := b_neq rfl (by decide) c185
                refine lv_iconst (v := (-1)) hx hb dX12_takeNeed_108 (by decide) ?_
                refine va_iast (D := D) (i := z7) (x := (-1)) hx hb hK hP hD hS 24 23 rfl rfl (i_in (a := z7.toInt) rfl (by omega)) dX12_takeNeed_109 (fun H locs hP hD hS => ?_)
                obtain ⟨V187, hV187⟩ : ∃ z, z = up2 V183 31 (Int32.toNatClampNeg z7) (-1) := ⟨_, rfl⟩
                have hP : va_P D vwCl (mw ad kk ks.1 V187 L) H := by rw [hV187]; exact hP
                have hD : va_D A (mw ad kk ks.1 V187 L) := by rw [hV187]; exact hD
                have hMV187 : rgd bM V187 := hMV183.put hV187 (i_full _)
                have agV187 : agr [(0, 7), (0, 8)] [27, 28, 29, 30, 31, 35, 36, 37, 38] V V187 := agV183.up hV187 rfl
                refine lv_aload_n hx hb dX12_takeNeed_110 rfl (lv_at hl 1 rfl) ?_
                refine va_get (D := D) (ci := 12) (v := .ref (ad 27)) (C := RX12) (T := TX12) (N := 100) hx hb hg inX12 hown hK hP 0 rfl rfl 27 (by decide) (hg _ w1733) (fun _ h9 => h9) rfl dX12_takeNeed_111 ?_
                refine lv_iload_n hx hb dX12_takeNeed_114 rfl (lv_at hl 2 rfl) ?_
                refine lv_dup2_11 hx hb dX12_takeNeed_115 rfl rfl ?_
                refine va_iald (D := D) (i := p0) hx hb hK hP 20 19 rfl rfl (i_in (a := p0.toInt) rfl (by omega)) dX12_takeNeed_116 ?_
                refine g_top (v := (V 27 (Int32.toNatClampNeg p0))) ((up2_o hV187 (by decide)).trans ((up2_o hV183 (by decide)).trans ((ajV171 27 (Int32.toNatClampNeg p0) rfl).trans ((up2_o hV165 (by decide)).trans ((ajV151 27 (Int32.toNatClampNeg p0) rfl).trans ((up2_o hV140 (by decide)).trans (ajV13 27 (Int32.toNatClampNeg p0) rfl))))))) ?_
                refine lv_iconst (v := 1) hx hb dX12_takeNeed_117 (by decide) ?_
                refine lv_iadd hx hb dX12_takeNeed_118 ?_
                refine lv_topi (fun z188 ez188 => ?_)
                have hz188 : z188.toInt = ((V 27 (Int32.toNatClampNeg p0))).toInt + 1 := i_add ez188 rfl (by decide) (by omega)
                refine va_iast (D := D) (i := p0) (x := z188) hx hb hK hP hD hS 20 19 rfl rfl (i_in (a := p0.toInt) rfl (by omega)) dX12_takeNeed_119 (fun H locs hP hD hS => ?_)
                obtain ⟨V189, hV189⟩ : ∃ z, z = up2 V187 27 (Int32.toNatClampNeg p0) z188 := ⟨_, rfl⟩
                have hP : va_P D vwCl (mw ad kk ks.1 V189 L) H := by rw [hV189]; exact hP
                have hD : va_D A (mw ad kk ks.1 V189 L) := by rw [hV189]; exact hD
                have hMV189 : rgd bM V189 := hMV187.put hV189 (show 0 ≤ z188.toInt ∧ z188.toInt ≤ 8 from by omega)
                have agV189 : agr [(0, 7), (0, 8)] [27, 28, 29, 30, 31, 35, 36, 37, 38] V V189 := agV187.up hV189 rfl
                have pq190 : (V189 27 (Int32.toNatClampNeg p0)).toInt = z188.toInt := congrArg Int32.toInt (up2_s hV189)
                have rl191 : RelM V189 L bq gn gT (nx (nx gs 1) 1) gl := RelM.ag rl176 (show agr [] [27, 28, 31] V171 V189 from (agr.up (agr.up (agr.up agr.rf hV183 rfl) hV187 rfl) hV189 rfl)) (by decide) (show agL [] L L from agL.rf) (by decide)
                exact W.vret hx hb hr (fun t ht hW => ⟨⟨(V189, L), rfl, ⟨hMV189, agV189, alL, (show (V189 27 gc).toInt = (V 27 gc).toInt + 1 from by rw [← kgc]; omega), (Or.inl ⟨W0 rl191, (nx (nx gs 1) 1), hr179, rl191, keepS.le (keepS.tr (keepS.tr (keepS.rf : keepS gs 0 gs) (keepS.n1 1)) (keepS.n1 1)) (by decide)⟩)⟩, by rw [ht]; exact hP, va_K.moved hW.alike hK, hD⟩, hS.F ht⟩) hS.2.2 dX12_takeNeed_120
              · skip
                have f192 : ((vp_nar .boolean 1)).toInt = 0 := b_eq rfl (by decide) c185
                exfalso; omega
            · skip
              have hb193 : ∀ k, Rc gT (Crun gs (IneedK :: k)) (Cbad (V171 0 8).toInt) := fun k => Rc.go1 (hr158 k) (nd_b h175)
              have r194 : 0 ≤ ((V171 0 8)).toInt ∧ ((V171 0 8)).toInt ≤ 70000 := hMV171 0 8
              refine va_iast (D := D) (i := z7) (x := z167) hx hb hK hP hD hS 21 20 rfl rfl (i_in (a := z7.toInt) rfl (by omega)) dX12_takeNeed_70 (fun H locs hP hD hS => ?_)
              obtain ⟨V195, hV195⟩ : ∃ z, z = up2 V171 28 (Int32.toNatClampNeg z7) z167 := ⟨_, rfl⟩
              have hP : va_P D vwCl (mw ad kk ks.1 V195 L) H := by rw [hV195]; exact hP
              have hD : va_D A (mw ad kk ks.1 V195 L) := by rw [hV195]; exact hD
              have hMV195 : rgd bM V195 := hMV171.put hV195 (show (-1) ≤ z167.toInt ∧ z167.toInt ≤ 23 from by omega)
              have agV195 : agr [(0, 7), (0, 8)] [27, 28, 29, 30, 31, 35, 36, 37, 38] V V195 := agV171.up hV195 rfl
              refine lv_aload_n hx hb dX12_takeNeed_71 rfl (lv_at hl 1 rfl) ?_
              refine va_get (D := D) (ci := 12) (v := .ref (ad 31)) (C := RX12) (T := TX12) (N := 100) hx hb hg inX12 hown hK hP 0 rfl rfl 31 (by decide) (hg _ w1737) (fun _ h9 => h9) rfl dX12_takeNeed_72 ?_
              refine lv_iload_n hx hb dX12_takeNeed_75 rfl (lv_at hl 0 rfl) ?_
              refine lv_aload_n hx hb dX12_takeNeed_76 rfl (lv_at hl 1 rfl) ?_
              refine va_get (D := D) (ci := 12) (v := .ref (ad 30)) (C := RX12) (T := TX12) (N := 100) hx hb hg inX12 hown hK hP 0 rfl rfl 30 (by decide) (hg _ w1736) (fun _ h9 => h9) rfl dX12_takeNeed_77 ?_
              refine lv_iload_n hx hb dX12_takeNeed_80 rfl (lv_at hl 0 rfl) ?_
              refine va_zald (D := D) (i := z7) hx hb hK hP 23 22 rfl rfl (i_in (a := z7.toInt) rfl (by omega)) dX12_takeNeed_81 ?_
              refine g_top (v := (vp_nar .boolean 1)) ((up2_o hV195 (by decide)).trans ((ajV171 30 (Int32.toNatClampNeg z7) rfl).trans (up2_s hV165))) ?_
              have nr196 : (vp_nar .boolean 1).toInt = 1 := by decide
              refine lv_if_ne (tgt := 108) hx hb dX12_takeNeed_82 (by decide) (fun c197 => ?_) (fun c197 => ?_)
              · skip
                have f198 : ((vp_nar .boolean 1)).toInt ≠ 0 := b_neq rfl (by decide) c197
                refine lv_iconst (v := (-1)) hx hb dX12_takeNeed_108 (by decide) ?_
                refine va_iast (D := D) (i := z7) (x := (-1)) hx hb hK hP hD hS 24 23 rfl rfl (i_in (a := z7.toInt) rfl (by omega)) dX12_takeNeed_109 (fun H locs hP hD hS => ?_)
                obtain ⟨V199, hV199⟩ : ∃ z, z = up2 V195 31 (Int32.toNatClampNeg z7) (-1) := ⟨_, rfl⟩
                have hP : va_P D vwCl (mw ad kk ks.1 V199 L) H := by rw [hV199]; exact hP
                have hD : va_D A (mw ad kk ks.1 V199 L) := by rw [hV199]; exact hD
                have hMV199 : rgd bM V199 := hMV195.put hV199 (i_full _)
                have agV199 : agr [(0, 7), (0, 8)] [27, 28, 29, 30, 31, 35, 36, 37, 38] V V199 := agV195.up hV199 rfl
                refine lv_aload_n hx hb dX12_takeNeed_110 rfl (lv_at hl 1 rfl) ?_
                refine va_get (D := D) (ci := 12) (v := .ref (ad 27)) (C := RX12) (T := TX12) (N := 100) hx hb hg inX12 hown hK hP 0 rfl rfl 27 (by decide) (hg _ w1733) (fun _ h9 => h9) rfl dX12_takeNeed_111 ?_
                refine lv_iload_n hx hb dX12_takeNeed_114 rfl (lv_at hl 2 rfl) ?_
                refine lv_dup2_11 hx hb dX12_takeNeed_115 rfl rfl ?_
                refine va_iald (D := D) (i := p0) hx hb hK hP 20 19 rfl rfl (i_in (a := p0.toInt) rfl (by omega)) dX12_takeNeed_116 ?_
                refine g_top (v := (V 27 (Int32.toNatClampNeg p0))) ((up2_o hV199 (by decide)).trans ((up2_o hV195 (by decide)).trans ((ajV171 27 (Int32.toNatClampNeg p0) rfl).trans ((up2_o hV165 (by decide)).trans ((ajV151 27 (Int32.toNatClampNeg p0) rfl).trans ((up2_o hV140 (by decide)).trans (ajV13 27 (Int32.toNatClampNeg p0) rfl))))))) ?_
                refine lv_iconst (v := 1) hx hb dX12_takeNeed_117 (by decide) ?_
                refine lv_iadd hx hb dX12_takeNeed_118 ?_
                refine lv_topi (fun z200 ez200 => ?_)
                have hz200 : z200.toInt = ((V 27 (Int32.toNatClampNeg p0))).toInt + 1 := i_add ez200 rfl (by decide) (by omega)
                refine va_iast (D := D) (i := p0) (x := z200) hx hb hK hP hD hS 20 19 rfl rfl (i_in (a := p0.toInt) rfl (by omega)) dX12_takeNeed_119 (fun H locs hP hD hS => ?_)
                obtain ⟨V201, hV201⟩ : ∃ z, z = up2 V199 27 (Int32.toNatClampNeg p0) z200 := ⟨_, rfl⟩
                have hP : va_P D vwCl (mw ad kk ks.1 V201 L) H := by rw [hV201]; exact hP
                have hD : va_D A (mw ad kk ks.1 V201 L) := by rw [hV201]; exact hD
                have hMV201 : rgd bM V201 := hMV199.put hV201 (show 0 ≤ z200.toInt ∧ z200.toInt ≤ 8 from by omega)
                have agV201 : agr [(0, 7), (0, 8)] [27, 28, 29, 30, 31, 35, 36, 37, 38] V V201 := agV199.up hV201 rfl
                have pq202 : (V201 27 (Int32.toNatClampNeg p0)).toInt = z200.toInt := congrArg Int32.toInt (up2_s hV201)
                have pq203 : (V201 0 8).toInt = ((V171 0 8)).toInt := congrArg Int32.toInt ((up2_o hV201 (by decide)).trans ((up2_o hV199 (by decide)).trans (up2_o hV195 (by decide))))
                exact W.vret hx hb hr (fun t ht hW => ⟨⟨(V201, L), rfl, ⟨hMV201, agV201, alL, (show (V201 27 gc).toInt = (V 27 gc).toInt + 1 from by rw [← kgc]; omega), (Or.inr ⟨(show 1 ≤ (V201 0 8).toInt from by omega), (fun k => by rw [show (V201 0 8).toInt = (V171 0 8).toInt from by omega]; exact hb193 k)⟩)⟩, by rw [ht]; exact hP, va_K.moved hW.alike hK, hD⟩, hS.F ht⟩) hS.2.2 dX12_takeNeed_120
              · skip
                have f204 : ((vp_nar .boolean 1)).toInt = 0 := b_eq rfl (by decide) c197
                exfalso; omega
        · skip
          have kd205 : gT.1 (gs.1 0) ≠ 139 := fun h9 => h154 (h9.trans (by decide))
          have fz206 := RelM.rg rl155
          have pq207 : (V151 0 8).toInt = ((V 0 8)).toInt := congrArg Int32.toInt ((ajV151 0 8 rfl).trans ((up2_o hV140 (by decide)).trans (ajV13 0 8 rfl)))
          refine lv_if_eq (tgt := 59) hx hb dX12_takeNeed_52 (by decide) (fun c208 => ?_) (fun c208 => ?_)
          · skip
            have f209 : z147.toInt = 0 := b_eq rfl (by decide) c208
            refine lv_iconst (v := 0) hx hb dX12_takeNeed_59 (by decide) ?_
            refine va_zast (D := D) (i := z7) (x := 0) hx hb hK hP hD hS 23 22 rfl rfl (i_in (a := z7.toInt) rfl (by omega)) dX12_takeNeed_60 (fun H locs hP hD hS => ?_)
            obtain ⟨V210, hV210⟩ : ∃ z, z = up2 V151 30 (Int32.toNatClampNeg z7) (vp_nar .boolean 0) := ⟨_, rfl⟩
            have hP : va_P D vwCl (mw ad kk ks.1 V210 L) H := by rw [hV210]; exact hP
            have hD : va_D A (mw ad kk ks.1 V210 L) := by rw [hV210]; exact hD
            have hMV210 : rgd bM V210 := hMV151.put hV210 (nar_b _)
            have agV210 : agr [(0, 7), (0, 8)] [27, 28, 29, 30, 31, 35, 36, 37, 38] V V210 := agV151.up hV210 rfl
            refine lv_aload_n hx hb dX12_takeNeed_61 rfl (lv_at hl 1 rfl) ?_
            refine va_get (D := D) (ci := 12) (v := .ref (ad 28)) (C := RX12) (T := TX12) (N := 100) hx hb hg inX12 hown hK hP 0 rfl rfl 28 (by decide) (hg _ w1734) (fun _ h9 => h9) rfl dX12_takeNeed_62 ?_
            refine lv_iload_n hx hb dX12_takeNeed_65 rfl (lv_at hl 0 rfl) ?_
            refine lv_aload_n hx hb dX12_takeNeed_66 rfl (lv_at hl 1 rfl) ?_
            have rl211 : RelM V210 L bq gn gT gs gl := RelM.ag rl155 (show agr [] [30] V151 V210 from (agr.up agr.rf hV210 rfl)) (by decide) (show agL [] L L from agL.rf) (by decide)
            have hr212 : ∀ k, Rc gT (Crun gs (IneedK :: k)) (Crun gs (IneedK :: k)) := fun k => Rc.rf
            have hr213 : ∀ k, Rc gT (Crun gs (IneedK :: k)) (Crun gs (IneedT 0 :: k)) := fun k => Rc.go1 (hr212 k) (needK_n kd137 kd205)
            refine gA_int (gA_runV (As := []) (rest := [.int z7, .ref (ad 28)]) (ci := 12) (q0 := 0) hx hb hml hown hg hP hD hK hS hA hnw hgk (s_takeTypeA l D ks H.size ad kk V210 L (bq) (gn) (gT) (gs) (gl) hMV210 rl211) w2059 w2061 w92 w172 w2062 rfl rfl hdV_yX12_takeType ⟨Nat.le_of_ble_eq_true rfl, Nat.le_of_ble_eq_true rfl⟩ rfl hl.1 rfl (Nat.le_of_ble_eq_true rfl) dX12_takeNeed_67 ⟨Nat.le_of_ble_eq_true rfl, Nat.le_of_ble_eq_true rfl⟩) hP hD hK hS hA (fun z214 u215 H locs w216 hP hD hK hS => ?_)
            obtain ⟨V218, L219⟩ := u215
            obtain ⟨hMV218, ajV218, axL219, rgz214, t217⟩ := w216
            have axL219 : L = L219 := Eq.symm axL219
            subst axL219
            have hP : va_P D vwCl (mw ad kk ks.1 V218 L) H := hP
            have hD : va_D A (mw ad kk ks.1 V218 L) := hD
            have hMV218 : rgd bM V218 := hMV218
            have ajV218 : agr [(0, 7), (0, 8)] [] V210 V218 := ajV218
            have agV218 : agr [(0, 7), (0, 8)] [27, 28, 29, 30, 31, 35, 36, 37, 38] V V218 := agV210.tr ajV218 (by decide) (by decide)
            have rgz214 : (-1) ≤ z214.toInt ∧ z214.toInt ≤ 23 := rgz214
            have t217 : KmN (look (gT) (gs) ((gs).2.1 0)) (V218 0 8).toInt (fun f9 => RelM V218 L (bq) (gn) (gT) (nx (gs) 1) (gl) ∧ z214.toInt = ((f9 : Nat) : Int) ∧ f9 < 24) := t217
            rcases t217 with ⟨q220, fx221, h222, rl223, hf224, hb225⟩ | ⟨q220, h222⟩
            · skip
              have hr226 : ∀ k, Rc gT (Crun gs (IneedK :: k)) (Crun (nx gs 1) (Icalled :: Itake 59 :: IaddNeed :: Imember :: k)) := fun k => Rc.go1 (hr213 k) (nd_0 h222)
              have ps227 : (nx gs 1).1 0 = gs.1 0 + 1 := rfl
              have fz228 := RelM.rg rl223
              have r229 : 0 ≤ ((V218 0 8)).toInt ∧ ((V218 0 8)).toInt ≤ 70000 := hMV218 0 8
              refine va_iast (D := D) (i := z7) (x := z214) hx hb hK hP hD hS 21 20 rfl rfl (i_in (a := z7.toInt) rfl (by omega)) dX12_takeNeed_70 (fun H locs hP hD hS => ?_)
              obtain ⟨V230, hV230⟩ : ∃ z, z = up2 V218 28 (Int32.toNatClampNeg z7) z214 := ⟨_, rfl⟩
              have hP : va_P D vwCl (mw ad kk ks.1 V230 L) H := by rw [hV230]; exact hP
              have hD : va_D A (mw ad kk ks.1 V230 L) := by rw [hV230]; exact hD
              have hMV230 : rgd bM V230 := hMV218.put hV230 (show (-1) ≤ z214.toInt ∧ z214.toInt ≤ 23 from by omega)
              have agV230 : agr [(0, 7), (0, 8)] [27, 28, 29, 30, 31, 35, 36, 37, 38] V V230 := agV218.up hV230 rfl
              refine lv_aload_n hx hb dX12_takeNeed_71 rfl (lv_at hl 1 rfl) ?_
              refine va_get (D := D) (ci := 12) (v := .ref (ad 31)) (C := RX12) (T := TX12) (N := 100) hx hb hg inX12 hown hK hP 0 rfl rfl 31 (by decide) (hg _ w1737) (fun _ h9 => h9) rfl dX12_takeNeed_72 ?_
              refine lv_iload_n hx hb dX12_takeNeed_75 rfl (lv_at hl 0 rfl) ?_
              refine lv_aload_n hx hb dX12_takeNeed_76 rfl (lv_at hl 1 rfl) ?_
              refine va_get (D := D) (ci := 12) (v := .ref (ad 30)) (C := RX12) (T := TX12) (N := 100) hx hb hg inX12 hown hK hP 0 rfl rfl 30 (by decide) (hg _ w1736) (fun _ h9 => h9) rfl dX12_takeNeed_77 ?_
              refine lv_iload_n hx hb dX12_takeNeed_80 rfl (lv_at hl 0 rfl) ?_
              refine va_zald (D := D) (i := z7) hx hb hK hP 23 22 rfl rfl (i_in (a := z7.toInt) rfl (by omega)) dX12_takeNeed_81 ?_
              refine g_top (v := (vp_nar .boolean 0)) ((up2_o hV230 (by decide)).trans ((ajV218 30 (Int32.toNatClampNeg z7) rfl).trans (up2_s hV210))) ?_
              have nr231 : (vp_nar .boolean 0).toInt = 0 := by decide
              refine lv_if_ne (tgt := 108) hx hb dX12_takeNeed_82 (by decide) (fun c232 => ?_) (fun c232 => ?_)
              · skip
                have f233 : ((vp_nar .boolean 0)).toInt ≠ 0 := b_neq rfl (by decide) c232
                exfalso; omega
              · skip
                have f234 : ((vp_nar .boolean 0)).toInt = 0 := b_eq rfl (by decide) c232
                refine lv_aload_n hx hb dX12_takeNeed_85 rfl (lv_at hl 1 rfl) ?_
                refine lv_iconst (v := 5) hx hb dX12_takeNeed_86 (by decide) ?_
                have rl235 : RelM V230 L bq gn gT (nx gs 1) gl := RelM.ag rl223 (show agr [] [28] V218 V230 from (agr.up agr.rf hV230 rfl)) (by decide) (show agL [] L L from agL.rf) (by decide)
                have r236 : Int32.toInt 5 = 5 := by decide
                refine gA_int (gA_runV (As := [.int 5]) (rest := [.int z7, .ref (ad 31)]) (ci := 12) (q0 := 0) hx hb hml hown hg hP hD hK hS hA hnw hgk (s_hasWordA l D ks H.size ad kk V230 L 5 (bq) (gn) (gT) ((nx gs 1)) (gl) hMV230 (by decide) rl235) w2051 w2053 w90 w172 w2054 rfl rfl hdV_yX12_hasWord ⟨Nat.le_of_ble_eq_true rfl, Nat.le_of_ble_eq_true rfl⟩ rfl hl.1 rfl (Nat.le_of_ble_eq_true rfl) dX12_takeNeed_87 ⟨Nat.le_of_ble_eq_true rfl, Nat.le_of_ble_eq_true rfl⟩) hP hD hK hS hA (fun z237 u238 H locs w239 hP hD hK hS => ?_)
                obtain ⟨V241, L242⟩ := u238
                obtain ⟨hMV241, ajV241, axL242, rgz237, t240⟩ := w239
                have axL242 : L = L242 := Eq.symm axL242
                subst axL242
                have hP : va_P D vwCl (mw ad kk ks.1 V241 L) H := hP
                have hD : va_D A (mw ad kk ks.1 V241 L) := hD
                have hMV241 : rgd bM V241 := hMV241
                have ajV241 : agr [(0, 7)] [] V230 V241 := ajV241
                have agV241 : agr [(0, 7), (0, 8)] [27, 28, 29, 30, 31, 35, 36, 37, 38] V V241 := agV230.tr ajV241 (by decide) (by decide)
                have rgz237 : 0 ≤ z237.toInt ∧ z237.toInt ≤ 1 := rgz237
                have t240 : (z237.toInt = 1 ∧ (gT).1 (((nx gs 1)).1 0) = 128 + (Int32.toInt 5) ∧ RelM V241 L (bq) (gn) (gT) (nx ((nx gs 1)) 1) (gl)) ∨ (z237.toInt = 0 ∧ (gT).1 (((nx gs 1)).1 0) ≠ 128 + (Int32.toInt 5) ∧ RelM V241 L (bq) (gn) (gT) ((nx gs 1)) (gl)) := t240
                rcases t240 with ⟨q243, h244, rl245⟩ | ⟨q243, h244, rl245⟩
                · skip
                  have kd246 : gT.1 ((nx gs 1).1 0) = 133 := h244.trans (by decide)
                  have hr247 : ∀ k, Rc gT (Crun gs (IneedK :: k)) (Crun (nx (nx gs 1) 1) (Iword :: Itake 59 :: IaddNeed :: Imember :: k)) := fun k => Rc.go1 (hr226 k) (called_y  kd246)
                  have ps248 : (nx (nx gs 1) 1).1 0 = (nx gs 1).1 0 + 1 := rfl
                  have fz249 := RelM.rg rl245
                  have pq250 : (V241 0 8).toInt = ((V218 0 8)).toInt := congrArg Int32.toInt ((ajV241 0 8 rfl).trans (up2_o hV230 (by decide)))
                  refine lv_if_eq (tgt := 108) hx hb dX12_takeNeed_90 (by decide) (fun c251 => ?_) (fun c251 => ?_)
                  · skip
                    have f252 : z237.toInt = 0 := b_eq rfl (by decide) c251
                    exfalso; omega
                  · skip
                    have f253 : z237.toInt ≠ 0 := b_neq rfl (by decide) c251
                    refine lv_aload_n hx hb dX12_takeNeed_93 rfl (lv_at hl 1 rfl) ?_
                    refine lv_aload_n hx hb dX12_takeNeed_94 rfl (lv_at hl 1 rfl) ?_
                    refine va_get (D := D) (ci := 12) (v := .ref (ad 38)) (C := RX12) (T := TX12) (N := 100) hx hb hg inX12 hown hK hP 0 rfl rfl 38 (by decide) (hg _ w1744) (fun _ h9 => h9) rfl dX12_takeNeed_95 ?_
                    refine lv_aload_n hx hb dX12_takeNeed_98 rfl (lv_at hl 1 rfl) ?_
                    refine va_get (D := D) (ci := 12) (v := .ref (ad 37)) (C := RX12) (T := TX12) (N := 100) hx hb hg inX12 hown hK hP 0 rfl rfl 37 (by decide) (hg _ w1743) (fun _ h9 => h9) rfl dX12_takeNeed_99 ?_
                    refine gA_int (gA_runV (As := [.ref (ad 38), .ref (ad 37)]) (rest := [.int z7, .ref (ad 31)]) (ci := 12) (q0 := 0) hx hb hml hown hg hP hD hK hS hA hnw hgk (s_takeWordOf4 l D ks H.size ad kk V241 L (bq) (gn) (gT) ((nx (nx gs 1) 1)) (gl) hMV241 rl245) w2100 w2102 w102 w172 w2103 rfl rfl hdV_yX12_takeWordOf ⟨Nat.le_of_ble_eq_true rfl, Nat.le_of_ble_eq_true rfl⟩ rfl hl.1 rfl (Nat.le_of_ble_eq_true rfl) dX12_takeNeed_102 ⟨Nat.le_of_ble_eq_true rfl, Nat.le_of_ble_eq_true rfl⟩) hP hD hK hS hA (fun z254 u255 H locs w256 hP hD hK hS => ?_)
                    obtain ⟨V258, L259⟩ := u255
                    obtain ⟨hMV258, ajV258, axL259, rgz254, t257⟩ := w256
                    have alL259 : agL [27, 28, 29, 30, 31, 35, 36, 37, 38] L L259 := agL.tr alL axL259 (by decide)
                    have hP : va_P D vwCl (mw ad kk ks.1 V258 L259) H := hP
                    have hD : va_D A (mw ad kk ks.1 V258 L259) := hD
                    have hMV258 : rgd bM V258 := hMV258
                    have ajV258 : agr [(0, 7), (0, 8)] [35, 36, 37, 38] V241 V258 := ajV258
                    have agV258 : agr [(0, 7), (0, 8)] [27, 28, 29, 30, 31, 35, 36, 37, 38] V V258 := agV241.tr ajV258 (by decide) (by decide)
                    have rgz254 : (-1) ≤ z254.toInt ∧ z254.toInt ≤ 19 := rgz254
                    have t257 : KmS (mthW (gT) ((nx (nx gs 1) 1)) 4) (V258 0 8).toInt (fun x9 => RelM V258 L259 (bq) (gn) (gT) x9.2 (gl) ∧ z254.toInt = ((x9.1 : Nat) : Int) ∧ x9.1 < 20 ∧ keepS ((nx (nx gs 1) 1)) 1 x9.2 ∧ MTX (gT) ((nx (nx gs 1) 1)) 4 x9) := t257
                    rcases t257 with ⟨q260, mx261, h262, rl263, hf264, hb265, kp266, mt267⟩ | ⟨q260, h262⟩
                    · skip
                      have ps268 := kp266.1
                      have hr269 : ∀ k, Rc gT (Crun gs (IneedK :: k)) (Crun mx261.2 (Itake 59 :: IaddNeed :: Imember :: k)) := fun k => Rc.go1 (hr247 k) (wo_y h262)
                      have fz270 := RelM.rg rl263
                      have r271 : 0 ≤ ((V258 0 8)).toInt ∧ ((V258 0 8)).toInt ≤ 70000 := hMV258 0 8
                      refine lv_goto (tgt := 109) hx hb dX12_takeNeed_105 (by decide) ?_
                      refine va_iast (D := D) (i := z7) (x := z254) hx hb hK hP hD hS 24 23 rfl rfl (i_in (a := z7.toInt) rfl (by omega)) dX12_takeNeed_109 (fun H locs hP hD hS => ?_)
                      obtain ⟨V272, hV272⟩ : ∃ z, z = up2 V258 31 (Int32.toNatClampNeg z7) z254 := ⟨_, rfl⟩
                      have hP : va_P D vwCl (mw ad kk ks.1 V272 L259) H := by rw [hV272]; exact hP
                      have hD : va_D A (mw ad kk ks.1 V272 L259) := by rw [hV272]; exact hD
                      have hMV272 : rgd bM V272 := hMV258.put hV272 (i_full _)
                      have agV272 : agr [(0, 7), (0, 8)] [27, 28, 29, 30, 31, 35, 36, 37, 38] V V272 := agV258.up hV272 rfl
                      refine lv_aload_n hx hb dX12_takeNeed_110 rfl (lv_at hl 1 rfl) ?_
                      refine va_get (D := D) (ci := 12) (v := .ref (ad 27)) (C := RX12) (T := TX12) (N := 100) hx hb hg inX12 hown hK hP 0 rfl rfl 27 (by decide) (hg _ w1733) (fun _ h9 => h9) rfl dX12_takeNeed_111 ?_
                      refine lv_iload_n hx hb dX12_takeNeed_114 rfl (lv_at hl 2 rfl) ?_
                      refine lv_dup2_11 hx hb dX12_takeNeed_115 rfl rfl ?_
                      refine va_iald (D := D) (i := p0) hx hb hK hP 20 19 rfl rfl (i_in (a := p0.toInt) rfl (by omega)) dX12_takeNeed_116 ?_
                      refine g_top (v := (V 27 (Int32.toNatClampNeg p0))) ((up2_o hV272 (by decide)).trans ((ajV258 27 (Int32.toNatClampNeg p0) rfl).trans ((ajV241 27 (Int32.toNatClampNeg p0) rfl).trans ((up2_o hV230 (by decide)).trans ((ajV218 27 (Int32.toNatClampNeg p0) rfl).trans ((up2_o hV210 (by decide)).trans ((ajV151 27 (Int32.toNatClampNeg p0) rfl).trans ((up2_o hV140 (by decide)).trans (ajV13 27 (Int32.toNatClampNeg p0) rfl))))))))) ?_
                      refine lv_iconst (v := 1) hx hb dX12_takeNeed_117 (by decide) ?_
                      refine lv_iadd hx hb dX12_takeNeed_118 ?_
                      refine lv_topi (fun z273 ez273 => ?_)
                      have hz273 : z273.toInt = ((V 27 (Int32.toNatClampNeg p0))).toInt + 1 := i_add ez273 rfl (by decide) (by omega)
                      refine va_iast (D := D) (i := p0) (x := z273) hx hb hK hP hD hS 20 19 rfl rfl (i_in (a := p0.toInt) rfl (by omega)) dX12_takeNeed_119 (fun H locs hP hD hS => ?_)
                      obtain ⟨V274, hV274⟩ : ∃ z, z = up2 V272 27 (Int32.toNatClampNeg p0) z273 := ⟨_, rfl⟩
                      have hP : va_P D vwCl (mw ad kk ks.1 V274 L259) H := by rw [hV274]; exact hP
                      have hD : va_D A (mw ad kk ks.1 V274 L259) := by rw [hV274]; exact hD
                      have hMV274 : rgd bM V274 := hMV272.put hV274 (show 0 ≤ z273.toInt ∧ z273.toInt ≤ 8 from by omega)
                      have agV274 : agr [(0, 7), (0, 8)] [27, 28, 29, 30, 31, 35, 36, 37, 38] V V274 := agV272.up hV274 rfl
                      have pq275 : (V274 27 (Int32.toNatClampNeg p0)).toInt = z273.toInt := congrArg Int32.toInt (up2_s hV274)
                      have rl276 : RelM V274 L259 bq gn gT mx261.2 gl := RelM.ag rl263 (show agr [] [27, 31] V258 V274 from (agr.up (agr.up agr.rf hV272 rfl) hV274 rfl)) (by decide) (show agL [] L259 L259 from agL.rf) (by decide)
                      exact W.vret hx hb hr (fun t ht hW => ⟨⟨(V274, L259), rfl, ⟨hMV274, agV274, alL259, (show (V274 27 gc).toInt = (V 27 gc).toInt + 1 from by rw [← kgc]; omega), (Or.inl ⟨W0 rl276, mx261.2, hr269, rl276, keepS.le (keepS.tr (keepS.tr (keepS.tr (keepS.rf : keepS gs 0 gs) (keepS.n1 1)) (keepS.n1 1)) kp266) (by decide)⟩)⟩, by rw [ht]; exact hP, va_K.moved hW.alike hK, hD⟩, hS.F ht⟩) hS.2.2 dX12_takeNeed_120
                    · skip
                      have hb277 : ∀ k, Rc gT (Crun gs (IneedK :: k)) (Cbad (V258 0 8).toInt) := fun k => Rc.go1 (hr247 k) (wo_b h262)
                      have r278 : 0 ≤ ((V258 0 8)).toInt ∧ ((V258 0 8)).toInt ≤ 70000 := hMV258 0 8
                      refine lv_goto (tgt := 109) hx hb dX12_takeNeed_105 (by decide) ?_
                      refine va_iast (D := D) (i := z7) (x := z254) hx hb hK hP hD hS 24 23 rfl rfl (i_in (a := z7.toInt) rfl (by omega)) dX12_takeNeed_109 (fun H locs hP hD hS => ?_)
                      obtain ⟨V279, hV279⟩ : ∃ z, z = up2 V258 31 (Int32.toNatClampNeg z7) z254 := ⟨_, rfl⟩
                      have hP : va_P D vwCl (mw ad kk ks.1 V279 L259) H := by rw [hV279]; exact hP
                      have hD : va_D A (mw ad kk ks.1 V279 L259) := by rw [hV279]; exact hD
                      have hMV279 : rgd bM V279 := hMV258.put hV279 (i_full _)
                      have agV279 : agr [(0, 7), (0, 8)] [27, 28, 29, 30, 31, 35, 36, 37, 38] V V279 := agV258.up hV279 rfl
                      refine lv_aload_n hx hb dX12_takeNeed_110 rfl (lv_at hl 1 rfl) ?_
                      refine va_get (D := D) (ci := 12) (v := .ref (ad 27)) (C := RX12) (T := TX12) (N := 100) hx hb hg inX12 hown hK hP 0 rfl rfl 27 (by decide) (hg _ w1733) (fun _ h9 => h9) rfl dX12_takeNeed_111 ?_
                      refine lv_iload_n hx hb dX12_takeNeed_114 rfl (lv_at hl 2 rfl) ?_
                      refine lv_dup2_11 hx hb dX12_takeNeed_115 rfl rfl ?_
                      refine va_iald (D := D) (i := p0) hx hb hK hP 20 19 rfl rfl (i_in (a := p0.toInt) rfl (by omega)) dX12_takeNeed_116 ?_
                      refine g_top (v := (V 27 (Int32.toNatClampNeg p0))) ((up2_o hV279 (by decide)).trans ((ajV258 27 (Int32.toNatClampNeg p0) rfl).trans ((ajV241 27 (Int32.toNatClampNeg p0) rfl).trans ((up2_o hV230 (by decide)).trans ((ajV218 27 (Int32.toNatClampNeg p0) rfl).trans ((up2_o hV210 (by decide)).trans ((ajV151 27 (Int32.toNatClampNeg p0) rfl).trans ((up2_o hV140 (by decide)).trans (ajV13 27 (Int32.toNatClampNeg p0) rfl))))))))) ?_
                      refine lv_iconst (v := 1) hx hb dX12_takeNeed_117 (by decide) ?_
                      refine lv_iadd hx hb dX12_takeNeed_118 ?_
                      refine lv_topi (fun z280 ez280 => ?_)
                      have hz280 : z280.toInt = ((V 27 (Int32.toNatClampNeg p0))).toInt + 1 := i_add ez280 rfl (by decide) (by omega)
                      refine va_iast (D := D) (i := p0) (x := z280) hx hb hK hP hD hS 20 19 rfl rfl (i_in (a := p0.toInt) rfl (by omega)) dX12_takeNeed_119 (fun H locs hP hD hS => ?_)
                      obtain ⟨V281, hV281⟩ : ∃ z, z = up2 V279 27 (Int32.toNatClampNeg p0) z280 := ⟨_, rfl⟩
                      have hP : va_P D vwCl (mw ad kk ks.1 V281 L259) H := by rw [hV281]; exact hP
                      have hD : va_D A (mw ad kk ks.1 V281 L259) := by rw [hV281]; exact hD
                      have hMV281 : rgd bM V281 := hMV279.put hV281 (show 0 ≤ z280.toInt ∧ z280.toInt ≤ 8 from by omega)
                      have agV281 : agr [(0, 7), (0, 8)] [27, 28, 29, 30, 31, 35, 36, 37, 38] V V281 := agV279.up hV281 rfl
                      have pq282 : (V281 27 (Int32.toNatClampNeg p0)).toInt = z280.toInt := congrArg Int32.toInt (up2_s hV281)
                      have pq283 : (V281 0 8).toInt = ((V258 0 8)).toInt := congrArg Int32.toInt ((up2_o hV281 (by decide)).trans (up2_o hV279 (by decide)))
                      exact W.vret hx hb hr (fun t ht hW => ⟨⟨(V281, L259), rfl, ⟨hMV281, agV281, alL259, (show (V281 27 gc).toInt = (V 27 gc).toInt + 1 from by rw [← kgc]; omega), (Or.inr ⟨(show 1 ≤ (V281 0 8).toInt from by omega), (fun k => by rw [show (V281 0 8).toInt = (V258 0 8).toInt from by omega]; exact hb277 k)⟩)⟩, by rw [ht]; exact hP, va_K.moved hW.alike hK, hD⟩, hS.F ht⟩) hS.2.2 dX12_takeNeed_120
                · skip
                  have kd284 : gT.1 ((nx gs 1).1 0) ≠ 133 := fun h9 => h244 (h9.trans (by decide))
                  have fz285 := RelM.rg rl245
                  have pq286 : (V241 0 8).toInt = ((V218 0 8)).toInt := congrArg Int32.toInt ((ajV241 0 8 rfl).trans (up2_o hV230 (by decide)))
                  refine lv_if_eq (tgt := 108) hx hb dX12_takeNeed_90 (by decide) (fun c287 => ?_) (fun c287 => ?_)
                  · skip
                    have f288 : z237.toInt = 0 := b_eq rfl (by decide) c287
                    refine lv_iconst (v := (-1)) hx hb dX12_takeNeed_108 (by decide) ?_
                    refine va_iast (D := D) (i := z7) (x := (-1)) hx hb hK hP hD hS 24 23 rfl rfl (i_in (a := z7.toInt) rfl (by omega)) dX12_takeNeed_109 (fun H locs hP hD hS => ?_)
                    obtain ⟨V289, hV289⟩ : ∃ z, z = up2 V241 31 (Int32.toNatClampNeg z7) (-1) := ⟨_, rfl⟩
                    have hP : va_P D vwCl (mw ad kk ks.1 V289 L) H := by rw [hV289]; exact hP
                    have hD : va_D A (mw ad kk ks.1 V289 L) := by rw [hV289]; exact hD
                    have hMV289 : rgd bM V289 := hMV241.put hV289 (i_full _)
                    have agV289 : agr [(0, 7), (0, 8)] [27, 28, 29, 30, 31, 35, 36, 37, 38] V V289 := agV241.up hV289 rfl
                    refine lv_aload_n hx hb dX12_takeNeed_110 rfl (lv_at hl 1 rfl) ?_
                    refine va_get (D := D) (ci := 12) (v := .ref (ad 27)) (C := RX12) (T := TX12) (N := 100) hx hb hg inX12 hown hK hP 0 rfl rfl 27 (by decide) (hg _ w1733) (fun _ h9 => h9) rfl dX12_takeNeed_111 ?_
                    refine lv_iload_n hx hb dX12_takeNeed_114 rfl (lv_at hl 2 rfl) ?_
                    refine lv_dup2_11 hx hb dX12_takeNeed_115 rfl rfl ?_
                    refine va_iald (D := D) (i := p0) hx hb hK hP 20 19 rfl rfl (i_in (a := p0.toInt) rfl (by omega)) dX12_takeNeed_116 ?_
                    refine g_top (v := (V 27 (Int32.toNatClampNeg p0))) ((up2_o hV289 (by decide)).trans ((ajV241 27 (Int32.toNatClampNeg p0) rfl).trans ((up2_o hV230 (by decide)).trans ((ajV218 27 (Int32.toNatClampNeg p0) rfl).trans ((up2_o hV210 (by decide)).trans ((ajV151 27 (Int32.toNatClampNeg p0) rfl).trans ((up2_o hV140 (by decide)).trans (ajV13 27 (Int32.toNatClampNeg p0) rfl)))))))) ?_
                    refine lv_iconst (v := 1) hx hb dX12_takeNeed_117 (by decide) ?_
                    refine lv_iadd hx hb dX12_takeNeed_118 ?_
                    refine lv_topi (fun z290 ez290 => ?_)
                    have hz290 : z290.toInt = ((V 27 (Int32.toNatClampNeg p0))).toInt + 1 := i_add ez290 rfl (by decide) (by omega)
                    refine va_iast (D := D) (i := p0) (x := z290) hx hb hK hP hD hS 20 19 rfl rfl (i_in (a := p0.toInt) rfl (by omega)) dX12_takeNeed_119 (fun H locs hP hD hS => ?_)
                    obtain ⟨V291, hV291⟩ : ∃ z, z = up2 V289 27 (Int32.toNatClampNeg p0) z290 := ⟨_, rfl⟩
                    have hP : va_P D vwCl (mw ad kk ks.1 V291 L) H := by rw [hV291]; exact hP
                    have hD : va_D A (mw ad kk ks.1 V291 L) := by rw [hV291]; exact hD
                    have hMV291 : rgd bM V291 := hMV289.put hV291 (show 0 ≤ z290.toInt ∧ z290.toInt ≤ 8 from by omega)
                    have agV291 : agr [(0, 7), (0, 8)] [27, 28, 29, 30, 31, 35, 36, 37, 38] V V291 := agV289.up hV291 rfl
                    have pq292 : (V291 27 (Int32.toNatClampNeg p0)).toInt = z290.toInt := congrArg Int32.toInt (up2_s hV291)
                    have hr293 : ∀ k, Rc gT (Crun gs (IneedK :: k)) (Crun (nx gs 1) (Itake 59 :: IaddNeed :: Imember :: k)) := fun k => Rc.go1 (hr226 k) (called_n  kd284)
                    have rl294 : RelM V291 L bq gn gT (nx gs 1) gl := RelM.ag rl245 (show agr [] [27, 31] V241 V291 from (agr.up (agr.up agr.rf hV289 rfl) hV291 rfl)) (by decide) (show agL [] L L from agL.rf) (by decide)
                    exact W.vret hx hb hr (fun t ht hW => ⟨⟨(V291, L), rfl, ⟨hMV291, agV291, alL, (show (V291 27 gc).toInt = (V 27 gc).toInt + 1 from by rw [← kgc]; omega), (Or.inl ⟨W0 rl294, (nx gs 1), hr293, rl294, keepS.le (keepS.tr (keepS.rf : keepS gs 0 gs) (keepS.n1 1)) (by decide)⟩)⟩, by rw [ht]; exact hP, va_K.moved hW.alike hK, hD⟩, hS.F ht⟩) hS.2.2 dX12_takeNeed_120
                  · skip
                    have f295 : z237.toInt ≠ 0 := b_neq rfl (by decide) c287
                    exfalso; omega
            · skip
              have hb296 : ∀ k, Rc gT (Crun gs (IneedK :: k)) (Cbad (V218 0 8).toInt) := fun k => Rc.go1 (hr213 k) (nd_b h222)
              have r297 : 0 ≤ ((V218 0 8)).toInt ∧ ((V218 0 8)).toInt ≤ 70000 := hMV218 0 8
              refine va_iast (D := D) (i := z7) (x := z214) hx hb hK hP hD hS 21 20 rfl rfl (i_in (a := z7.toInt) rfl (by omega)) dX12_takeNeed_70 (fun H locs hP hD hS => ?_)
              obtain ⟨V298, hV298⟩ : ∃ z, z = up2 V218 28 (Int32.toNatClampNeg z7) z214 := ⟨_, rfl⟩
              have hP : va_P D vwCl (mw ad kk ks.1 V298 L) H := by rw [hV298]; exact hP
              have hD : va_D A (mw ad kk ks.1 V298 L) := by rw [hV298]; exact hD
              have hMV298 : rgd bM V298 := hMV218.put hV298 (show (-1) ≤ z214.toInt ∧ z214.toInt ≤ 23 from by omega)
              have agV298 : agr [(0, 7), (0, 8)] [27, 28, 29, 30, 31, 35, 36, 37, 38] V V298 := agV218.up hV298 rfl
              refine lv_aload_n hx hb dX12_takeNeed_71 rfl (lv_at hl 1 rfl) ?_
              refine va_get (D := D) (ci := 12) (v := .ref (ad 31)) (C := RX12) (T := TX12) (N := 100) hx hb hg inX12 hown hK hP 0 rfl rfl 31 (by decide) (hg _ w1737) (fun _ h9 => h9) rfl dX12_takeNeed_72 ?_
              refine lv_iload_n hx hb dX12_takeNeed_75 rfl (lv_at hl 0 rfl) ?_
              refine lv_aload_n hx hb dX12_takeNeed_76 rfl (lv_at hl 1 rfl) ?_
              refine va_get (D := D) (ci := 12) (v := .ref (ad 30)) (C := RX12) (T := TX12) (N := 100) hx hb hg inX12 hown hK hP 0 rfl rfl 30 (by decide) (hg _ w1736) (fun _ h9 => h9) rfl dX12_takeNeed_77 ?_
              refine lv_iload_n hx hb dX12_takeNeed_80 rfl (lv_at hl 0 rfl) ?_
              refine va_zald (D := D) (i := z7) hx hb hK hP 23 22 rfl rfl (i_in (a := z7.toInt) rfl (by omega)) dX12_takeNeed_81 ?_
              refine g_top (v := (vp_nar .boolean 0)) ((up2_o hV298 (by decide)).trans ((ajV218 30 (Int32.toNatClampNeg z7) rfl).trans (up2_s hV210))) ?_
              have nr299 : (vp_nar .boolean 0).toInt = 0 := by decide
              refine lv_if_ne (tgt := 108) hx hb dX12_takeNeed_82 (by decide) (fun c300 => ?_) (fun c300 => ?_)
              · skip
                have f301 : ((vp_nar .boolean 0)).toInt ≠ 0 := b_neq rfl (by decide) c300
                exfalso; omega
              · skip
                have f302 : ((vp_nar .boolean 0)).toInt = 0 := b_eq rfl (by decide) c300
                refine lv_aload_n hx hb dX12_takeNeed_85 rfl (lv_at hl 1 rfl) ?_
                refine lv_iconst (v := 5) hx hb dX12_takeNeed_86 (by decide) ?_
                have r303 : Int32.toInt 5 = 5 := by decide
                have pq304 : (V298 0 8).toInt = ((V218 0 8)).toInt := congrArg Int32.toInt (up2_o hV298 (by decide))
                refine gA_int (gA_runV (As := [.int 5]) (rest := [.int z7, .ref (ad 31)]) (ci := 12) (q0 := 0) hx hb hml hown hg hP hD hK hS hA hnw hgk (s_hasWordB l D ks H.size ad kk V298 L 5 hMV298 (by decide) (show 1 ≤ (V298 0 8).toInt from by omega)) w2051 w2053 w90 w172 w2054 rfl rfl hdV_yX12_hasWord ⟨Nat.le_of_ble_eq_true rfl, Nat.le_of_ble_eq_true rfl⟩ rfl hl.1 rfl (Nat.le_of_ble_eq_true rfl) dX12_takeNeed_87 ⟨Nat.le_of_ble_eq_true rfl, Nat.le_of_ble_eq_true rfl⟩) hP hD hK hS hA (fun z305 u306 H locs w307 hP hD hK hS => ?_)
                obtain ⟨V309, L310⟩ := u306
                obtain ⟨hMV309, ajV309, axL310, rgz305, t308⟩ := w307
                have axL310 : L = L310 := Eq.symm axL310
                subst axL310
                have hP : va_P D vwCl (mw ad kk ks.1 V309 L) H := hP
                have hD : va_D A (mw ad kk ks.1 V309 L) := hD
                have hMV309 : rgd bM V309 := hMV309
                have ajV309 : agr [(0, 7)] [] V298 V309 := ajV309
                have agV309 : agr [(0, 7), (0, 8)] [27, 28, 29, 30, 31, 35, 36, 37, 38] V V309 := agV298.tr ajV309 (by decide) (by decide)
                have rgz305 : 0 ≤ z305.toInt ∧ z305.toInt ≤ 0 := rgz305
                have t308 : (V309 0 8).toInt = (V298 0 8).toInt := t308
                have pq311 : (V309 0 8).toInt = ((V218 0 8)).toInt := congrArg Int32.toInt ((ajV309 0 8 rfl).trans (up2_o hV298 (by decide)))
                refine lv_if_eq (tgt := 108) hx hb dX12_takeNeed_90 (by decide) (fun c312 => ?_) (fun c312 => ?_)
                · skip
                  have f313 : z305.toInt = 0 := b_eq rfl (by decide) c312
                  refine lv_iconst (v := (-1)) hx hb dX12_takeNeed_108 (by decide) ?_
                  refine va_iast (D := D) (i := z7) (x := (-1)) hx hb hK hP hD hS 24 23 rfl rfl (i_in (a := z7.toInt) rfl (by omega)) dX12_takeNeed_109 (fun H locs hP hD hS => ?_)
                  obtain ⟨V314, hV314⟩ : ∃ z, z = up2 V309 31 (Int32.toNatClampNeg z7) (-1) := ⟨_, rfl⟩
                  have hP : va_P D vwCl (mw ad kk ks.1 V314 L) H := by rw [hV314]; exact hP
                  have hD : va_D A (mw ad kk ks.1 V314 L) := by rw [hV314]; exact hD
                  have hMV314 : rgd bM V314 := hMV309.put hV314 (i_full _)
                  have agV314 : agr [(0, 7), (0, 8)] [27, 28, 29, 30, 31, 35, 36, 37, 38] V V314 := agV309.up hV314 rfl
                  refine lv_aload_n hx hb dX12_takeNeed_110 rfl (lv_at hl 1 rfl) ?_
                  refine va_get (D := D) (ci := 12) (v := .ref (ad 27)) (C := RX12) (T := TX12) (N := 100) hx hb hg inX12 hown hK hP 0 rfl rfl 27 (by decide) (hg _ w1733) (fun _ h9 => h9) rfl dX12_takeNeed_111 ?_
                  refine lv_iload_n hx hb dX12_takeNeed_114 rfl (lv_at hl 2 rfl) ?_
                  refine lv_dup2_11 hx hb dX12_takeNeed_115 rfl rfl ?_
                  refine va_iald (D := D) (i := p0) hx hb hK hP 20 19 rfl rfl (i_in (a := p0.toInt) rfl (by omega)) dX12_takeNeed_116 ?_
                  refine g_top (v := (V 27 (Int32.toNatClampNeg p0))) ((up2_o hV314 (by decide)).trans ((ajV309 27 (Int32.toNatClampNeg p0) rfl).trans ((up2_o hV298 (by decide)).trans ((ajV218 27 (Int32.toNatClampNeg p0) rfl).trans ((up2_o hV210 (by decide)).trans ((ajV151 27 (Int32.toNatClampNeg p0) rfl).trans ((up2_o hV140 (by decide)).trans (ajV13 27 (Int32.toNatClampNeg p0) rfl)))))))) ?_
                  refine lv_iconst (v := 1) hx hb dX12_takeNeed_117 (by decide) ?_
                  refine lv_iadd hx hb dX12_takeNeed_118 ?_
                  refine lv_topi (fun z315 ez315 => ?_)
                  have hz315 : z315.toInt = ((V 27 (Int32.toNatClampNeg p0))).toInt + 1 := i_add ez315 rfl (by decide) (by omega)
                  refine va_iast (D := D) (i := p0) (x := z315) hx hb hK hP hD hS 20 19 rfl rfl (i_in (a := p0.toInt) rfl (by omega)) dX12_takeNeed_119 (fun H locs hP hD hS => ?_)
                  obtain ⟨V316, hV316⟩ : ∃ z, z = up2 V314 27 (Int32.toNatClampNeg p0) z315 := ⟨_, rfl⟩
                  have hP : va_P D vwCl (mw ad kk ks.1 V316 L) H := by rw [hV316]; exact hP
                  have hD : va_D A (mw ad kk ks.1 V316 L) := by rw [hV316]; exact hD
                  have hMV316 : rgd bM V316 := hMV314.put hV316 (show 0 ≤ z315.toInt ∧ z315.toInt ≤ 8 from by omega)
                  have agV316 : agr [(0, 7), (0, 8)] [27, 28, 29, 30, 31, 35, 36, 37, 38] V V316 := agV314.up hV316 rfl
                  have pq317 : (V316 27 (Int32.toNatClampNeg p0)).toInt = z315.toInt := congrArg Int32.toInt (up2_s hV316)
                  have pq318 : (V316 0 8).toInt = ((V218 0 8)).toInt := congrArg Int32.toInt ((up2_o hV316 (by decide)).trans ((up2_o hV314 (by decide)).trans ((ajV309 0 8 rfl).trans (up2_o hV298 (by decide)))))
                  exact W.vret hx hb hr (fun t ht hW => ⟨⟨(V316, L), rfl, ⟨hMV316, agV316, alL, (show (V316 27 gc).toInt = (V 27 gc).toInt + 1 from by rw [← kgc]; omega), (Or.inr ⟨(show 1 ≤ (V316 0 8).toInt from by omega), (fun k => by rw [show (V316 0 8).toInt = (V218 0 8).toInt from by omega]; exact hb296 k)⟩)⟩, by rw [ht]; exact hP, va_K.moved hW.alike hK, hD⟩, hS.F ht⟩) hS.2.2 dX12_takeNeed_120
                · skip
                  have f319 : z305.toInt ≠ 0 := b_neq rfl (by decide) c312
                  exfalso; omega
          · skip
            have f320 : z147.toInt ≠ 0 := b_neq rfl (by decide) c208
            exfalso; omega
  · skip
    have f321 : 0 < ((V 0 8)).toInt := b_nle rfl (by decide) c3
    exfalso; omega
abbrev r_s_memberA : Room := { frames := 95, cells := 0, slots := 0, locals := 2864 }
abbrev q_s_memberA (D : va_G) (ks : KS) (ad : Nat → Nat) (kk : Nat → ClassId) (V : Vf) (L : Lf) (p0 : Int32) (bq : Nat) (gn : Nat) (gT : Tk) (gs : St) (gl : List Int64) (gc : Nat) (A : Nat → Prop) : Array Value → State → Outcome → State → Prop := va_Qv (fun (u : Vf × Lf) => rgd bM u.1 ∧ agr [(0, 7), (0, 8), (0, 48), (0, 50)] [27, 28, 29, 30, 31, 32, 33, 34, 35, 36, 37, 38, 45, 46, 47] V u.1 ∧ agL [27, 28, 29, 30, 31, 32, 33, 34, 35, 36, 37, 38, 45, 46, 47] L u.2 ∧ (Imp ((u.1 0 8).toInt = 0) ((u.1 0 48).toInt ≤ 2 * (u.1 0 7).toInt)) ∧ ((u.1 0 48).toInt ≤ 8120) ∧ (RdM gT gs (fun k => Imember :: k) (fun k => Imember :: k) (u.1 0 8).toInt (fun s9 => RelM u.1 u.2 bq gn gT s9 gl ∧ gs.1 0 + 1 ≤ s9.1 0 ∧ OWm u.1 gc s9 ∧ s9.2.1 2 = gs.2.1 2 ∧ s9.2.2.1 = gs.2.2.1))) (fun u t => gq D A (mw ad kk ks.1 u.1 u.2) (mty kk) t) A
set_option maxHeartbeats 4000000 in
set_option maxRecDepth 100000 in
theorem s_memberA (l : Launch) (D : va_G) (ks : KS) (sz : Nat) (ad : Nat → Nat) (kk : Nat → ClassId) (V : Vf) (L : Lf) (p0 : Int32) (bq : Nat) (gn : Nat) (gT : Tk) (gs : St) (gl : List Int64) (gc : Nat) (hMV : rgd bM V) (rg_p0 : 0 ≤ p0.toInt ∧ p0.toInt ≤ 47) (rel : RelM V L bq gn gT gs gl) (pgc : p0.toInt = (gc : Int)) (gc48 : gc < 48) (ow : OWm V gc gs) (kn125 : gT.1 (gs.1 0) ≠ 125) (ic : (V 0 51).toInt = (gc : Int)) (ia : (V 0 52).toInt = 0) (cc : (V 0 48).toInt ≤ 2 * (V 0 7).toInt)  : Met l yX12_member (Cond.code yX12_member cX12_member 3 none :: GW) r_s_memberA (va_Pc [.ref (ad 0), .int p0] (gp D ks (mw ad kk ks.1 V L) (mty kk) sz)) (q_s_memberA D ks ad kk V L p0 bq gn gT gs gl gc (va_A (mw ad kk ks.1 V L) sz)) 0 0 (va_A (mw ad kk ks.1 V L) sz) := by
  refine g_met (q_s_memberA D ks ad kk V L p0 bq gn gT gs gl gc) (by decide) (Nat.le_of_ble_eq_true rfl) ?_
  intro p e s m below meth c A ls H locs hx hb hr hml hown hg hlocks hin hnw hgk hP hK hD hS hA hl
  have hown : s.vm.findClass RX12 = some m.cls := hown
  have hl : lv_has ls 3 [(0, .ref (ad 0)), (1, .int p0)] := hl
  have hP : va_P D vwCl (mw ad kk ks.1 V L) H := hP
  have hD : va_D A (mw ad kk ks.1 V L) := hD
  have hK : va_K D vwCl (mty kk) s := hK
  have agV : agr [(0, 7), (0, 8), (0, 48), (0, 50)] [27, 28, 29, 30, 31, 32, 33, 34, 35, 36, 37, 38, 45, 46, 47] V V := agr.rf
  have alL : agL [27, 28, 29, 30, 31, 32, 33, 34, 35, 36, 37, 38, 45, 46, 47] L L := agL.rf
  have rf_p0 := i_full p0
  have r1 : (-1) ≤ ((V 0 51)).toInt ∧ ((V 0 51)).toInt ≤ 47 := hMV 0 51
  have r2 : 0 ≤ ((V 0 52)).toInt ∧ ((V 0 52)).toInt ≤ 1 := hMV 0 52
  have r3 : 0 ≤ ((V 0 48)).toInt ∧ ((V 0 48)).toInt ≤ 10000 := hMV 0 48
  have rg0 := RelM.rg rel
  have cl0 := RelM.cl rel
  have cq0 := RelM.cq rel
  have kgc : Int32.toNatClampNeg p0 = gc := by have h9 := i_clamp (x := p0) rfl (by omega); omega
  have q27 : (V 27 (Int32.toNatClampNeg p0)).toInt = (V 27 gc).toInt := by rw [kgc]
  have q32 : (V 32 (Int32.toNatClampNeg p0)).toInt = (V 32 gc).toInt := by rw [kgc]
  have q33 : (V 33 (Int32.toNatClampNeg p0)).toInt = (V 33 gc).toInt := by rw [kgc]
  refine lv_aload_n hx hb dX12_member_0 rfl (lv_at hl 0 rfl) ?_
  refine lv_bipush (v := 9) hx hb dX12_member_1 (by decide) ?_
  have r4 : Int32.toInt 9 = 9 := by decide
  refine gA_int (gA_runV (As := [.int 9]) (rest := []) (ci := 12) (q0 := 0) hx hb hml hown hg hP hD hK hS hA hnw hgk (s_isWordA l D ks H.size ad kk V L 9 (bq) (gn) (gT) (gs) (gl) hMV (by decide) rel) w2023 w2025 w83 w172 w2026 rfl rfl hdV_yX12_isWord ⟨Nat.le_of_ble_eq_true rfl, Nat.le_of_ble_eq_true rfl⟩ rfl hl.1 rfl (Nat.le_of_ble_eq_true rfl) dX12_member_3 ⟨Nat.le_of_ble_eq_true rfl, Nat.le_of_ble_eq_true rfl⟩) hP hD hK hS hA (fun z5 u6 H locs w7 hP hD hK hS => ?_)
  obtain ⟨rgz5, t8⟩ := w7
  have rgz5 : 0 ≤ z5.toInt ∧ z5.toInt ≤ 1 := rgz5
  have t8 : (z5.toInt = 1 ∧ (gT).1 ((gs).1 0) = 128 + (Int32.toInt 9)) ∨ (z5.toInt = 0 ∧ (gT).1 ((gs).1 0) ≠ 128 + (Int32.toInt 9)) := t8
  rcases t8 with ⟨q9, h10⟩ | ⟨q9, h10⟩
  · skip
    have kd11 : gT.1 (gs.1 0) = 137 := h10.trans (by decide)
    refine lv_if_eq (tgt := 37) hx hb dX12_member_6 (by decide) (fun c12 => ?_) (fun c12 => ?_)
    · skip
      have f13 : z5.toInt = 0 := b_eq rfl (by decide) c12
      exfalso; omega
    · skip
      have f14 : z5.toInt ≠ 0 := b_neq rfl (by decide) c12
      refine lv_aload_n hx hb dX12_member_9 rfl (lv_at hl 0 rfl) ?_
      refine lv_aload_n hx hb dX12_member_10 rfl (lv_at hl 0 rfl) ?_
      refine va_get (D := D) (ci := 12) (v := .ref (ad 27)) (C := RX12) (T := TX12) (N := 100) hx hb hg inX12 hown hK hP 0 rfl rfl 27 (by decide) (hg _ w1733) (fun _ h9 => h9) rfl dX12_member_11 ?_
      refine lv_iload_n hx hb dX12_member_14 rfl (lv_at hl 1 rfl) ?_
      refine va_iald (D := D) (i := p0) hx hb hK hP 20 19 rfl rfl (i_in (a := p0.toInt) rfl (by omega)) dX12_member_15 ?_
      have r15 : 0 ≤ ((V 27 (Int32.toNatClampNeg p0))).toInt ∧ ((V 27 (Int32.toNatClampNeg p0))).toInt ≤ 8 := hMV 27 (Int32.toNatClampNeg p0)
      refine lv_bipush (v := 8) hx hb dX12_member_16 (by decide) ?_
      refine lv_icmp_ne (tgt := 25) hx hb dX12_member_18 (by decide) (fun c16 => ?_) (fun c16 => ?_)
      · skip
        have f17 : ((V 27 (Int32.toNatClampNeg p0))).toInt ≠ 8 := b_neq rfl (by decide) c16
        refine lv_iconst (v := 0) hx hb dX12_member_25 (by decide) ?_
        have r18 : Int32.toInt 0 = 0 := by decide
        refine gA_void (gA_runV (As := [.int 0]) (rest := []) (ci := 12) (q0 := 0) hx hb hml hown hg hP hD hK hS hA hnw hgk (s_beginsA l D ks H.size ad kk V L 0 (bq) (gn) (gT) (gs) (gl) hMV (by decide) rel (by rw [kd11]; decide)) w2031 w2033 w85 w172 w2034 rfl rfl hdV_yX12_begins ⟨Nat.le_of_ble_eq_true rfl, Nat.le_of_ble_eq_true rfl⟩ rfl hl.1 rfl (Nat.le_of_ble_eq_true rfl) dX12_member_26 ⟨Nat.le_of_ble_eq_true rfl, Nat.le_of_ble_eq_true rfl⟩) hP hD hK hS hA (fun u20 H locs w21 hP hD hK hS => ?_)
        obtain ⟨V23, L24⟩ := u20
        obtain ⟨hMV23, ajV23, axL24, t22⟩ := w21
        have axL24 : L = L24 := Eq.symm axL24
        subst axL24
        have hP : va_P D vwCl (mw ad kk ks.1 V23 L) H := hP
        have hD : va_D A (mw ad kk ks.1 V23 L) := hD
        have hMV23 : rgd bM V23 := hMV23
        have ajV23 : agr [(0, 7), (0, 8)] [] V V23 := ajV23
        have agV23 : agr [(0, 7), (0, 8), (0, 48), (0, 50)] [27, 28, 29, 30, 31, 32, 33, 34, 35, 36, 37, 38, 45, 46, 47] V V23 := agV.tr ajV23 (by decide) (by decide)
        have t22 : ((Int32.toInt 0) = 0 ∧ (V23 0 8).toInt = 0 ∧ RelM V23 L (bq) (gn) (gT) (nx (gs) 1) (gl)) ∨ ((Int32.toInt 0) = 1 ∧ 1 ≤ (V23 0 8).toInt ∧ (V23 0 8).toInt = 5 + 16 * (gT).2.2 ((gs).1 0)) := t22
        rcases t22 with ⟨q25, f26, rl27⟩ | ⟨q25, f26, rl27⟩
        · skip
          have hr28 : ∀ k, Rc gT (Crun gs (Imember :: k)) (Crun gs (Imember :: k)) := fun k => Rc.rf
          have hr29 : ∀ k, Rc gT (Crun gs (Imember :: k)) (Crun (nx gs 1) (IneedK :: k)) := fun k => Rc.go1 (hr28 k) (mb_137 kd11 (by have h9 := ow.1; omega))
          have ps30 : (nx gs 1).1 0 = gs.1 0 + 1 := rfl
          have fz31 := RelM.rg rl27
          have r32 : 0 ≤ ((V23 0 8)).toInt ∧ ((V23 0 8)).toInt ≤ 70000 := hMV23 0 8
          refine lv_aload_n hx hb dX12_member_29 rfl (lv_at hl 0 rfl) ?_
          refine lv_iload_n hx hb dX12_member_30 rfl (lv_at hl 1 rfl) ?_
          have pq33 : (V23 27 gc).toInt = ((V 27 gc)).toInt := congrArg Int32.toInt (ajV23 27 gc rfl)
          have r34 : 0 ≤ ((V 27 gc)).toInt ∧ ((V 27 gc)).toInt ≤ 8 := hMV 27 gc
          refine gA_void (gA_runV (As := [.int p0]) (rest := []) (ci := 12) (q0 := 0) hx hb hml hown hg hP hD hK hS hA hnw hgk (s_takeNeedA l D ks H.size ad kk V23 L p0 (bq) (gn) (gT) ((nx gs 1)) (gl) (gc) hMV23 (by omega) rl27 (show p0.toInt = ((gc) : Int) from by omega) (show (gc) < 48 from by omega) (show (V23 27 (gc)).toInt ≤ 7 from by omega)) w2108 w2110 w104 w172 w2111 rfl rfl hdV_yX12_takeNeed ⟨Nat.le_of_ble_eq_true rfl, Nat.le_of_ble_eq_true rfl⟩ rfl hl.1 rfl (Nat.le_of_ble_eq_true rfl) dX12_member_31 ⟨Nat.le_of_ble_eq_true rfl, Nat.le_of_ble_eq_true rfl⟩) hP hD hK hS hA (fun u36 H locs w37 hP hD hK hS => ?_)
          obtain ⟨V40, L41⟩ := u36
          obtain ⟨hMV40, ajV40, axL41, t38, t39⟩ := w37
          have alL41 : agL [27, 28, 29, 30, 31, 32, 33, 34, 35, 36, 37, 38, 45, 46, 47] L L41 := agL.tr alL axL41 (by decide)
          have hP : va_P D vwCl (mw ad kk ks.1 V40 L41) H := hP
          have hD : va_D A (mw ad kk ks.1 V40 L41) := hD
          have hMV40 : rgd bM V40 := hMV40
          have ajV40 : agr [(0, 7), (0, 8)] [27, 28, 29, 30, 31, 35, 36, 37, 38] V23 V40 := ajV40
          have agV40 : agr [(0, 7), (0, 8), (0, 48), (0, 50)] [27, 28, 29, 30, 31, 32, 33, 34, 35, 36, 37, 38, 45, 46, 47] V V40 := agV23.tr ajV40 (by decide) (by decide)
          have t38 : (V40 27 (gc)).toInt = (V23 27 (gc)).toInt + 1 := t38
          have t39 : RdM (gT) ((nx gs 1)) (fun k => IneedK :: k) (fun k => Itake 59 :: IaddNeed :: Imember :: k) (V40 0 8).toInt (fun s9 => RelM V40 L41 (bq) (gn) (gT) s9 (gl) ∧ keepS ((nx gs 1)) 1 s9) := t39
          rcases t39 with ⟨q42, sx43, h44, rl45, kp46⟩ | ⟨q42, h44⟩
          · skip
            have hr47 : ∀ k, Rc gT (Crun gs (Imember :: k)) (Crun sx43 (Itake 59 :: IaddNeed :: Imember :: k)) := fun k => (hr29 k).tr (h44 (k))
            have fz48 := RelM.rg rl45
            have r49 : 0 ≤ ((V40 0 8)).toInt ∧ ((V40 0 8)).toInt ≤ 70000 := hMV40 0 8
            have ps50 := (kp46).1
            refine lv_goto (tgt := 187) hx hb dX12_member_34 (by decide) ?_
            refine lv_aload_n hx hb dX12_member_187 rfl (lv_at hl 0 rfl) ?_
            refine lv_bipush (v := 59) hx hb dX12_member_188 (by decide) ?_
            have r51 : Int32.toInt 59 = 59 := by decide
            refine gA_void (gA_runV (As := [.int 59]) (rest := []) (ci := 12) (q0 := 0) hx hb hml hown hg hP hD hK hS hA hnw hgk (s_takeSignA l D ks H.size ad kk V40 L41 59 (bq) (gn) (gT) (sx43) (gl) hMV40 rl45 (sg_yes (j := 59) (by decide) (by decide) (by decide))) w2075 w2077 w96 w172 w2078 rfl rfl hdV_yX12_takeSign ⟨Nat.le_of_ble_eq_true rfl, Nat.le_of_ble_eq_true rfl⟩ rfl hl.1 rfl (Nat.le_of_ble_eq_true rfl) dX12_member_190 ⟨Nat.le_of_ble_eq_true rfl, Nat.le_of_ble_eq_true rfl⟩) hP hD hK hS hA (fun u53 H locs w54 hP hD hK hS => ?_)
            obtain ⟨V56, L57⟩ := u53
            obtain ⟨hMV56, ajV56, axL57, t55⟩ := w54
            have axL57 : L41 = L57 := Eq.symm axL57
            subst axL57
            have hP : va_P D vwCl (mw ad kk ks.1 V56 L41) H := hP
            have hD : va_D A (mw ad kk ks.1 V56 L41) := hD
            have hMV56 : rgd bM V56 := hMV56
            have ajV56 : agr [(0, 7), (0, 8)] [] V40 V56 := ajV56
            have agV56 : agr [(0, 7), (0, 8), (0, 48), (0, 50)] [27, 28, 29, 30, 31, 32, 33, 34, 35, 36, 37, 38, 45, 46, 47] V V56 := agV40.tr ajV56 (by decide) (by decide)
            have t55 : ((V56 0 8).toInt = 0 ∧ (gT).1 ((sx43).1 0) = (Int32.toInt 59) ∧ RelM V56 L41 (bq) (gn) (gT) (nx (sx43) 1) (gl)) ∨ (1 ≤ (V56 0 8).toInt ∧ (gT).1 ((sx43).1 0) ≠ (Int32.toInt 59) ∧ (V56 0 8).toInt = 1 + 16 * (gT).2.2 ((sx43).1 0)) := t55
            rcases t55 with ⟨q58, h59, rl60⟩ | ⟨q58, h59, rl60⟩
            · skip
              have kd61 : gT.1 (sx43.1 0) = 59 := h59.trans (by decide)
              have hr62 : ∀ k, Rc gT (Crun gs (Imember :: k)) (Crun (nx sx43 1) (IaddNeed :: Imember :: k)) := fun k => Rc.go1 (hr47 k) (tk_y kd61)
              have ps63 : (nx sx43 1).1 0 = sx43.1 0 + 1 := rfl
              have fz64 := RelM.rg rl60
              have r65 : 0 ≤ ((V56 0 8)).toInt ∧ ((V56 0 8)).toInt ≤ 70000 := hMV56 0 8
              have rl66 : RelM V56 L41 bq gn gT (sN (nx sx43 1) 1 ((nx sx43 1).1 1 + 1)) gl := rl60
              have hr67 : ∀ k, Rc gT (Crun gs (Imember :: k)) (Crun (sN (nx sx43 1) 1 ((nx sx43 1).1 1 + 1)) (Imember :: k)) := fun k => Rc.go1 (hr62 k) (m_addNeed)
              have ps68 : (sN (nx sx43 1) 1 ((nx sx43 1).1 1 + 1)).1 0 = (nx sx43 1).1 0 := rfl
              have pq69 : (V56 0 48).toInt = ((V 0 48)).toInt := congrArg Int32.toInt ((ajV56 0 48 rfl).trans ((ajV40 0 48 rfl).trans (ajV23 0 48 rfl)))
              have ps70 : gs.1 0 + 1 ≤ (nx gs 1).1 0 := ((keepS.n1 1)).1
              have ps71 : (nx gs 1).1 0 + 1 ≤ sx43.1 0 := (kp46).1
              have ps72 : sx43.1 0 + 1 ≤ (nx sx43 1).1 0 := ((keepS.n1 1)).1
              have ps73 : (sN (nx sx43 1) 1 ((nx sx43 1).1 1 + 1)).1 0 = (nx sx43 1).1 0 := rfl
              exact W.vret hx hb hr (fun t ht hW => ⟨⟨(V56, L41), rfl, ⟨hMV56, agV56, alL41, (Imp.mk (fun hp => have hp : (V56 0 8).toInt = 0 := hp; (show (V56 0 48).toInt ≤ 2 * (V56 0 7).toInt from by omega))), (show (V56 0 48).toInt ≤ 8120 from by omega), (Or.inl ⟨W0 rl66, (sN (nx sx43 1) 1 ((nx sx43 1).1 1 + 1)), hr67, rl66, (by omega), (OWm.nd ow (keepS.tr (keepS.tr (keepS.tr (keepS.rf : keepS gs 0 gs) (keepS.n1 1)) kp46) (keepS.n1 1)) (show (gs.2.1 3).length ≤ ((nx sx43 1).2.1 3).length from by have h9 := Rc.ml (hr67 []); exact h9) (show (V56 27 gc).toInt = (V 27 gc).toInt + 1 from by have h9 := t38; rw [show V23 27 gc = V 27 gc from ((ajV23 27 _ rfl).trans rfl)] at h9; rw [show V56 27 gc = V40 27 gc from ((ajV56 27 _ rfl).trans rfl)]; exact h9) (show V56 32 gc = V 32 gc from ((ajV56 32 _ rfl).trans ((ajV40 32 _ rfl).trans ((ajV23 32 _ rfl).trans rfl)))) (show V56 33 gc = V 33 gc from ((ajV56 33 _ rfl).trans ((ajV40 33 _ rfl).trans ((ajV23 33 _ rfl).trans rfl)))) (fun f hf => ((show agr [(0, 7), (0, 8)] [27, 28, 29, 30, 31, 35, 36, 37, 38] V V56 from (agr.tr (agr.tr (agr.tr agr.rf ajV23 (by decide) (by decide)) ajV40 (by decide) (by decide)) ajV56 (by decide) (by decide))) 34 _ rfl))), ((rfl : (sN (nx sx43 1) 1 ((nx sx43 1).1 1 + 1)).2.1 2 = (nx sx43 1).2.1 2).trans ((((keepS.n1 1)).2.2.1 2 (by decide)).trans (((kp46).2.2.1 2 (by decide)).trans ((((keepS.n1 1)).2.2.1 2 (by decide)).trans (rfl : gs.2.1 2 = gs.2.1 2))))), ((rfl : (sN (nx sx43 1) 1 ((nx sx43 1).1 1 + 1)).2.2.1 = (nx sx43 1).2.2.1).trans ((congrArg (fun q9 => q9.1) ((keepS.n1 1)).2.2.2).trans ((congrArg (fun q9 => q9.1) (kp46).2.2.2).trans ((congrArg (fun q9 => q9.1) ((keepS.n1 1)).2.2.2).trans (rfl : gs.2.2.1 = gs.2.2.1)))))⟩)⟩, by rw [ht]; exact hP, va_K.moved hW.alike hK, hD⟩, hS.F ht⟩) hS.2.2 dX12_member_193
            · skip
              have kd74 : gT.1 (sx43.1 0) ≠ 59 := fun h9 => h59 (h9.trans (by decide))
              have hb75 : ∀ k, Rc gT (Crun gs (Imember :: k)) (Cbad (V56 0 8).toInt) := fun k => Rc.go1 (hr47 k) ((tk_n kd74).trans (fl_eq rfl rl60))
              have r76 : 0 ≤ ((V56 0 8)).toInt ∧ ((V56 0 8)).toInt ≤ 70000 := hMV56 0 8
              have pq77 : (V56 0 48).toInt = ((V 0 48)).toInt := congrArg Int32.toInt ((ajV56 0 48 rfl).trans ((ajV40 0 48 rfl).trans (ajV23 0 48 rfl)))
              exact W.vret hx hb hr (fun t ht hW => ⟨⟨(V56, L41), rfl, ⟨hMV56, agV56, alL41, (Imp.mk (fun hp => have hp : (V56 0 8).toInt = 0 := hp; (show (V56 0 48).toInt ≤ 2 * (V56 0 7).toInt from by omega))), (show (V56 0 48).toInt ≤ 8120 from by omega), (Or.inr ⟨(show 1 ≤ (V56 0 8).toInt from by omega), hb75⟩)⟩, by rw [ht]; exact hP, va_K.moved hW.alike hK, hD⟩, hS.F ht⟩) hS.2.2 dX12_member_193
          · skip
            have hb78 : ∀ k, Rc gT (Crun gs (Imember :: k)) (Cbad (V40 0 8).toInt) := fun k => (hr29 k).tr (h44 (k))
            have r79 : 0 ≤ ((V40 0 8)).toInt ∧ ((V40 0 8)).toInt ≤ 70000 := hMV40 0 8
            refine lv_goto (tgt := 187) hx hb dX12_member_34 (by decide) ?_
            refine lv_aload_n hx hb dX12_member_187 rfl (lv_at hl 0 rfl) ?_
            refine lv_bipush (v := 59) hx hb dX12_member_188 (by decide) ?_
            have r80 : Int32.toInt 59 = 59 := by decide
            refine gA_void (gA_runV (As := [.int 59]) (rest := []) (ci := 12) (q0 := 0) hx hb hml hown hg hP hD hK hS hA hnw hgk (s_takeSignB l D ks H.size ad kk V40 L41 59 hMV40 (show 1 ≤ (V40 0 8).toInt from by omega)) w2075 w2077 w96 w172 w2078 rfl rfl hdV_yX12_takeSign ⟨Nat.le_of_ble_eq_true rfl, Nat.le_of_ble_eq_true rfl⟩ rfl hl.1 rfl (Nat.le_of_ble_eq_true rfl) dX12_member_190 ⟨Nat.le_of_ble_eq_true rfl, Nat.le_of_ble_eq_true rfl⟩) hP hD hK hS hA (fun u82 H locs w83 hP hD hK hS => ?_)
            obtain ⟨V85, L86⟩ := u82
            obtain ⟨hMV85, ajV85, axL86, t84⟩ := w83
            have axL86 : L41 = L86 := Eq.symm axL86
            subst axL86
            have hP : va_P D vwCl (mw ad kk ks.1 V85 L41) H := hP
            have hD : va_D A (mw ad kk ks.1 V85 L41) := hD
            have hMV85 : rgd bM V85 := hMV85
            have ajV85 : agr [(0, 7), (0, 8)] [] V40 V85 := ajV85
            have agV85 : agr [(0, 7), (0, 8), (0, 48), (0, 50)] [27, 28, 29, 30, 31, 32, 33, 34, 35, 36, 37, 38, 45, 46, 47] V V85 := agV40.tr ajV85 (by decide) (by decide)
            have t84 : (V85 0 8).toInt = (V40 0 8).toInt := t84
            have r87 : 0 ≤ ((V85 0 8)).toInt ∧ ((V85 0 8)).toInt ≤ 70000 := hMV85 0 8
            have pq88 : (V85 0 48).toInt = ((V 0 48)).toInt := congrArg Int32.toInt ((ajV85 0 48 rfl).trans ((ajV40 0 48 rfl).trans (ajV23 0 48 rfl)))
            exact W.vret hx hb hr (fun t ht hW => ⟨⟨(V85, L41), rfl, ⟨hMV85, agV85, alL41, (Imp.mk (fun hp => have hp : (V85 0 8).toInt = 0 := hp; (show (V85 0 48).toInt ≤ 2 * (V85 0 7).toInt from by omega))), (show (V85 0 48).toInt ≤ 8120 from by omega), (Or.inr ⟨(show 1 ≤ (V85 0 8).toInt from by omega), (fun k => by rw [show (V85 0 8).toInt = (V40 0 8).toInt from by omega]; exact hb78 k)⟩)⟩, by rw [ht]; exact hP, va_K.moved hW.alike hK, hD⟩, hS.F ht⟩) hS.2.2 dX12_member_193
        · skip
          exfalso; omega
      · skip
        have f89 : ((V 27 (Int32.toNatClampNeg p0))).toInt = 8 := b_eq rfl (by decide) c16
        refine lv_iconst (v := 1) hx hb dX12_member_21 (by decide) ?_
        refine lv_goto (tgt := 26) hx hb dX12_member_22 (by decide) ?_
        have r90 : Int32.toInt 1 = 1 := by decide
        refine gA_void (gA_runV (As := [.int 1]) (rest := []) (ci := 12) (q0 := 0) hx hb hml hown hg hP hD hK hS hA hnw hgk (s_beginsA l D ks H.size ad kk V L 1 (bq) (gn) (gT) (gs) (gl) hMV (by decide) rel (by rw [kd11]; decide)) w2031 w2033 w85 w172 w2034 rfl rfl hdV_yX12_begins ⟨Nat.le_of_ble_eq_true rfl, Nat.le_of_ble_eq_true rfl⟩ rfl hl.1 rfl (Nat.le_of_ble_eq_true rfl) dX12_member_26 ⟨Nat.le_of_ble_eq_true rfl, Nat.le_of_ble_eq_true rfl⟩) hP hD hK hS hA (fun u92 H locs w93 hP hD hK hS => ?_)
        obtain ⟨V95, L96⟩ := u92
        obtain ⟨hMV95, ajV95, axL96, t94⟩ := w93
        have axL96 : L = L96 := Eq.symm axL96
        subst axL96
        have hP : va_P D vwCl (mw ad kk ks.1 V95 L) H := hP
        have hD : va_D A (mw ad kk ks.1 V95 L) := hD
        have hMV95 : rgd bM V95 := hMV95
        have ajV95 : agr [(0, 7), (0, 8)] [] V V95 := ajV95
        have agV95 : agr [(0, 7), (0, 8), (0, 48), (0, 50)] [27, 28, 29, 30, 31, 32, 33, 34, 35, 36, 37, 38, 45, 46, 47] V V95 := agV.tr ajV95 (by decide) (by decide)
        have t94 : ((Int32.toInt 1) = 0 ∧ (V95 0 8).toInt = 0 ∧ RelM V95 L (bq) (gn) (gT) (nx (gs) 1) (gl)) ∨ ((Int32.toInt 1) = 1 ∧ 1 ≤ (V95 0 8).toInt ∧ (V95 0 8).toInt = 5 + 16 * (gT).2.2 ((gs).1 0)) := t94
        rcases t94 with ⟨q97, f98, rl99⟩ | ⟨q97, f98, rl99⟩
        · skip
          exfalso; omega
        · skip
          have hr100 : ∀ k, Rc gT (Crun gs (Imember :: k)) (Crun gs (Imember :: k)) := fun k => Rc.rf
          have hb101 : ∀ k, Rc gT (Crun gs (Imember :: k)) (Cbad (V95 0 8).toInt) := fun k => Rc.go1 (hr100 k) ((mb_137f kd11 (by have h9 := ow.1; omega)).trans (fl_eq rfl rl99))
          have r102 : 0 ≤ ((V95 0 8)).toInt ∧ ((V95 0 8)).toInt ≤ 70000 := hMV95 0 8
          refine lv_aload_n hx hb dX12_member_29 rfl (lv_at hl 0 rfl) ?_
          refine lv_iload_n hx hb dX12_member_30 rfl (lv_at hl 1 rfl) ?_
          refine gA_void (gA_runV (As := [.int p0]) (rest := []) (ci := 12) (q0 := 0) hx hb hml hown hg hP hD hK hS hA hnw hgk (s_takeNeedB l D ks H.size ad kk V95 L p0 hMV95 (by omega) (show 1 ≤ (V95 0 8).toInt from by omega)) w2108 w2110 w104 w172 w2111 rfl rfl hdV_yX12_takeNeed ⟨Nat.le_of_ble_eq_true rfl, Nat.le_of_ble_eq_true rfl⟩ rfl hl.1 rfl (Nat.le_of_ble_eq_true rfl) dX12_member_31 ⟨Nat.le_of_ble_eq_true rfl, Nat.le_of_ble_eq_true rfl⟩) hP hD hK hS hA (fun u104 H locs w105 hP hD hK hS => ?_)
          obtain ⟨V107, L108⟩ := u104
          obtain ⟨hMV107, ajV107, axL108, t106⟩ := w105
          have alL108 : agL [27, 28, 29, 30, 31, 32, 33, 34, 35, 36, 37, 38, 45, 46, 47] L L108 := agL.tr alL axL108 (by decide)
          have hP : va_P D vwCl (mw ad kk ks.1 V107 L108) H := hP
          have hD : va_D A (mw ad kk ks.1 V107 L108) := hD
          have hMV107 : rgd bM V107 := hMV107
          have ajV107 : agr [(0, 7), (0, 8)] [27, 28, 29, 30, 31, 35, 36, 37, 38] V95 V107 := ajV107
          have agV107 : agr [(0, 7), (0, 8), (0, 48), (0, 50)] [27, 28, 29, 30, 31, 32, 33, 34, 35, 36, 37, 38, 45, 46, 47] V V107 := agV95.tr ajV107 (by decide) (by decide)
          have t106 : (V107 0 8).toInt = (V95 0 8).toInt := t106
          have r109 : 0 ≤ ((V107 0 8)).toInt ∧ ((V107 0 8)).toInt ≤ 70000 := hMV107 0 8
          refine lv_goto (tgt := 187) hx hb dX12_member_34 (by decide) ?_
          refine lv_aload_n hx hb dX12_member_187 rfl (lv_at hl 0 rfl) ?_
          refine lv_bipush (v := 59) hx hb dX12_member_188 (by decide) ?_
          have r110 : Int32.toInt 59 = 59 := by decide
          refine gA_void (gA_runV (As := [.int 59]) (rest := []) (ci := 12) (q0 := 0) hx hb hml hown hg hP hD hK hS hA hnw hgk (s_takeSignB l D ks H.size ad kk V107 L108 59 hMV107 (show 1 ≤ (V107 0 8).toInt from by omega)) w2075 w2077 w96 w172 w2078 rfl rfl hdV_yX12_takeSign ⟨Nat.le_of_ble_eq_true rfl, Nat.le_of_ble_eq_true rfl⟩ rfl hl.1 rfl (Nat.le_of_ble_eq_true rfl) dX12_member_190 ⟨Nat.le_of_ble_eq_true rfl, Nat.le_of_ble_eq_true rfl⟩) hP hD hK hS hA (fun u112 H locs w113 hP hD hK hS => ?_)
          obtain ⟨V115, L116⟩ := u112
          obtain ⟨hMV115, ajV115, axL116, t114⟩ := w113
          have axL116 : L108 = L116 := Eq.symm axL116
          subst axL116
          have hP : va_P D vwCl (mw ad kk ks.1 V115 L108) H := hP
          have hD : va_D A (mw ad kk ks.1 V115 L108) := hD
          have hMV115 : rgd bM V115 := hMV115
          have ajV115 : agr [(0, 7), (0, 8)] [] V107 V115 := ajV115
          have agV115 : agr [(0, 7), (0, 8), (0, 48), (0, 50)] [27, 28, 29, 30, 31, 32, 33, 34, 35, 36, 37, 38, 45, 46, 47] V V115 := agV107.tr ajV115 (by decide) (by decide)
          have t114 : (V115 0 8).toInt = (V107 0 8).toInt := t114
          have r117 : 0 ≤ ((V115 0 8)).toInt ∧ ((V115 0 8)).toInt ≤ 70000 := hMV115 0 8
          have pq118 : (V115 0 48).toInt = ((V 0 48)).toInt := congrArg Int32.toInt ((ajV115 0 48 rfl).trans ((ajV107 0 48 rfl).trans (ajV95 0 48 rfl)))
          exact W.vret hx hb hr (fun t ht hW => ⟨⟨(V115, L108), rfl, ⟨hMV115, agV115, alL108, (Imp.mk (fun hp => have hp : (V115 0 8).toInt = 0 := hp; (show (V115 0 48).toInt ≤ 2 * (V115 0 7).toInt from by omega))), (show (V115 0 48).toInt ≤ 8120 from by omega), (Or.inr ⟨(show 1 ≤ (V115 0 8).toInt from by omega), (fun k => by rw [show (V115 0 8).toInt = (V95 0 8).toInt from by omega]; exact hb101 k)⟩)⟩, by rw [ht]; exact hP, va_K.moved hW.alike hK, hD⟩, hS.F ht⟩) hS.2.2 dX12_member_193
  · skip
    have kd119 : gT.1 (gs.1 0) ≠ 137 := fun h9 => h10 (h9.trans (by decide))
    refine lv_if_eq (tgt := 37) hx hb dX12_member_6 (by decide) (fun c120 => ?_) (fun c120 => ?_)
    · skip
      have f121 : z5.toInt = 0 := b_eq rfl (by decide) c120
      refine lv_aload_n hx hb dX12_member_37 rfl (lv_at hl 0 rfl) ?_
      refine va_get (D := D) (ci := 12) (v := .ref (ad 32)) (C := RX12) (T := TX12) (N := 100) hx hb hg inX12 hown hK hP 0 rfl rfl 32 (by decide) (hg _ w1738) (fun _ h9 => h9) rfl dX12_member_38 ?_
      refine lv_iload_n hx hb dX12_member_41 rfl (lv_at hl 1 rfl) ?_
      refine va_iald (D := D) (i := p0) hx hb hK hP 25 24 rfl rfl (i_in (a := p0.toInt) rfl (by omega)) dX12_member_42 ?_
      refine lv_if_ge (tgt := 68) hx hb dX12_member_43 (by decide) (fun c122 => ?_) (fun c122 => ?_)
      · skip
        have f123 : 0 ≤ ((V 32 (Int32.toNatClampNeg p0))).toInt := b_le (by decide) rfl c122
        refine lv_aload_n hx hb dX12_member_68 rfl (lv_at hl 0 rfl) ?_
        refine va_get (D := D) (ci := 12) (v := .ref (ad 33)) (C := RX12) (T := TX12) (N := 100) hx hb hg inX12 hown hK hP 0 rfl rfl 33 (by decide) (hg _ w1739) (fun _ h9 => h9) rfl dX12_member_69 ?_
        refine lv_iload_n hx hb dX12_member_72 rfl (lv_at hl 1 rfl) ?_
        refine va_iald (D := D) (i := p0) hx hb hK hP 26 25 rfl rfl (i_in (a := p0.toInt) rfl (by omega)) dX12_member_73 ?_
        refine lv_if_ge (tgt := 99) hx hb dX12_member_74 (by decide) (fun c124 => ?_) (fun c124 => ?_)
        · skip
          have f125 : 0 ≤ ((V 33 (Int32.toNatClampNeg p0))).toInt := b_le (by decide) rfl c124
          refine lv_aload_n hx hb dX12_member_99 rfl (lv_at hl 0 rfl) ?_
          refine lv_bipush (v := 14) hx hb dX12_member_100 (by decide) ?_
          have r126 : Int32.toInt 14 = 14 := by decide
          refine gA_int (gA_runV (As := [.int 14]) (rest := []) (ci := 12) (q0 := 0) hx hb hml hown hg hP hD hK hS hA hnw hgk (s_hasWordA l D ks H.size ad kk V L 14 (bq) (gn) (gT) (gs) (gl) hMV (by decide) rel) w2051 w2053 w90 w172 w2054 rfl rfl hdV_yX12_hasWord ⟨Nat.le_of_ble_eq_true rfl, Nat.le_of_ble_eq_true rfl⟩ rfl hl.1 rfl (Nat.le_of_ble_eq_true rfl) dX12_member_102 ⟨Nat.le_of_ble_eq_true rfl, Nat.le_of_ble_eq_true rfl⟩) hP hD hK hS hA (fun z127 u128 H locs w129 hP hD hK hS => ?_)
          obtain ⟨V131, L132⟩ := u128
          obtain ⟨hMV131, ajV131, axL132, rgz127, t130⟩ := w129
          have axL132 : L = L132 := Eq.symm axL132
          subst axL132
          have hP : va_P D vwCl (mw ad kk ks.1 V131 L) H := hP
          have hD : va_D A (mw ad kk ks.1 V131 L) := hD
          have hMV131 : rgd bM V131 := hMV131
          have ajV131 : agr [(0, 7)] [] V V131 := ajV131
          have agV131 : agr [(0, 7), (0, 8), (0, 48), (0, 50)] [27, 28, 29, 30, 31, 32, 33, 34, 35, 36, 37, 38, 45, 46, 47] V V131 := agV.tr ajV131 (by decide) (by decide)
          have rgz127 : 0 ≤ z127.toInt ∧ z127.toInt ≤ 1 := rgz127
          have t130 : (z127.toInt = 1 ∧ (gT).1 ((gs).1 0) = 128 + (Int32.toInt 14) ∧ RelM V131 L (bq) (gn) (gT) (nx (gs) 1) (gl)) ∨ (z127.toInt = 0 ∧ (gT).1 ((gs).1 0) ≠ 128 + (Int32.toInt 14) ∧ RelM V131 L (bq) (gn) (gT) (gs) (gl)) := t130
          rcases t130 with ⟨q133, h134, rl135⟩ | ⟨q133, h134, rl135⟩
          · skip
            have kd136 : gT.1 (gs.1 0) = 142 := h134.trans (by decide)
            have hr137 : ∀ k, Rc gT (Crun gs (Imember :: k)) (Crun gs (Imember :: k)) := fun k => Rc.rf
            have hr138 : ∀ k, Rc gT (Crun gs (Imember :: k)) (Crun (nx gs 1) (ImethN :: Iexpr 0 :: Itake 59 :: Imember :: k)) := fun k => Rc.go1 (hr137 k) (mb_142 kd136)
            have ps139 : (nx gs 1).1 0 = gs.1 0 + 1 := rfl
            have fz140 := RelM.rg rl135
            have pq141 : (V131 0 8).toInt = ((V 0 8)).toInt := congrArg Int32.toInt (ajV131 0 8 rfl)
            have r142 : 0 ≤ ((V 0 8)).toInt ∧ ((V 0 8)).toInt ≤ 70000 := hMV 0 8
            refine lv_if_eq (tgt := 182) hx hb dX12_member_105 (by decide) (fun c143 => ?_) (fun c143 => ?_)
            · skip
              have f144 : z127.toInt = 0 := b_eq rfl (by decide) c143
              exfalso; omega
            · skip
              have f145 : z127.toInt ≠ 0 := b_neq rfl (by decide) c143
              refine lv_aload_n hx hb dX12_member_108 rfl (lv_at hl 0 rfl) ?_
              refine lv_aload_n hx hb dX12_member_109 rfl (lv_at hl 0 rfl) ?_
              refine va_get (D := D) (ci := 12) (v := .ref (ad 36)) (C := RX12) (T := TX12) (N := 100) hx hb hg inX12 hown hK hP 0 rfl rfl 36 (by decide) (hg _ w1742) (fun _ h9 => h9) rfl dX12_member_110 ?_
              refine lv_aload_n hx hb dX12_member_113 rfl (lv_at hl 0 rfl) ?_
              refine va_get (D := D) (ci := 12) (v := .ref (ad 35)) (C := RX12) (T := TX12) (N := 100) hx hb hg inX12 hown hK hP 0 rfl rfl 35 (by decide) (hg _ w1741) (fun _ h9 => h9) rfl dX12_member_114 ?_
              refine gA_int (gA_runV (As := [.ref (ad 36), .ref (ad 35)]) (rest := []) (ci := 12) (q0 := 0) hx hb hml hown hg hP hD hK hS hA hnw hgk (s_takeWordOf3 l D ks H.size ad kk V131 L (bq) (gn) (gT) ((nx gs 1)) (gl) hMV131 rl135) w2100 w2102 w102 w172 w2103 rfl rfl hdV_yX12_takeWordOf ⟨Nat.le_of_ble_eq_true rfl, Nat.le_of_ble_eq_true rfl⟩ rfl hl.1 rfl (Nat.le_of_ble_eq_true rfl) dX12_member_117 ⟨Nat.le_of_ble_eq_true rfl, Nat.le_of_ble_eq_true rfl⟩) hP hD hK hS hA (fun z146 u147 H locs w148 hP hD hK hS => ?_)
              obtain ⟨V150, L151⟩ := u147
              obtain ⟨hMV150, ajV150, axL151, rgz146, t149⟩ := w148
              have alL151 : agL [27, 28, 29, 30, 31, 32, 33, 34, 35, 36, 37, 38, 45, 46, 47] L L151 := agL.tr alL axL151 (by decide)
              have hP : va_P D vwCl (mw ad kk ks.1 V150 L151) H := hP
              have hD : va_D A (mw ad kk ks.1 V150 L151) := hD
              have hMV150 : rgd bM V150 := hMV150
              have ajV150 : agr [(0, 7), (0, 8)] [35, 36, 37, 38] V131 V150 := ajV150
              have agV150 : agr [(0, 7), (0, 8), (0, 48), (0, 50)] [27, 28, 29, 30, 31, 32, 33, 34, 35, 36, 37, 38, 45, 46, 47] V V150 := agV131.tr ajV150 (by decide) (by decide)
              have rgz146 : (-1) ≤ z146.toInt ∧ z146.toInt ≤ 19 := rgz146
              have t149 : KmS (mthW (gT) ((nx gs 1)) 3) (V150 0 8).toInt (fun x9 => RelM V150 L151 (bq) (gn) (gT) x9.2 (gl) ∧ z146.toInt = ((x9.1 : Nat) : Int) ∧ x9.1 < 20 ∧ keepS ((nx gs 1)) 1 x9.2 ∧ MTX (gT) ((nx gs 1)) 3 x9) := t149
              rcases t149 with ⟨q152, mx153, h154, rl155, hf156, hb157, kp158, mt159⟩ | ⟨q152, h154⟩
              · skip
                have ps160 := kp158.1
                have fz161 := RelM.rg rl155
                have r162 : 0 ≤ ((V150 0 8)).toInt ∧ ((V150 0 8)).toInt ≤ 70000 := hMV150 0 8
                refine lv_istore_n (lv' := [(2, .int z146), (0, .ref (ad 0)), (1, .int p0)]) hx hb dX12_member_120 rfl hl (by decide) rfl (fun ls hl => ?_)
                refine lv_aload_n hx hb dX12_member_121 rfl (lv_at hl 1 rfl) ?_
                refine va_get (D := D) (ci := 12) (v := .int (V150 0 8)) (C := RX12) (T := TX12) (N := 100) hx hb hg inX12 hown hK hP 0 rfl rfl 8 (by decide) (hg _ w1714) (fun _ h9 => h9) rfl dX12_member_122 ?_
                refine lv_if_ne (tgt := 157) hx hb dX12_member_125 (by decide) (fun c163 => ?_) (fun c163 => ?_)
                · skip
                  have f164 : ((V150 0 8)).toInt ≠ 0 := b_neq rfl (by decide) c163
                  exfalso; omega
                · skip
                  have f165 : ((V150 0 8)).toInt = 0 := b_eq rfl (by decide) c163
                  refine lv_aload_n hx hb dX12_member_128 rfl (lv_at hl 1 rfl) ?_
                  refine va_get (D := D) (ci := 12) (v := .ref (ad 34)) (C := RX12) (T := TX12) (N := 100) hx hb hg inX12 hown hK hP 0 rfl rfl 34 (by decide) (hg _ w1740) (fun _ h9 => h9) rfl dX12_member_129 ?_
                  refine lv_bipush (v := 20) hx hb dX12_member_132 (by decide) ?_
                  refine lv_iload_n hx hb dX12_member_134 rfl (lv_at hl 2 rfl) ?_
                  refine lv_imul hx hb dX12_member_135 ?_
                  refine lv_topi (fun z166 ez166 => ?_)
                  have hz166 : z166.toInt = 20 * p0.toInt := i_mul ez166 (by decide) rfl (by omega)
                  refine lv_iload_n hx hb dX12_member_136 rfl (lv_at hl 0 rfl) ?_
                  refine lv_iadd hx hb dX12_member_137 ?_
                  refine lv_topi (fun z167 ez167 => ?_)
                  have hz167 : z167.toInt = z166.toInt + z146.toInt := i_add ez167 rfl rfl (by omega)
                  refine va_iald (D := D) (i := z167) hx hb hK hP 27 26 rfl rfl (i_in (a := z167.toInt) rfl (by omega)) dX12_member_138 ?_
                  refine g_top (v := (V 34 (Int32.toNatClampNeg z167))) ((ajV150 34 (Int32.toNatClampNeg z167) rfl).trans (ajV131 34 (Int32.toNatClampNeg z167) rfl)) ?_
                  have kc169 : Int32.toNatClampNeg z167 = 20 * gc + mx153.1 := by have h9 := i_clamp (x := z167) rfl (by omega); omega
                  have ma168 : (V 34 (Int32.toNatClampNeg z167)).toInt = (V 34 (20 * gc + mx153.1)).toInt := by rw [kc169]
                  have ow5 := ow.2.2.2.2.1 mx153.1 hb157
                  have oS : (nx gs 1).2.2.2 = gs.2.2.2 := congrArg (fun q9 => q9.2) ((keepS.tr (keepS.rf : keepS gs 0 gs) (keepS.n1 1))).2.2.2
                  have oL : (nx gs 1).2.1 3 = gs.2.1 3 := rfl
                  refine lv_if_lt (tgt := 157) hx hb dX12_member_139 (by decide) (fun c170 => ?_) (fun c170 => ?_)
                  · skip
                    have f171 : ((V 34 (Int32.toNatClampNeg z167))).toInt < 0 := b_lt rfl (by decide) c170
                    refine lv_aload_n hx hb dX12_member_157 rfl (lv_at hl 1 rfl) ?_
                    refine va_get (D := D) (ci := 12) (v := .int (V150 0 8)) (C := RX12) (T := TX12) (N := 100) hx hb hg inX12 hown hK hP 0 rfl rfl 8 (by decide) (hg _ w1714) (fun _ h9 => h9) rfl dX12_member_158 ?_
                    refine lv_if_ne (tgt := 179) hx hb dX12_member_161 (by decide) (fun c172 => ?_) (fun c172 => ?_)
                    · skip
                      have f173 : ((V150 0 8)).toInt ≠ 0 := b_neq rfl (by decide) c172
                      exfalso; omega
                    · skip
                      have f174 : ((V150 0 8)).toInt = 0 := b_eq rfl (by decide) c172
                      have nt9 : mx153.1 ∉ (nx gs 1).2.2.2 := by rw [oS]; exact fun q9 => absurd (ow5.mpr q9) (by omega)
                      have hr175 : ∀ k, Rc gT (Crun gs (Imember :: k)) (Crun (sT mx153.2 (mx153.1 :: (nx gs 1).2.2.2)) (Iexpr 0 :: Itake 59 :: Imember :: k)) := fun k => Rc.go1 (hr138 k) (mn_y (MTX.new mt159 h154 nt9))
                      have ps176 : (sT mx153.2 (mx153.1 :: (nx gs 1).2.2.2)).1 0 = mx153.2.1 0 := rfl
                      have rl177 : RelM V150 L151 bq gn gT (sT mx153.2 (mx153.1 :: (nx gs 1).2.2.2)) gl := RelM.tl rl155
                      refine lv_aload_n hx hb dX12_member_164 rfl (lv_at hl 1 rfl) ?_
                      refine va_get (D := D) (ci := 12) (v := .ref (ad 34)) (C := RX12) (T := TX12) (N := 100) hx hb hg inX12 hown hK hP 0 rfl rfl 34 (by decide) (hg _ w1740) (fun _ h9 => h9) rfl dX12_member_165 ?_
                      refine lv_bipush (v := 20) hx hb dX12_member_168 (by decide) ?_
                      refine lv_iload_n hx hb dX12_member_170 rfl (lv_at hl 2 rfl) ?_
                      refine lv_imul hx hb dX12_member_171 ?_
                      refine lv_topi (fun z178 ez178 => ?_)
                      have hz178 : z178.toInt = 20 * p0.toInt := i_mul ez178 (by decide) rfl (by omega)
                      refine lv_iload_n hx hb dX12_member_172 rfl (lv_at hl 0 rfl) ?_
                      refine lv_iadd hx hb dX12_member_173 ?_
                      refine lv_topi (fun z179 ez179 => ?_)
                      have hz179 : z179.toInt = z178.toInt + z146.toInt := i_add ez179 rfl rfl (by omega)
                      refine lv_aload_n hx hb dX12_member_174 rfl (lv_at hl 1 rfl) ?_
                      have pq180 : (V150 0 48).toInt = ((V 0 48)).toInt := congrArg Int32.toInt ((ajV150 0 48 rfl).trans (ajV131 0 48 rfl))
                      have pq181 : (V150 0 51).toInt = ((V 0 51)).toInt := congrArg Int32.toInt ((ajV150 0 51 rfl).trans (ajV131 0 51 rfl))
                      have pq182 : (V150 0 52).toInt = ((V 0 52)).toInt := congrArg Int32.toInt ((ajV150 0 52 rfl).trans (ajV131 0 52 rfl))
                      refine gA_int (gA_runV (As := []) (rest := [.int z179, .ref (ad 34)]) (ci := 12) (q0 := 0) hx hb hml hown hg hP hD hK hS hA hnw hgk (s_codeA l D ks H.size ad kk V150 L151 (bq) (gn) (gT) ((sT mx153.2 (mx153.1 :: (nx gs 1).2.2.2))) (gl) hMV150 rl177 (show (V150 0 48).toInt ≤ 2 * (V150 0 7).toInt from by omega) (EM.o2 (o := gc) (show (V150 27 gc).toInt = ((mx153.2.1 1 : Nat) : Int) from by rw [(by rw [(funext (fun q => ajV150 27 q rfl) : V150 27 = V131 27), (funext (fun q => ajV131 27 q rfl) : V131 27 = V 27)] : V150 27 = V 27)]; exact (by rw [((keepS.tr (keepS.tr (keepS.rf : keepS gs 0 gs) (keepS.n1 1)) kp158)).2.1 1 (by decide)]; exact ow.1)) (show mx153.2.1 4 = 0 from (by rw [((keepS.tr (keepS.tr (keepS.rf : keepS gs 0 gs) (keepS.n1 1)) kp158)).2.1 4 (by decide)]; exact ow.2.2.2.1)) (by omega) (by omega))) w2112 w2114 w105 w172 w2115 rfl rfl hdV_yX12_code ⟨Nat.le_of_ble_eq_true rfl, Nat.le_of_ble_eq_true rfl⟩ rfl hl.1 rfl (Nat.le_of_ble_eq_true rfl) dX12_member_175 ⟨Nat.le_of_ble_eq_true rfl, Nat.le_of_ble_eq_true rfl⟩) hP hD hK hS hA (fun z183 u184 H locs w185 hP hD hK hS => ?_)
                      obtain ⟨V191, L192⟩ := u184
                      obtain ⟨hMV191, ajV191, axL192, rgz183, t186, t187, t188, t189, t190⟩ := w185
                      have alL192 : agL [27, 28, 29, 30, 31, 32, 33, 34, 35, 36, 37, 38, 45, 46, 47] L L192 := agL.tr alL151 axL192 (by decide)
                      have hP : va_P D vwCl (mw ad kk ks.1 V191 L192) H := hP
                      have hD : va_D A (mw ad kk ks.1 V191 L192) := hD
                      have hMV191 : rgd bM V191 := hMV191
                      have ajV191 : agr [(0, 7), (0, 8), (0, 48), (0, 50)] [35, 36, 37, 38, 45, 46, 47] V150 V191 := ajV191
                      have agV191 : agr [(0, 7), (0, 8), (0, 48), (0, 50)] [27, 28, 29, 30, 31, 32, 33, 34, 35, 36, 37, 38, 45, 46, 47] V V191 := agV150.tr ajV191 (by decide) (by decide)
                      have rgz183 : 0 ≤ z183.toInt ∧ z183.toInt ≤ 20000 := rgz183
                      have t186 : Imp ((V191 0 8).toInt = 0) ((V191 0 48).toInt - (V150 0 48).toInt ≤ 2 * ((V191 0 7).toInt - (V150 0 7).toInt) + 1) := t186
                      have t187 : (V191 0 48).toInt ≤ 8060 := t187
                      have t188 : (V150 0 48).toInt ≤ (V191 0 48).toInt := t188
                      have t189 : z183.toInt = (V150 0 49).toInt + (V150 0 48).toInt := t189
                      have t190 : RdM (gT) ((sT mx153.2 (mx153.1 :: (nx gs 1).2.2.2))) (fun k => Iexpr 0 :: k) (fun k => k) (V191 0 8).toInt (fun s9 => RelM V191 L192 (bq) (gn) (gT) s9 (gl) ∧ keepS ((sT mx153.2 (mx153.1 :: (nx gs 1).2.2.2))) 1 s9) := t190
                      have r193 : 0 ≤ ((V191 0 48)).toInt ∧ ((V191 0 48)).toInt ≤ 10000 := hMV191 0 48
                      have r194 : 0 ≤ ((V191 0 8)).toInt ∧ ((V191 0 8)).toInt ≤ 70000 := hMV191 0 8
                      have pq195 : (V150 0 49).toInt = ((V 0 49)).toInt := congrArg Int32.toInt ((ajV150 0 49 rfl).trans (ajV131 0 49 rfl))
                      have r196 : 0 ≤ ((V 0 49)).toInt ∧ ((V 0 49)).toInt ≤ 10000 := hMV 0 49
                      rcases t190 with ⟨q197, sx198, h199, rl200, kp201⟩ | ⟨q197, h199⟩
                      · skip
                        have hr202 : ∀ k, Rc gT (Crun gs (Imember :: k)) (Crun sx198 (Itake 59 :: Imember :: k)) := fun k => (hr175 k).tr (h199 (Itake 59 :: Imember :: k))
                        have fz203 := RelM.rg rl200
                        have ps204 := (kp201).1
                        refine va_iast (D := D) (i := z179) (x := z183) hx hb hK hP hD hS 27 26 rfl rfl (i_in (a := z179.toInt) rfl (by first | omega | ((try (have i_t186 := Imp.go t186 (by omega))); omega))) dX12_member_178 (fun H locs hP hD hS => ?_)
                        obtain ⟨V205, hV205⟩ : ∃ z, z = up2 V191 34 (Int32.toNatClampNeg z179) z183 := ⟨_, rfl⟩
                        have hP : va_P D vwCl (mw ad kk ks.1 V205 L192) H := by rw [hV205]; exact hP
                        have hD : va_D A (mw ad kk ks.1 V205 L192) := by rw [hV205]; exact hD
                        have hMV205 : rgd bM V205 := hMV191.put hV205 (i_full _)
                        have agV205 : agr [(0, 7), (0, 8), (0, 48), (0, 50)] [27, 28, 29, 30, 31, 32, 33, 34, 35, 36, 37, 38, 45, 46, 47] V V205 := agV191.up hV205 rfl
                        refine lv_goto (tgt := 187) hx hb dX12_member_179 (by decide) ?_
                        refine lv_aload_n hx hb dX12_member_187 rfl (lv_at hl 1 rfl) ?_
                        refine lv_bipush (v := 59) hx hb dX12_member_188 (by decide) ?_
                        have rl206 : RelM V205 L192 bq gn gT sx198 gl := RelM.ag rl200 (show agr [] [34] V191 V205 from (agr.up agr.rf hV205 rfl)) (by decide) (show agL [] L192 L192 from agL.rf) (by decide)
                        have r207 : Int32.toInt 59 = 59 := by decide
                        refine gA_void (gA_runV (As := [.int 59]) (rest := []) (ci := 12) (q0 := 0) hx hb hml hown hg hP hD hK hS hA hnw hgk (s_takeSignA l D ks H.size ad kk V205 L192 59 (bq) (gn) (gT) (sx198) (gl) hMV205 rl206 (sg_yes (j := 59) (by decide) (by decide) (by decide))) w2075 w2077 w96 w172 w2078 rfl rfl hdV_yX12_takeSign ⟨Nat.le_of_ble_eq_true rfl, Nat.le_of_ble_eq_true rfl⟩ rfl hl.1 rfl (Nat.le_of_ble_eq_true rfl) dX12_member_190 ⟨Nat.le_of_ble_eq_true rfl, Nat.le_of_ble_eq_true rfl⟩) hP hD hK hS hA (fun u209 H locs w210 hP hD hK hS => ?_)
                        obtain ⟨V212, L213⟩ := u209
                        obtain ⟨hMV212, ajV212, axL213, t211⟩ := w210
                        have axL213 : L192 = L213 := Eq.symm axL213
                        subst axL213
                        have hP : va_P D vwCl (mw ad kk ks.1 V212 L192) H := hP
                        have hD : va_D A (mw ad kk ks.1 V212 L192) := hD
                        have hMV212 : rgd bM V212 := hMV212
                        have ajV212 : agr [(0, 7), (0, 8)] [] V205 V212 := ajV212
                        have agV212 : agr [(0, 7), (0, 8), (0, 48), (0, 50)] [27, 28, 29, 30, 31, 32, 33, 34, 35, 36, 37, 38, 45, 46, 47] V V212 := agV205.tr ajV212 (by decide) (by decide)
                        have t211 : ((V212 0 8).toInt = 0 ∧ (gT).1 ((sx198).1 0) = (Int32.toInt 59) ∧ RelM V212 L192 (bq) (gn) (gT) (nx (sx198) 1) (gl)) ∨ (1 ≤ (V212 0 8).toInt ∧ (gT).1 ((sx198).1 0) ≠ (Int32.toInt 59) ∧ (V212 0 8).toInt = 1 + 16 * (gT).2.2 ((sx198).1 0)) := t211
                        rcases t211 with ⟨q214, h215, rl216⟩ | ⟨q214, h215, rl216⟩
                        · skip
                          have kd217 : gT.1 (sx198.1 0) = 59 := h215.trans (by decide)
                          have hr218 : ∀ k, Rc gT (Crun gs (Imember :: k)) (Crun (nx sx198 1) (Imember :: k)) := fun k => Rc.go1 (hr202 k) (tk_y kd217)
                          have ps219 : (nx sx198 1).1 0 = sx198.1 0 + 1 := rfl
                          have fz220 := RelM.rg rl216
                          have r221 : 0 ≤ ((V212 0 8)).toInt ∧ ((V212 0 8)).toInt ≤ 70000 := hMV212 0 8
                          have pq222 : (V212 0 48).toInt = ((V191 0 48)).toInt := congrArg Int32.toInt ((ajV212 0 48 rfl).trans (up2_o hV205 (by decide)))
                          have ps223 : gs.1 0 + 1 ≤ (nx gs 1).1 0 := ((keepS.n1 1)).1
                          have ps224 : (nx gs 1).1 0 + 1 ≤ mx153.2.1 0 := (kp158).1
                          have ps225 : (sT mx153.2 (mx153.1 :: (nx gs 1).2.2.2)).1 0 = mx153.2.1 0 := rfl
                          have ps226 : (sT mx153.2 (mx153.1 :: (nx gs 1).2.2.2)).1 0 + 1 ≤ sx198.1 0 := (kp201).1
                          have ps227 : sx198.1 0 + 1 ≤ (nx sx198 1).1 0 := ((keepS.n1 1)).1
                          have k34 : (Int32.toNatClampNeg z179) = 20 * gc + mx153.1 := by have h9 := i_clamp (x := z179) rfl (by omega); omega
                          have cs228 : 0 ≤ (V212 34 (20 * gc + mx153.1)).toInt := by have h9 : V212 34 (Int32.toNatClampNeg z179) = z183 := ((ajV212 34 (Int32.toNatClampNeg z179) rfl).trans (up2_s hV205)); rw [k34] at h9; rw [h9]; omega
                          exact W.vret hx hb hr (fun t ht hW => ⟨⟨(V212, L192), rfl, ⟨hMV212, agV212, alL192, (Imp.mk (fun hp => have hp : (V212 0 8).toInt = 0 := hp; (show (V212 0 48).toInt ≤ 2 * (V212 0 7).toInt from by first | omega | ((try (have i_t186 := Imp.go t186 (by omega))); omega)))), (show (V212 0 48).toInt ≤ 8120 from by first | omega | ((try (have i_t186 := Imp.go t186 (by omega))); omega)), (Or.inl ⟨W0 rl216, (nx sx198 1), hr218, rl216, (by omega), (OWm.mt (m := 1) ow (keepS.le (keepS.tr (keepS.rf : keepS gs 0 gs) (keepS.n1 1)) (by decide)) (Nat.le_refl _) kp158 (MTX.le mt159).1 (MTX.le mt159).2 (keepS.le (keepS.tr (keepS.tr (keepS.rf : keepS (sT mx153.2 (mx153.1 :: (nx gs 1).2.2.2)) 0 (sT mx153.2 (mx153.1 :: (nx gs 1).2.2.2))) kp201) (keepS.n1 1)) (by decide)) (show (mx153.2.2.1 3).length ≤ ((nx sx198 1).2.1 3).length from by have h9 := Rc.ml (h199 []); exact h9) (show V212 27 gc = V 27 gc from ((ajV212 27 _ rfl).trans ((up2_o hV205 (by decide)).trans ((ajV191 27 _ rfl).trans ((ajV150 27 _ rfl).trans ((ajV131 27 _ rfl).trans rfl)))))) (show V212 32 gc = V 32 gc from ((ajV212 32 _ rfl).trans ((up2_o hV205 (by decide)).trans ((ajV191 32 _ rfl).trans ((ajV150 32 _ rfl).trans ((ajV131 32 _ rfl).trans rfl)))))) (show V212 33 gc = V 33 gc from ((ajV212 33 _ rfl).trans ((up2_o hV205 (by decide)).trans ((ajV191 33 _ rfl).trans ((ajV150 33 _ rfl).trans ((ajV131 33 _ rfl).trans rfl)))))) cs228 (fun f hf hne => ((ajV212 34 _ rfl).trans ((up2_k hV205 (by omega)).trans ((ajV191 34 _ rfl).trans ((ajV150 34 _ rfl).trans ((ajV131 34 _ rfl).trans rfl))))))), ((((keepS.n1 1)).2.2.1 2 (by decide)).trans (((kp201).2.2.1 2 (by decide)).trans ((rfl : (sT mx153.2 (mx153.1 :: (nx gs 1).2.2.2)).2.1 2 = mx153.2.2.1 2).trans (((kp158).2.2.1 2 (by decide)).trans ((((keepS.n1 1)).2.2.1 2 (by decide)).trans (rfl : gs.2.1 2 = gs.2.1 2)))))), ((congrArg (fun q9 => q9.1) ((keepS.n1 1)).2.2.2).trans ((congrArg (fun q9 => q9.1) (kp201).2.2.2).trans ((rfl : (sT mx153.2 (mx153.1 :: (nx gs 1).2.2.2)).2.2.1 = mx153.2.2.2.1).trans ((congrArg (fun q9 => q9.1) (kp158).2.2.2).trans ((congrArg (fun q9 => q9.1) ((keepS.n1 1)).2.2.2).trans (rfl : gs.2.2.1 = gs.2.2.1))))))⟩)⟩, by rw [ht]; exact hP, va_K.moved hW.alike hK, hD⟩, hS.F ht⟩) hS.2.2 dX12_member_193
                        · skip
                          have kd229 : gT.1 (sx198.1 0) ≠ 59 := fun h9 => h215 (h9.trans (by decide))
                          have hb230 : ∀ k, Rc gT (Crun gs (Imember :: k)) (Cbad (V212 0 8).toInt) := fun k => Rc.go1 (hr202 k) ((tk_n kd229).trans (fl_eq rfl rl216))
                          have r231 : 0 ≤ ((V212 0 8)).toInt ∧ ((V212 0 8)).toInt ≤ 70000 := hMV212 0 8
                          have pq232 : (V212 0 48).toInt = ((V191 0 48)).toInt := congrArg Int32.toInt ((ajV212 0 48 rfl).trans (up2_o hV205 (by decide)))
                          exact W.vret hx hb hr (fun t ht hW => ⟨⟨(V212, L192), rfl, ⟨hMV212, agV212, alL192, (Imp.mk (fun hp => have hp : (V212 0 8).toInt = 0 := hp; (show (V212 0 48).toInt ≤ 2 * (V212 0 7).toInt from by first | omega | ((try (have i_t186 := Imp.go t186 (by omega))); omega)))), (show (V212 0 48).toInt ≤ 8120 from by first | omega | ((try (have i_t186 := Imp.go t186 (by omega))); omega)), (Or.inr ⟨(show 1 ≤ (V212 0 8).toInt from by omega), hb230⟩)⟩, by rw [ht]; exact hP, va_K.moved hW.alike hK, hD⟩, hS.F ht⟩) hS.2.2 dX12_member_193
                      · skip
                        have hb233 : ∀ k, Rc gT (Crun gs (Imember :: k)) (Cbad (V191 0 8).toInt) := fun k => (hr175 k).tr (h199 (Itake 59 :: Imember :: k))
                        refine va_iast (D := D) (i := z179) (x := z183) hx hb hK hP hD hS 27 26 rfl rfl (i_in (a := z179.toInt) rfl (by first | omega | ((try (have i_t186 := Imp.go t186 (by omega))); omega))) dX12_member_178 (fun H locs hP hD hS => ?_)
                        obtain ⟨V234, hV234⟩ : ∃ z, z = up2 V191 34 (Int32.toNatClampNeg z179) z183 := ⟨_, rfl⟩
                        have hP : va_P D vwCl (mw ad kk ks.1 V234 L192) H := by rw [hV234]; exact hP
                        have hD : va_D A (mw ad kk ks.1 V234 L192) := by rw [hV234]; exact hD
                        have hMV234 : rgd bM V234 := hMV191.put hV234 (i_full _)
                        have agV234 : agr [(0, 7), (0, 8), (0, 48), (0, 50)] [27, 28, 29, 30, 31, 32, 33, 34, 35, 36, 37, 38, 45, 46, 47] V V234 := agV191.up hV234 rfl
                        refine lv_goto (tgt := 187) hx hb dX12_member_179 (by decide) ?_
                        refine lv_aload_n hx hb dX12_member_187 rfl (lv_at hl 1 rfl) ?_
                        refine lv_bipush (v := 59) hx hb dX12_member_188 (by decide) ?_
                        have r235 : Int32.toInt 59 = 59 := by decide
                        have pq236 : (V234 0 8).toInt = ((V191 0 8)).toInt := congrArg Int32.toInt (up2_o hV234 (by decide))
                        refine gA_void (gA_runV (As := [.int 59]) (rest := []) (ci := 12) (q0 := 0) hx hb hml hown hg hP hD hK hS hA hnw hgk (s_takeSignB l D ks H.size ad kk V234 L192 59 hMV234 (show 1 ≤ (V234 0 8).toInt from by first | omega | ((try (have i_t186 := Imp.go t186 (by omega))); omega))) w2075 w2077 w96 w172 w2078 rfl rfl hdV_yX12_takeSign ⟨Nat.le_of_ble_eq_true rfl, Nat.le_of_ble_eq_true rfl⟩ rfl hl.1 rfl (Nat.le_of_ble_eq_true rfl) dX12_member_190 ⟨Nat.le_of_ble_eq_true rfl, Nat.le_of_ble_eq_true rfl⟩) hP hD hK hS hA (fun u238 H locs w239 hP hD hK hS => ?_)
                        obtain ⟨V241, L242⟩ := u238
                        obtain ⟨hMV241, ajV241, axL242, t240⟩ := w239
                        have axL242 : L192 = L242 := Eq.symm axL242
                        subst axL242
                        have hP : va_P D vwCl (mw ad kk ks.1 V241 L192) H := hP
                        have hD : va_D A (mw ad kk ks.1 V241 L192) := hD
                        have hMV241 : rgd bM V241 := hMV241
                        have ajV241 : agr [(0, 7), (0, 8)] [] V234 V241 := ajV241
                        have agV241 : agr [(0, 7), (0, 8), (0, 48), (0, 50)] [27, 28, 29, 30, 31, 32, 33, 34, 35, 36, 37, 38, 45, 46, 47] V V241 := agV234.tr ajV241 (by decide) (by decide)
                        have t240 : (V241 0 8).toInt = (V234 0 8).toInt := t240
                        have r243 : 0 ≤ ((V241 0 8)).toInt ∧ ((V241 0 8)).toInt ≤ 70000 := hMV241 0 8
                        have pq244 : (V241 0 48).toInt = ((V191 0 48)).toInt := congrArg Int32.toInt ((ajV241 0 48 rfl).trans (up2_o hV234 (by decide)))
                        exact W.vret hx hb hr (fun t ht hW => ⟨⟨(V241, L192), rfl, ⟨hMV241, agV241, alL192, (Imp.mk (fun hp => have hp : (V241 0 8).toInt = 0 := hp; (show (V241 0 48).toInt ≤ 2 * (V241 0 7).toInt from by first | omega | ((try (have i_t186 := Imp.go t186 (by omega))); omega)))), (show (V241 0 48).toInt ≤ 8120 from by first | omega | ((try (have i_t186 := Imp.go t186 (by omega))); omega)), (Or.inr ⟨(show 1 ≤ (V241 0 8).toInt from by omega), (fun k => by rw [show (V241 0 8).toInt = (V191 0 8).toInt from by omega]; exact hb233 k)⟩)⟩, by rw [ht]; exact hP, va_K.moved hW.alike hK, hD⟩, hS.F ht⟩) hS.2.2 dX12_member_193
                  · skip
                    have f245 : 0 ≤ ((V 34 (Int32.toNatClampNeg z167))).toInt := b_nlt rfl (by decide) c170
                    refine lv_aload_n hx hb dX12_member_142 rfl (lv_at hl 1 rfl) ?_
                    refine lv_dup hx hb dX12_member_143 rfl ?_
                    refine va_get (D := D) (ci := 12) (v := .int (V150 0 7)) (C := RX12) (T := TX12) (N := 100) hx hb hg inX12 hown hK hP 0 rfl rfl 7 (by decide) (hg _ w1713) (fun _ h9 => h9) rfl dX12_member_144 ?_
                    refine lv_iconst (v := 1) hx hb dX12_member_147 (by decide) ?_
                    refine lv_isub hx hb dX12_member_148 ?_
                    refine lv_topi (fun z246 ez246 => ?_)
                    have hz246 : z246.toInt = ((V150 0 7)).toInt - 1 := i_sub ez246 rfl (by decide) (by omega)
                    refine va_put (D := D) (ci := 12) (v := .int z246) (ty := tyX12 7) (C := RX12) (T := TX12) (N := 100) hx hb hg inX12 tyX12 tyX12_ok nmX12 hown hK hP hD hS 0 rfl rfl 7 (by decide) (hg _ w1713) (fun _ h9 => h9) rfl (tyX12_ok 7 (by decide)) rfl rfl (Nat.le_of_ble_eq_true rfl) dX12_member_149 (fun H locs hP hD hS => ?_)
                    obtain ⟨V247, hV247⟩ : ∃ z, z = up2 V150 0 7 z246 := ⟨_, rfl⟩
                    have hP : va_P D vwCl (mw ad kk ks.1 V247 L151) H := by rw [hV247]; exact hP
                    have hD : va_D A (mw ad kk ks.1 V247 L151) := by rw [hV247]; exact hD
                    have hMV247 : rgd bM V247 := hMV150.put hV247 (i_full _)
                    have agV247 : agr [(0, 7), (0, 8), (0, 48), (0, 50)] [27, 28, 29, 30, 31, 32, 33, 34, 35, 36, 37, 38, 45, 46, 47] V V247 := agV150.up hV247 rfl
                    have tx := MTX.told mt159 (by rw [oS]; exact ow5.mp (by omega)) (by rw [oS, oL]; exact ow.2.2.2.2.2)
                    have rl248 : RelM V247 L151 bq gn gT (nx gs 1) gl := RelM.v8 (by rw [← tx.2]; exact rl155) hV247 (by omega)
                    have fz249 := RelM.rg rl248
                    have pq250 : (V247 0 8).toInt = ((V150 0 8)).toInt := congrArg Int32.toInt (up2_k hV247 (by decide))
                    have pq251 : (V247 0 7).toInt = z246.toInt := congrArg Int32.toInt (up2_s hV247)
                    have mn3 : ∀ k, mst gT (Crun (nx gs 1) (ImethN :: k)) = fl gT (nx gs 1) 3 := fun k => mthN_3 (mth_k3 h154) tx.1 _
                    refine lv_aload_n hx hb dX12_member_152 rfl (lv_at hl 1 rfl) ?_
                    refine lv_iconst (v := 3) hx hb dX12_member_153 (by decide) ?_
                    have r252 : Int32.toInt 3 = 3 := by decide
                    refine gA_void (gA_runV (As := [.int 3]) (rest := []) (ci := 12) (q0 := 0) hx hb hml hown hg hP hD hK hS hA hnw hgk (s_wrongA l D ks H.size ad kk V247 L151 3 (bq) (gn) (gT) ((nx gs 1)) (gl) hMV247 (by decide) rl248) w2035 w2037 w86 w172 w2038 rfl rfl hdV_yX12_wrong ⟨Nat.le_of_ble_eq_true rfl, Nat.le_of_ble_eq_true rfl⟩ rfl hl.1 rfl (Nat.le_of_ble_eq_true rfl) dX12_member_154 ⟨Nat.le_of_ble_eq_true rfl, Nat.le_of_ble_eq_true rfl⟩) hP hD hK hS hA (fun u254 H locs w255 hP hD hK hS => ?_)
                    obtain ⟨V258, L259⟩ := u254
                    obtain ⟨hMV258, ajV258, axL259, t256, t257⟩ := w255
                    have axL259 : L151 = L259 := Eq.symm axL259
                    subst axL259
                    have hP : va_P D vwCl (mw ad kk ks.1 V258 L151) H := hP
                    have hD : va_D A (mw ad kk ks.1 V258 L151) := hD
                    have hMV258 : rgd bM V258 := hMV258
                    have ajV258 : agr [(0, 8)] [] V247 V258 := ajV258
                    have agV258 : agr [(0, 7), (0, 8), (0, 48), (0, 50)] [27, 28, 29, 30, 31, 32, 33, 34, 35, 36, 37, 38, 45, 46, 47] V V258 := agV247.tr ajV258 (by decide) (by decide)
                    have t256 : 1 ≤ (V258 0 8).toInt := t256
                    have t257 : (V258 0 8).toInt = (Int32.toInt 3) + 16 * (gT).2.2 (((nx gs 1)).1 0) := t257
                    have r260 : 0 ≤ ((V258 0 8)).toInt ∧ ((V258 0 8)).toInt ≤ 70000 := hMV258 0 8
                    have hb261 : ∀ k, Rc gT (Crun gs (Imember :: k)) (Cbad (V258 0 8).toInt) := fun k => Rc.go1 (hr138 k) ((mn3 _).trans (fl_eq rfl (show (V258 0 8).toInt = 3 + 16 * gT.2.2 ((nx gs 1).1 0) from by omega)))
                    refine lv_aload_n hx hb dX12_member_157 rfl (lv_at hl 1 rfl) ?_
                    refine va_get (D := D) (ci := 12) (v := .int (V258 0 8)) (C := RX12) (T := TX12) (N := 100) hx hb hg inX12 hown hK hP 0 rfl rfl 8 (by decide) (hg _ w1714) (fun _ h9 => h9) rfl dX12_member_158 ?_
                    refine lv_if_ne (tgt := 179) hx hb dX12_member_161 (by decide) (fun c262 => ?_) (fun c262 => ?_)
                    · skip
                      have f263 : ((V258 0 8)).toInt ≠ 0 := b_neq rfl (by decide) c262
                      refine lv_goto (tgt := 187) hx hb dX12_member_179 (by decide) ?_
                      refine lv_aload_n hx hb dX12_member_187 rfl (lv_at hl 1 rfl) ?_
                      refine lv_bipush (v := 59) hx hb dX12_member_188 (by decide) ?_
                      have r264 : Int32.toInt 59 = 59 := by decide
                      refine gA_void (gA_runV (As := [.int 59]) (rest := []) (ci := 12) (q0 := 0) hx hb hml hown hg hP hD hK hS hA hnw hgk (s_takeSignB l D ks H.size ad kk V258 L151 59 hMV258 (show 1 ≤ (V258 0 8).toInt from by omega)) w2075 w2077 w96 w172 w2078 rfl rfl hdV_yX12_takeSign ⟨Nat.le_of_ble_eq_true rfl, Nat.le_of_ble_eq_true rfl⟩ rfl hl.1 rfl (Nat.le_of_ble_eq_true rfl) dX12_member_190 ⟨Nat.le_of_ble_eq_true rfl, Nat.le_of_ble_eq_true rfl⟩) hP hD hK hS hA (fun u266 H locs w267 hP hD hK hS => ?_)
                      obtain ⟨V269, L270⟩ := u266
                      obtain ⟨hMV269, ajV269, axL270, t268⟩ := w267
                      have axL270 : L151 = L270 := Eq.symm axL270
                      subst axL270
                      have hP : va_P D vwCl (mw ad kk ks.1 V269 L151) H := hP
                      have hD : va_D A (mw ad kk ks.1 V269 L151) := hD
                      have hMV269 : rgd bM V269 := hMV269
                      have ajV269 : agr [(0, 7), (0, 8)] [] V258 V269 := ajV269
                      have agV269 : agr [(0, 7), (0, 8), (0, 48), (0, 50)] [27, 28, 29, 30, 31, 32, 33, 34, 35, 36, 37, 38, 45, 46, 47] V V269 := agV258.tr ajV269 (by decide) (by decide)
                      have t268 : (V269 0 8).toInt = (V258 0 8).toInt := t268
                      have r271 : 0 ≤ ((V269 0 8)).toInt ∧ ((V269 0 8)).toInt ≤ 70000 := hMV269 0 8
                      have pq272 : (V269 0 48).toInt = ((V 0 48)).toInt := congrArg Int32.toInt ((ajV269 0 48 rfl).trans ((ajV258 0 48 rfl).trans ((up2_k hV247 (by decide)).trans ((ajV150 0 48 rfl).trans (ajV131 0 48 rfl)))))
                      exact W.vret hx hb hr (fun t ht hW => ⟨⟨(V269, L151), rfl, ⟨hMV269, agV269, alL151, (Imp.mk (fun hp => have hp : (V269 0 8).toInt = 0 := hp; (show (V269 0 48).toInt ≤ 2 * (V269 0 7).toInt from by omega))), (show (V269 0 48).toInt ≤ 8120 from by omega), (Or.inr ⟨(show 1 ≤ (V269 0 8).toInt from by omega), (fun k => by rw [show (V269 0 8).toInt = (V258 0 8).toInt from by omega]; exact hb261 k)⟩)⟩, by rw [ht]; exact hP, va_K.moved hW.alike hK, hD⟩, hS.F ht⟩) hS.2.2 dX12_member_193
                    · skip
                      have f273 : ((V258 0 8)).toInt = 0 := b_eq rfl (by decide) c262
                      exfalso; omega
              · skip
                have hb274 : ∀ k, Rc gT (Crun gs (Imember :: k)) (Cbad (V150 0 8).toInt) := fun k => Rc.go1 (hr138 k) (mn_b (Km_mthN h154))
                have r275 : 0 ≤ ((V150 0 8)).toInt ∧ ((V150 0 8)).toInt ≤ 70000 := hMV150 0 8
                refine lv_istore_n (lv' := [(2, .int z146), (0, .ref (ad 0)), (1, .int p0)]) hx hb dX12_member_120 rfl hl (by decide) rfl (fun ls hl => ?_)
                refine lv_aload_n hx hb dX12_member_121 rfl (lv_at hl 1 rfl) ?_
                refine va_get (D := D) (ci := 12) (v := .int (V150 0 8)) (C := RX12) (T := TX12) (N := 100) hx hb hg inX12 hown hK hP 0 rfl rfl 8 (by decide) (hg _ w1714) (fun _ h9 => h9) rfl dX12_member_122 ?_
                refine lv_if_ne (tgt := 157) hx hb dX12_member_125 (by decide) (fun c276 => ?_) (fun c276 => ?_)
                · skip
                  have f277 : ((V150 0 8)).toInt ≠ 0 := b_neq rfl (by decide) c276
                  refine lv_aload_n hx hb dX12_member_157 rfl (lv_at hl 1 rfl) ?_
                  refine va_get (D := D) (ci := 12) (v := .int (V150 0 8)) (C := RX12) (T := TX12) (N := 100) hx hb hg inX12 hown hK hP 0 rfl rfl 8 (by decide) (hg _ w1714) (fun _ h9 => h9) rfl dX12_member_158 ?_
                  refine lv_if_ne (tgt := 179) hx hb dX12_member_161 (by decide) (fun c278 => ?_) (fun c278 => ?_)
                  · skip
                    have f279 : ((V150 0 8)).toInt ≠ 0 := b_neq rfl (by decide) c278
                    refine lv_goto (tgt := 187) hx hb dX12_member_179 (by decide) ?_
                    refine lv_aload_n hx hb dX12_member_187 rfl (lv_at hl 1 rfl) ?_
                    refine lv_bipush (v := 59) hx hb dX12_member_188 (by decide) ?_
                    have r280 : Int32.toInt 59 = 59 := by decide
                    refine gA_void (gA_runV (As := [.int 59]) (rest := []) (ci := 12) (q0 := 0) hx hb hml hown hg hP hD hK hS hA hnw hgk (s_takeSignB l D ks H.size ad kk V150 L151 59 hMV150 (show 1 ≤ (V150 0 8).toInt from by omega)) w2075 w2077 w96 w172 w2078 rfl rfl hdV_yX12_takeSign ⟨Nat.le_of_ble_eq_true rfl, Nat.le_of_ble_eq_true rfl⟩ rfl hl.1 rfl (Nat.le_of_ble_eq_true rfl) dX12_member_190 ⟨Nat.le_of_ble_eq_true rfl, Nat.le_of_ble_eq_true rfl⟩) hP hD hK hS hA (fun u282 H locs w283 hP hD hK hS => ?_)
                    obtain ⟨V285, L286⟩ := u282
                    obtain ⟨hMV285, ajV285, axL286, t284⟩ := w283
                    have axL286 : L151 = L286 := Eq.symm axL286
                    subst axL286
                    have hP : va_P D vwCl (mw ad kk ks.1 V285 L151) H := hP
                    have hD : va_D A (mw ad kk ks.1 V285 L151) := hD
                    have hMV285 : rgd bM V285 := hMV285
                    have ajV285 : agr [(0, 7), (0, 8)] [] V150 V285 := ajV285
                    have agV285 : agr [(0, 7), (0, 8), (0, 48), (0, 50)] [27, 28, 29, 30, 31, 32, 33, 34, 35, 36, 37, 38, 45, 46, 47] V V285 := agV150.tr ajV285 (by decide) (by decide)
                    have t284 : (V285 0 8).toInt = (V150 0 8).toInt := t284
                    have r287 : 0 ≤ ((V285 0 8)).toInt ∧ ((V285 0 8)).toInt ≤ 70000 := hMV285 0 8
                    have pq288 : (V285 0 48).toInt = ((V 0 48)).toInt := congrArg Int32.toInt ((ajV285 0 48 rfl).trans ((ajV150 0 48 rfl).trans (ajV131 0 48 rfl)))
                    exact W.vret hx hb hr (fun t ht hW => ⟨⟨(V285, L151), rfl, ⟨hMV285, agV285, alL151, (Imp.mk (fun hp => have hp : (V285 0 8).toInt = 0 := hp; (show (V285 0 48).toInt ≤ 2 * (V285 0 7).toInt from by omega))), (show (V285 0 48).toInt ≤ 8120 from by omega), (Or.inr ⟨(show 1 ≤ (V285 0 8).toInt from by omega), (fun k => by rw [show (V285 0 8).toInt = (V150 0 8).toInt from by omega]; exact hb274 k)⟩)⟩, by rw [ht]; exact hP, va_K.moved hW.alike hK, hD⟩, hS.F ht⟩) hS.2.2 dX12_member_193
                  · skip
                    have f289 : ((V150 0 8)).toInt = 0 := b_eq rfl (by decide) c278
                    exfalso; omega
                · skip
                  have f290 : ((V150 0 8)).toInt = 0 := b_eq rfl (by decide) c276
                  exfalso; omega
          · skip
            have kd291 : gT.1 (gs.1 0) ≠ 142 := fun h9 => h134 (h9.trans (by decide))
            have fz292 := RelM.rg rl135
            have pq293 : (V131 0 8).toInt = ((V 0 8)).toInt := congrArg Int32.toInt (ajV131 0 8 rfl)
            have r294 : 0 ≤ ((V 0 8)).toInt ∧ ((V 0 8)).toInt ≤ 70000 := hMV 0 8
            refine lv_if_eq (tgt := 182) hx hb dX12_member_105 (by decide) (fun c295 => ?_) (fun c295 => ?_)
            · skip
              have f296 : z127.toInt = 0 := b_eq rfl (by decide) c295
              refine lv_aload_n hx hb dX12_member_182 rfl (lv_at hl 0 rfl) ?_
              refine lv_iconst (v := 1) hx hb dX12_member_183 (by decide) ?_
              have r297 : Int32.toInt 1 = 1 := by decide
              refine gA_void (gA_runV (As := [.int 1]) (rest := []) (ci := 12) (q0 := 0) hx hb hml hown hg hP hD hK hS hA hnw hgk (s_wrongA l D ks H.size ad kk V131 L 1 (bq) (gn) (gT) (gs) (gl) hMV131 (by decide) rl135) w2035 w2037 w86 w172 w2038 rfl rfl hdV_yX12_wrong ⟨Nat.le_of_ble_eq_true rfl, Nat.le_of_ble_eq_true rfl⟩ rfl hl.1 rfl (Nat.le_of_ble_eq_true rfl) dX12_member_184 ⟨Nat.le_of_ble_eq_true rfl, Nat.le_of_ble_eq_true rfl⟩) hP hD hK hS hA (fun u299 H locs w300 hP hD hK hS => ?_)
              obtain ⟨V303, L304⟩ := u299
              obtain ⟨hMV303, ajV303, axL304, t301, t302⟩ := w300
              have axL304 : L = L304 := Eq.symm axL304
              subst axL304
              have hP : va_P D vwCl (mw ad kk ks.1 V303 L) H := hP
              have hD : va_D A (mw ad kk ks.1 V303 L) := hD
              have hMV303 : rgd bM V303 := hMV303
              have ajV303 : agr [(0, 8)] [] V131 V303 := ajV303
              have agV303 : agr [(0, 7), (0, 8), (0, 48), (0, 50)] [27, 28, 29, 30, 31, 32, 33, 34, 35, 36, 37, 38, 45, 46, 47] V V303 := agV131.tr ajV303 (by decide) (by decide)
              have t301 : 1 ≤ (V303 0 8).toInt := t301
              have t302 : (V303 0 8).toInt = (Int32.toInt 1) + 16 * (gT).2.2 ((gs).1 0) := t302
              have r305 : 0 ≤ ((V303 0 8)).toInt ∧ ((V303 0 8)).toInt ≤ 70000 := hMV303 0 8
              have hr306 : ∀ k, Rc gT (Crun gs (Imember :: k)) (Crun gs (Imember :: k)) := fun k => Rc.rf
              have hb307 : ∀ k, Rc gT (Crun gs (Imember :: k)) (Cbad (V303 0 8).toInt) := fun k => Rc.go1 (hr306 k) ((mb_f kn125 kd119 (Or.inr (by by_cases q9 : gs.1 2 = 1; exact q9; exact absurd (ow.2.1.mpr q9) (by omega))) (Or.inr (by by_cases q9 : gs.1 3 = 1; exact q9; exact absurd (ow.2.2.1.mpr q9) (by omega))) kd291).trans (fl_eq rfl (show (V303 0 8).toInt = 1 + 16 * gT.2.2 (gs.1 0) from by omega)))
              refine lv_aload_n hx hb dX12_member_187 rfl (lv_at hl 0 rfl) ?_
              refine lv_bipush (v := 59) hx hb dX12_member_188 (by decide) ?_
              have r308 : Int32.toInt 59 = 59 := by decide
              refine gA_void (gA_runV (As := [.int 59]) (rest := []) (ci := 12) (q0 := 0) hx hb hml hown hg hP hD hK hS hA hnw hgk (s_takeSignB l D ks H.size ad kk V303 L 59 hMV303 (show 1 ≤ (V303 0 8).toInt from by omega)) w2075 w2077 w96 w172 w2078 rfl rfl hdV_yX12_takeSign ⟨Nat.le_of_ble_eq_true rfl, Nat.le_of_ble_eq_true rfl⟩ rfl hl.1 rfl (Nat.le_of_ble_eq_true rfl) dX12_member_190 ⟨Nat.le_of_ble_eq_true rfl, Nat.le_of_ble_eq_true rfl⟩) hP hD hK hS hA (fun u310 H locs w311 hP hD hK hS => ?_)
              obtain ⟨V313, L314⟩ := u310
              obtain ⟨hMV313, ajV313, axL314, t312⟩ := w311
              have axL314 : L = L314 := Eq.symm axL314
              subst axL314
              have hP : va_P D vwCl (mw ad kk ks.1 V313 L) H := hP
              have hD : va_D A (mw ad kk ks.1 V313 L) := hD
              have hMV313 : rgd bM V313 := hMV313
              have ajV313 : agr [(0, 7), (0, 8)] [] V303 V313 := ajV313
              have agV313 : agr [(0, 7), (0, 8), (0, 48), (0, 50)] [27, 28, 29, 30, 31, 32, 33, 34, 35, 36, 37, 38, 45, 46, 47] V V313 := agV303.tr ajV313 (by decide) (by decide)
              have t312 : (V313 0 8).toInt = (V303 0 8).toInt := t312
              have r315 : 0 ≤ ((V313 0 8)).toInt ∧ ((V313 0 8)).toInt ≤ 70000 := hMV313 0 8
              have pq316 : (V313 0 48).toInt = ((V 0 48)).toInt := congrArg Int32.toInt ((ajV313 0 48 rfl).trans ((ajV303 0 48 rfl).trans (ajV131 0 48 rfl)))
              exact W.vret hx hb hr (fun t ht hW => ⟨⟨(V313, L), rfl, ⟨hMV313, agV313, alL, (Imp.mk (fun hp => have hp : (V313 0 8).toInt = 0 := hp; (show (V313 0 48).toInt ≤ 2 * (V313 0 7).toInt from by omega))), (show (V313 0 48).toInt ≤ 8120 from by omega), (Or.inr ⟨(show 1 ≤ (V313 0 8).toInt from by omega), (fun k => by rw [show (V313 0 8).toInt = (V303 0 8).toInt from by omega]; exact hb307 k)⟩)⟩, by rw [ht]; exact hP, va_K.moved hW.alike hK, hD⟩, hS.F ht⟩) hS.2.2 dX12_member_193
            · skip
              have f317 : z127.toInt ≠ 0 := b_neq rfl (by decide) c295
              exfalso; omega
        · skip
          have f318 : ((V 33 (Int32.toNatClampNeg p0))).toInt < 0 := b_nle (by decide) rfl c124
          refine lv_aload_n hx hb dX12_member_77 rfl (lv_at hl 0 rfl) ?_
          refine lv_bipush (v := 13) hx hb dX12_member_78 (by decide) ?_
          have r319 : Int32.toInt 13 = 13 := by decide
          refine gA_int (gA_runV (As := [.int 13]) (rest := []) (ci := 12) (q0 := 0) hx hb hml hown hg hP hD hK hS hA hnw hgk (s_hasWordA l D ks H.size ad kk V L 13 (bq) (gn) (gT) (gs) (gl) hMV (by decide) rel) w2051 w2053 w90 w172 w2054 rfl rfl hdV_yX12_hasWord ⟨Nat.le_of_ble_eq_true rfl, Nat.le_of_ble_eq_true rfl⟩ rfl hl.1 rfl (Nat.le_of_ble_eq_true rfl) dX12_member_80 ⟨Nat.le_of_ble_eq_true rfl, Nat.le_of_ble_eq_true rfl⟩) hP hD hK hS hA (fun z320 u321 H locs w322 hP hD hK hS => ?_)
          obtain ⟨V324, L325⟩ := u321
          obtain ⟨hMV324, ajV324, axL325, rgz320, t323⟩ := w322
          have axL325 : L = L325 := Eq.symm axL325
          subst axL325
          have hP : va_P D vwCl (mw ad kk ks.1 V324 L) H := hP
          have hD : va_D A (mw ad kk ks.1 V324 L) := hD
          have hMV324 : rgd bM V324 := hMV324
          have ajV324 : agr [(0, 7)] [] V V324 := ajV324
          have agV324 : agr [(0, 7), (0, 8), (0, 48), (0, 50)] [27, 28, 29, 30, 31, 32, 33, 34, 35, 36, 37, 38, 45, 46, 47] V V324 := agV.tr ajV324 (by decide) (by decide)
          have rgz320 : 0 ≤ z320.toInt ∧ z320.toInt ≤ 1 := rgz320
          have t323 : (z320.toInt = 1 ∧ (gT).1 ((gs).1 0) = 128 + (Int32.toInt 13) ∧ RelM V324 L (bq) (gn) (gT) (nx (gs) 1) (gl)) ∨ (z320.toInt = 0 ∧ (gT).1 ((gs).1 0) ≠ 128 + (Int32.toInt 13) ∧ RelM V324 L (bq) (gn) (gT) (gs) (gl)) := t323
          rcases t323 with ⟨q326, h327, rl328⟩ | ⟨q326, h327, rl328⟩
          · skip
            have kd329 : gT.1 (gs.1 0) = 141 := h327.trans (by decide)
            have hr330 : ∀ k, Rc gT (Crun gs (Imember :: k)) (Crun gs (Imember :: k)) := fun k => Rc.rf
            have hr331 : ∀ k, Rc gT (Crun gs (Imember :: k)) (Crun (nx (sN gs 3 1) 1) (Iexpr 0 :: Itake 59 :: Imember :: k)) := fun k => Rc.go1 (hr330 k) (mb_141 kd329 (ow.2.2.1.mp (by omega)))
            have ps332 : (sN gs 3 1).1 0 = gs.1 0 := rfl
            have ps333 : (nx gs 1).1 0 = gs.1 0 + 1 := rfl
            have fz334 := RelM.rg rl328
            have pq335 : (V324 0 8).toInt = ((V 0 8)).toInt := congrArg Int32.toInt (ajV324 0 8 rfl)
            have r336 : 0 ≤ ((V 0 8)).toInt ∧ ((V 0 8)).toInt ≤ 70000 := hMV 0 8
            refine lv_if_eq (tgt := 99) hx hb dX12_member_83 (by decide) (fun c337 => ?_) (fun c337 => ?_)
            · skip
              have f338 : z320.toInt = 0 := b_eq rfl (by decide) c337
              exfalso; omega
            · skip
              have f339 : z320.toInt ≠ 0 := b_neq rfl (by decide) c337
              have rl340 : RelM V324 L bq gn gT (nx (sN gs 3 1) 1) gl := rl328
              refine lv_aload_n hx hb dX12_member_86 rfl (lv_at hl 0 rfl) ?_
              refine va_get (D := D) (ci := 12) (v := .ref (ad 33)) (C := RX12) (T := TX12) (N := 100) hx hb hg inX12 hown hK hP 0 rfl rfl 33 (by decide) (hg _ w1739) (fun _ h9 => h9) rfl dX12_member_87 ?_
              refine lv_iload_n hx hb dX12_member_90 rfl (lv_at hl 1 rfl) ?_
              refine lv_aload_n hx hb dX12_member_91 rfl (lv_at hl 0 rfl) ?_
              have pq341 : (V324 0 48).toInt = ((V 0 48)).toInt := congrArg Int32.toInt (ajV324 0 48 rfl)
              have pq342 : (V324 0 51).toInt = ((V 0 51)).toInt := congrArg Int32.toInt (ajV324 0 51 rfl)
              have pq343 : (V324 0 52).toInt = ((V 0 52)).toInt := congrArg Int32.toInt (ajV324 0 52 rfl)
              refine gA_int (gA_runV (As := []) (rest := [.int p0, .ref (ad 33)]) (ci := 12) (q0 := 0) hx hb hml hown hg hP hD hK hS hA hnw hgk (s_codeA l D ks H.size ad kk V324 L (bq) (gn) (gT) ((nx (sN gs 3 1) 1)) (gl) hMV324 rl340 (show (V324 0 48).toInt ≤ 2 * (V324 0 7).toInt from by omega) (EM.o2 (o := gc) (show (V324 27 gc).toInt = (((nx (sN gs 3 1) 1).1 1 : Nat) : Int) from by rw [(by rw [(funext (fun q => ajV324 27 q rfl) : V324 27 = V 27)] : V324 27 = V 27)]; exact ow.1) (show (nx (sN gs 3 1) 1).1 4 = 0 from ow.2.2.2.1) (by omega) (by omega))) w2112 w2114 w105 w172 w2115 rfl rfl hdV_yX12_code ⟨Nat.le_of_ble_eq_true rfl, Nat.le_of_ble_eq_true rfl⟩ rfl hl.1 rfl (Nat.le_of_ble_eq_true rfl) dX12_member_92 ⟨Nat.le_of_ble_eq_true rfl, Nat.le_of_ble_eq_true rfl⟩) hP hD hK hS hA (fun z344 u345 H locs w346 hP hD hK hS => ?_)
              obtain ⟨V352, L353⟩ := u345
              obtain ⟨hMV352, ajV352, axL353, rgz344, t347, t348, t349, t350, t351⟩ := w346
              have alL353 : agL [27, 28, 29, 30, 31, 32, 33, 34, 35, 36, 37, 38, 45, 46, 47] L L353 := agL.tr alL axL353 (by decide)
              have hP : va_P D vwCl (mw ad kk ks.1 V352 L353) H := hP
              have hD : va_D A (mw ad kk ks.1 V352 L353) := hD
              have hMV352 : rgd bM V352 := hMV352
              have ajV352 : agr [(0, 7), (0, 8), (0, 48), (0, 50)] [35, 36, 37, 38, 45, 46, 47] V324 V352 := ajV352
              have agV352 : agr [(0, 7), (0, 8), (0, 48), (0, 50)] [27, 28, 29, 30, 31, 32, 33, 34, 35, 36, 37, 38, 45, 46, 47] V V352 := agV324.tr ajV352 (by decide) (by decide)
              have rgz344 : 0 ≤ z344.toInt ∧ z344.toInt ≤ 20000 := rgz344
              have t347 : Imp ((V352 0 8).toInt = 0) ((V352 0 48).toInt - (V324 0 48).toInt ≤ 2 * ((V352 0 7).toInt - (V324 0 7).toInt) + 1) := t347
              have t348 : (V352 0 48).toInt ≤ 8060 := t348
              have t349 : (V324 0 48).toInt ≤ (V352 0 48).toInt := t349
              have t350 : z344.toInt = (V324 0 49).toInt + (V324 0 48).toInt := t350
              have t351 : RdM (gT) ((nx (sN gs 3 1) 1)) (fun k => Iexpr 0 :: k) (fun k => k) (V352 0 8).toInt (fun s9 => RelM V352 L353 (bq) (gn) (gT) s9 (gl) ∧ keepS ((nx (sN gs 3 1) 1)) 1 s9) := t351
              have r354 : 0 ≤ ((V352 0 48)).toInt ∧ ((V352 0 48)).toInt ≤ 10000 := hMV352 0 48
              have r355 : 0 ≤ ((V352 0 8)).toInt ∧ ((V352 0 8)).toInt ≤ 70000 := hMV352 0 8
              have pq356 : (V324 0 49).toInt = ((V 0 49)).toInt := congrArg Int32.toInt (ajV324 0 49 rfl)
              have r357 : 0 ≤ ((V 0 49)).toInt ∧ ((V 0 49)).toInt ≤ 10000 := hMV 0 49
              rcases t351 with ⟨q358, sx359, h360, rl361, kp362⟩ | ⟨q358, h360⟩
              · skip
                have hr363 : ∀ k, Rc gT (Crun gs (Imember :: k)) (Crun sx359 (Itake 59 :: Imember :: k)) := fun k => (hr331 k).tr (h360 (Itake 59 :: Imember :: k))
                have fz364 := RelM.rg rl361
                have ps365 := (kp362).1
                refine va_iast (D := D) (i := p0) (x := z344) hx hb hK hP hD hS 26 25 rfl rfl (i_in (a := p0.toInt) rfl (by first | omega | ((try (have i_t347 := Imp.go t347 (by omega))); omega))) dX12_member_95 (fun H locs hP hD hS => ?_)
                obtain ⟨V366, hV366⟩ : ∃ z, z = up2 V352 33 (Int32.toNatClampNeg p0) z344 := ⟨_, rfl⟩
                have hP : va_P D vwCl (mw ad kk ks.1 V366 L353) H := by rw [hV366]; exact hP
                have hD : va_D A (mw ad kk ks.1 V366 L353) := by rw [hV366]; exact hD
                have hMV366 : rgd bM V366 := hMV352.put hV366 (i_full _)
                have agV366 : agr [(0, 7), (0, 8), (0, 48), (0, 50)] [27, 28, 29, 30, 31, 32, 33, 34, 35, 36, 37, 38, 45, 46, 47] V V366 := agV352.up hV366 rfl
                refine lv_goto (tgt := 187) hx hb dX12_member_96 (by decide) ?_
                refine lv_aload_n hx hb dX12_member_187 rfl (lv_at hl 0 rfl) ?_
                refine lv_bipush (v := 59) hx hb dX12_member_188 (by decide) ?_
                have rl367 : RelM V366 L353 bq gn gT sx359 gl := RelM.ag rl361 (show agr [] [33] V352 V366 from (agr.up agr.rf hV366 rfl)) (by decide) (show agL [] L353 L353 from agL.rf) (by decide)
                have r368 : Int32.toInt 59 = 59 := by decide
                refine gA_void (gA_runV (As := [.int 59]) (rest := []) (ci := 12) (q0 := 0) hx hb hml hown hg hP hD hK hS hA hnw hgk (s_takeSignA l D ks H.size ad kk V366 L353 59 (bq) (gn) (gT) (sx359) (gl) hMV366 rl367 (sg_yes (j := 59) (by decide) (by decide) (by decide))) w2075 w2077 w96 w172 w2078 rfl rfl hdV_yX12_takeSign ⟨Nat.le_of_ble_eq_true rfl, Nat.le_of_ble_eq_true rfl⟩ rfl hl.1 rfl (Nat.le_of_ble_eq_true rfl) dX12_member_190 ⟨Nat.le_of_ble_eq_true rfl, Nat.le_of_ble_eq_true rfl⟩) hP hD hK hS hA (fun u370 H locs w371 hP hD hK hS => ?_)
                obtain ⟨V373, L374⟩ := u370
                obtain ⟨hMV373, ajV373, axL374, t372⟩ := w371
                have axL374 : L353 = L374 := Eq.symm axL374
                subst axL374
                have hP : va_P D vwCl (mw ad kk ks.1 V373 L353) H := hP
                have hD : va_D A (mw ad kk ks.1 V373 L353) := hD
                have hMV373 : rgd bM V373 := hMV373
                have ajV373 : agr [(0, 7), (0, 8)] [] V366 V373 := ajV373
                have agV373 : agr [(0, 7), (0, 8), (0, 48), (0, 50)] [27, 28, 29, 30, 31, 32, 33, 34, 35, 36, 37, 38, 45, 46, 47] V V373 := agV366.tr ajV373 (by decide) (by decide)
                have t372 : ((V373 0 8).toInt = 0 ∧ (gT).1 ((sx359).1 0) = (Int32.toInt 59) ∧ RelM V373 L353 (bq) (gn) (gT) (nx (sx359) 1) (gl)) ∨ (1 ≤ (V373 0 8).toInt ∧ (gT).1 ((sx359).1 0) ≠ (Int32.toInt 59) ∧ (V373 0 8).toInt = 1 + 16 * (gT).2.2 ((sx359).1 0)) := t372
                rcases t372 with ⟨q375, h376, rl377⟩ | ⟨q375, h376, rl377⟩
                · skip
                  have kd378 : gT.1 (sx359.1 0) = 59 := h376.trans (by decide)
                  have hr379 : ∀ k, Rc gT (Crun gs (Imember :: k)) (Crun (nx sx359 1) (Imember :: k)) := fun k => Rc.go1 (hr363 k) (tk_y kd378)
                  have ps380 : (nx sx359 1).1 0 = sx359.1 0 + 1 := rfl
                  have fz381 := RelM.rg rl377
                  have r382 : 0 ≤ ((V373 0 8)).toInt ∧ ((V373 0 8)).toInt ≤ 70000 := hMV373 0 8
                  have pq383 : (V373 0 48).toInt = ((V352 0 48)).toInt := congrArg Int32.toInt ((ajV373 0 48 rfl).trans (up2_o hV366 (by decide)))
                  have ps384 : gs.1 0 + 1 ≤ (nx gs 1).1 0 := ((keepS.n1 1)).1
                  have ps385 : (nx (sN gs 3 1) 1).1 0 = (nx gs 1).1 0 := rfl
                  have ps386 : (nx (sN gs 3 1) 1).1 0 + 1 ≤ sx359.1 0 := (kp362).1
                  have ps387 : sx359.1 0 + 1 ≤ (nx sx359 1).1 0 := ((keepS.n1 1)).1
                  have cs388 : 0 ≤ (V373 33 gc).toInt := by have h9 : V373 33 (Int32.toNatClampNeg p0) = z344 := ((ajV373 33 (Int32.toNatClampNeg p0) rfl).trans (up2_s hV366)); rw [kgc] at h9; rw [h9]; omega
                  exact W.vret hx hb hr (fun t ht hW => ⟨⟨(V373, L353), rfl, ⟨hMV373, agV373, alL353, (Imp.mk (fun hp => have hp : (V373 0 8).toInt = 0 := hp; (show (V373 0 48).toInt ≤ 2 * (V373 0 7).toInt from by first | omega | ((try (have i_t347 := Imp.go t347 (by omega))); omega)))), (show (V373 0 48).toInt ≤ 8120 from by first | omega | ((try (have i_t347 := Imp.go t347 (by omega))); omega)), (Or.inl ⟨W0 rl377, (nx sx359 1), hr379, rl377, (by omega), (OWm.cl ow (keepS.tr (keepS.tr (keepS.rf : keepS (nx (sN gs 3 1) 1) 0 (nx (sN gs 3 1) 1)) kp362) (keepS.n1 1)) (Rc.ml (hr379 [])) (show V373 27 gc = V 27 gc from ((ajV373 27 _ rfl).trans ((up2_o hV366 (by decide)).trans ((ajV352 27 _ rfl).trans ((ajV324 27 _ rfl).trans rfl))))) (show V373 32 gc = V 32 gc from ((ajV373 32 _ rfl).trans ((up2_o hV366 (by decide)).trans ((ajV352 32 _ rfl).trans ((ajV324 32 _ rfl).trans rfl))))) cs388 (fun f hf => ((show agr [(0, 7), (0, 8), (0, 48), (0, 50)] [33, 35, 36, 37, 38, 45, 46, 47] V V373 from (agr.tr (agr.up (agr.tr (agr.tr agr.rf ajV324 (by decide) (by decide)) ajV352 (by decide) (by decide)) hV366 rfl) ajV373 (by decide) (by decide))) 34 _ rfl))), ((((keepS.n1 1)).2.2.1 2 (by decide)).trans (((kp362).2.2.1 2 (by decide)).trans ((rfl : (nx (sN gs 3 1) 1).2.1 2 = (nx gs 1).2.1 2).trans ((((keepS.n1 1)).2.2.1 2 (by decide)).trans (rfl : gs.2.1 2 = gs.2.1 2))))), ((congrArg (fun q9 => q9.1) ((keepS.n1 1)).2.2.2).trans ((congrArg (fun q9 => q9.1) (kp362).2.2.2).trans ((rfl : (nx (sN gs 3 1) 1).2.2.1 = (nx gs 1).2.2.1).trans ((congrArg (fun q9 => q9.1) ((keepS.n1 1)).2.2.2).trans (rfl : gs.2.2.1 = gs.2.2.1)))))⟩)⟩, by rw [ht]; exact hP, va_K.moved hW.alike hK, hD⟩, hS.F ht⟩) hS.2.2 dX12_member_193
                · skip
                  have kd389 : gT.1 (sx359.1 0) ≠ 59 := fun h9 => h376 (h9.trans (by decide))
                  have hb390 : ∀ k, Rc gT (Crun gs (Imember :: k)) (Cbad (V373 0 8).toInt) := fun k => Rc.go1 (hr363 k) ((tk_n kd389).trans (fl_eq rfl rl377))
                  have r391 : 0 ≤ ((V373 0 8)).toInt ∧ ((V373 0 8)).toInt ≤ 70000 := hMV373 0 8
                  have pq392 : (V373 0 48).toInt = ((V352 0 48)).toInt := congrArg Int32.toInt ((ajV373 0 48 rfl).trans (up2_o hV366 (by decide)))
                  exact W.vret hx hb hr (fun t ht hW => ⟨⟨(V373, L353), rfl, ⟨hMV373, agV373, alL353, (Imp.mk (fun hp => have hp : (V373 0 8).toInt = 0 := hp; (show (V373 0 48).toInt ≤ 2 * (V373 0 7).toInt from by first | omega | ((try (have i_t347 := Imp.go t347 (by omega))); omega)))), (show (V373 0 48).toInt ≤ 8120 from by first | omega | ((try (have i_t347 := Imp.go t347 (by omega))); omega)), (Or.inr ⟨(show 1 ≤ (V373 0 8).toInt from by omega), hb390⟩)⟩, by rw [ht]; exact hP, va_K.moved hW.alike hK, hD⟩, hS.F ht⟩) hS.2.2 dX12_member_193
              · skip
                have hb393 : ∀ k, Rc gT (Crun gs (Imember :: k)) (Cbad (V352 0 8).toInt) := fun k => (hr331 k).tr (h360 (Itake 59 :: Imember :: k))
                refine va_iast (D := D) (i := p0) (x := z344) hx hb hK hP hD hS 26 25 rfl rfl (i_in (a := p0.toInt) rfl (by first | omega | ((try (have i_t347 := Imp.go t347 (by omega))); omega))) dX12_member_95 (fun H locs hP hD hS => ?_)
                obtain ⟨V394, hV394⟩ : ∃ z, z = up2 V352 33 (Int32.toNatClampNeg p0) z344 := ⟨_, rfl⟩
                have hP : va_P D vwCl (mw ad kk ks.1 V394 L353) H := by rw [hV394]; exact hP
                have hD : va_D A (mw ad kk ks.1 V394 L353) := by rw [hV394]; exact hD
                have hMV394 : rgd bM V394 := hMV352.put hV394 (i_full _)
                have agV394 : agr [(0, 7), (0, 8), (0, 48), (0, 50)] [27, 28, 29, 30, 31, 32, 33, 34, 35, 36, 37, 38, 45, 46, 47] V V394 := agV352.up hV394 rfl
                refine lv_goto (tgt := 187) hx hb dX12_member_96 (by decide) ?_
                refine lv_aload_n hx hb dX12_member_187 rfl (lv_at hl 0 rfl) ?_
                refine lv_bipush (v := 59) hx hb dX12_member_188 (by decide) ?_
                have r395 : Int32.toInt 59 = 59 := by decide
                have pq396 : (V394 0 8).toInt = ((V352 0 8)).toInt := congrArg Int32.toInt (up2_o hV394 (by decide))
                refine gA_void (gA_runV (As := [.int 59]) (rest := []) (ci := 12) (q0 := 0) hx hb hml hown hg hP hD hK hS hA hnw hgk (s_takeSignB l D ks H.size ad kk V394 L353 59 hMV394 (show 1 ≤ (V394 0 8).toInt from by first | omega | ((try (have i_t347 := Imp.go t347 (by omega))); omega))) w2075 w2077 w96 w172 w2078 rfl rfl hdV_yX12_takeSign ⟨Nat.le_of_ble_eq_true rfl, Nat.le_of_ble_eq_true rfl⟩ rfl hl.1 rfl (Nat.le_of_ble_eq_true rfl) dX12_member_190 ⟨Nat.le_of_ble_eq_true rfl, Nat.le_of_ble_eq_true rfl⟩) hP hD hK hS hA (fun u398 H locs w399 hP hD hK hS => ?_)
                obtain ⟨V401, L402⟩ := u398
                obtain ⟨hMV401, ajV401, axL402, t400⟩ := w399
                have axL402 : L353 = L402 := Eq.symm axL402
                subst axL402
                have hP : va_P D vwCl (mw ad kk ks.1 V401 L353) H := hP
                have hD : va_D A (mw ad kk ks.1 V401 L353) := hD
                have hMV401 : rgd bM V401 := hMV401
                have ajV401 : agr [(0, 7), (0, 8)] [] V394 V401 := ajV401
                have agV401 : agr [(0, 7), (0, 8), (0, 48), (0, 50)] [27, 28, 29, 30, 31, 32, 33, 34, 35, 36, 37, 38, 45, 46, 47] V V401 := agV394.tr ajV401 (by decide) (by decide)
                have t400 : (V401 0 8).toInt = (V394 0 8).toInt := t400
                have r403 : 0 ≤ ((V401 0 8)).toInt ∧ ((V401 0 8)).toInt ≤ 70000 := hMV401 0 8
                have pq404 : (V401 0 48).toInt = ((V352 0 48)).toInt := congrArg Int32.toInt ((ajV401 0 48 rfl).trans (up2_o hV394 (by decide)))
                exact W.vret hx hb hr (fun t ht hW => ⟨⟨(V401, L353), rfl, ⟨hMV401, agV401, alL353, (Imp.mk (fun hp => have hp : (V401 0 8).toInt = 0 := hp; (show (V401 0 48).toInt ≤ 2 * (V401 0 7).toInt from by first | omega | ((try (have i_t347 := Imp.go t347 (by omega))); omega)))), (show (V401 0 48).toInt ≤ 8120 from by first | omega | ((try (have i_t347 := Imp.go t347 (by omega))); omega)), (Or.inr ⟨(show 1 ≤ (V401 0 8).toInt from by omega), (fun k => by rw [show (V401 0 8).toInt = (V352 0 8).toInt from by omega]; exact hb393 k)⟩)⟩, by rw [ht]; exact hP, va_K.moved hW.alike hK, hD⟩, hS.F ht⟩) hS.2.2 dX12_member_193
          · skip
            have kd405 : gT.1 (gs.1 0) ≠ 141 := fun h9 => h327 (h9.trans (by decide))
            have fz406 := RelM.rg rl328
            have pq407 : (V324 0 8).toInt = ((V 0 8)).toInt := congrArg Int32.toInt (ajV324 0 8 rfl)
            have r408 : 0 ≤ ((V 0 8)).toInt ∧ ((V 0 8)).toInt ≤ 70000 := hMV 0 8
            refine lv_if_eq (tgt := 99) hx hb dX12_member_83 (by decide) (fun c409 => ?_) (fun c409 => ?_)
            · skip
              have f410 : z320.toInt = 0 := b_eq rfl (by decide) c409
              refine lv_aload_n hx hb dX12_member_99 rfl (lv_at hl 0 rfl) ?_
              refine lv_bipush (v := 14) hx hb dX12_member_100 (by decide) ?_
              have r411 : Int32.toInt 14 = 14 := by decide
              refine gA_int (gA_runV (As := [.int 14]) (rest := []) (ci := 12) (q0 := 0) hx hb hml hown hg hP hD hK hS hA hnw hgk (s_hasWordA l D ks H.size ad kk V324 L 14 (bq) (gn) (gT) (gs) (gl) hMV324 (by decide) rl328) w2051 w2053 w90 w172 w2054 rfl rfl hdV_yX12_hasWord ⟨Nat.le_of_ble_eq_true rfl, Nat.le_of_ble_eq_true rfl⟩ rfl hl.1 rfl (Nat.le_of_ble_eq_true rfl) dX12_member_102 ⟨Nat.le_of_ble_eq_true rfl, Nat.le_of_ble_eq_true rfl⟩) hP hD hK hS hA (fun z412 u413 H locs w414 hP hD hK hS => ?_)
              obtain ⟨V416, L417⟩ := u413
              obtain ⟨hMV416, ajV416, axL417, rgz412, t415⟩ := w414
              have axL417 : L = L417 := Eq.symm axL417
              subst axL417
              have hP : va_P D vwCl (mw ad kk ks.1 V416 L) H := hP
              have hD : va_D A (mw ad kk ks.1 V416 L) := hD
              have hMV416 : rgd bM V416 := hMV416
              have ajV416 : agr [(0, 7)] [] V324 V416 := ajV416
              have agV416 : agr [(0, 7), (0, 8), (0, 48), (0, 50)] [27, 28, 29, 30, 31, 32, 33, 34, 35, 36, 37, 38, 45, 46, 47] V V416 := agV324.tr ajV416 (by decide) (by decide)
              have rgz412 : 0 ≤ z412.toInt ∧ z412.toInt ≤ 1 := rgz412
              have t415 : (z412.toInt = 1 ∧ (gT).1 ((gs).1 0) = 128 + (Int32.toInt 14) ∧ RelM V416 L (bq) (gn) (gT) (nx (gs) 1) (gl)) ∨ (z412.toInt = 0 ∧ (gT).1 ((gs).1 0) ≠ 128 + (Int32.toInt 14) ∧ RelM V416 L (bq) (gn) (gT) (gs) (gl)) := t415
              rcases t415 with ⟨q418, h419, rl420⟩ | ⟨q418, h419, rl420⟩
              · skip
                have kd421 : gT.1 (gs.1 0) = 142 := h419.trans (by decide)
                have hr422 : ∀ k, Rc gT (Crun gs (Imember :: k)) (Crun gs (Imember :: k)) := fun k => Rc.rf
                have hr423 : ∀ k, Rc gT (Crun gs (Imember :: k)) (Crun (nx gs 1) (ImethN :: Iexpr 0 :: Itake 59 :: Imember :: k)) := fun k => Rc.go1 (hr422 k) (mb_142 kd421)
                have ps424 : (nx gs 1).1 0 = gs.1 0 + 1 := rfl
                have fz425 := RelM.rg rl420
                have pq426 : (V416 0 8).toInt = ((V 0 8)).toInt := congrArg Int32.toInt ((ajV416 0 8 rfl).trans (ajV324 0 8 rfl))
                refine lv_if_eq (tgt := 182) hx hb dX12_member_105 (by decide) (fun c427 => ?_) (fun c427 => ?_)
                · skip
                  have f428 : z412.toInt = 0 := b_eq rfl (by decide) c427
                  exfalso; omega
                · skip
                  have f429 : z412.toInt ≠ 0 := b_neq rfl (by decide) c427
                  refine lv_aload_n hx hb dX12_member_108 rfl (lv_at hl 0 rfl) ?_
                  refine lv_aload_n hx hb dX12_member_109 rfl (lv_at hl 0 rfl) ?_
                  refine va_get (D := D) (ci := 12) (v := .ref (ad 36)) (C := RX12) (T := TX12) (N := 100) hx hb hg inX12 hown hK hP 0 rfl rfl 36 (by decide) (hg _ w1742) (fun _ h9 => h9) rfl dX12_member_110 ?_
                  refine lv_aload_n hx hb dX12_member_113 rfl (lv_at hl 0 rfl) ?_
                  refine va_get (D := D) (ci := 12) (v := .ref (ad 35)) (C := RX12) (T := TX12) (N := 100) hx hb hg inX12 hown hK hP 0 rfl rfl 35 (by decide) (hg _ w1741) (fun _ h9 => h9) rfl dX12_member_114 ?_
                  refine gA_int (gA_runV (As := [.ref (ad 36), .ref (ad 35)]) (rest := []) (ci := 12) (q0 := 0) hx hb hml hown hg hP hD hK hS hA hnw hgk (s_takeWordOf3 l D ks H.size ad kk V416 L (bq) (gn) (gT) ((nx gs 1)) (gl) hMV416 rl420) w2100 w2102 w102 w172 w2103 rfl rfl hdV_yX12_takeWordOf ⟨Nat.le_of_ble_eq_true rfl, Nat.le_of_ble_eq_true rfl⟩ rfl hl.1 rfl (Nat.le_of_ble_eq_true rfl) dX12_member_117 ⟨Nat.le_of_ble_eq_true rfl, Nat.le_of_ble_eq_true rfl⟩) hP hD hK hS hA (fun z430 u431 H locs w432 hP hD hK hS => ?_)
                  obtain ⟨V434, L435⟩ := u431
                  obtain ⟨hMV434, ajV434, axL435, rgz430, t433⟩ := w432
                  have alL435 : agL [27, 28, 29, 30, 31, 32, 33, 34, 35, 36, 37, 38, 45, 46, 47] L L435 := agL.tr alL axL435 (by decide)
                  have hP : va_P D vwCl (mw ad kk ks.1 V434 L435) H := hP
                  have hD : va_D A (mw ad kk ks.1 V434 L435) := hD
                  have hMV434 : rgd bM V434 := hMV434
                  have ajV434 : agr [(0, 7), (0, 8)] [35, 36, 37, 38] V416 V434 := ajV434
                  have agV434 : agr [(0, 7), (0, 8), (0, 48), (0, 50)] [27, 28, 29, 30, 31, 32, 33, 34, 35, 36, 37, 38, 45, 46, 47] V V434 := agV416.tr ajV434 (by decide) (by decide)
                  have rgz430 : (-1) ≤ z430.toInt ∧ z430.toInt ≤ 19 := rgz430
                  have t433 : KmS (mthW (gT) ((nx gs 1)) 3) (V434 0 8).toInt (fun x9 => RelM V434 L435 (bq) (gn) (gT) x9.2 (gl) ∧ z430.toInt = ((x9.1 : Nat) : Int) ∧ x9.1 < 20 ∧ keepS ((nx gs 1)) 1 x9.2 ∧ MTX (gT) ((nx gs 1)) 3 x9) := t433
                  rcases t433 with ⟨q436, mx437, h438, rl439, hf440, hb441, kp442, mt443⟩ | ⟨q436, h438⟩
                  · skip
                    have ps444 := kp442.1
                    have fz445 := RelM.rg rl439
                    have r446 : 0 ≤ ((V434 0 8)).toInt ∧ ((V434 0 8)).toInt ≤ 70000 := hMV434 0 8
                    refine lv_istore_n (lv' := [(2, .int z430), (0, .ref (ad 0)), (1, .int p0)]) hx hb dX12_member_120 rfl hl (by decide) rfl (fun ls hl => ?_)
                    refine lv_aload_n hx hb dX12_member_121 rfl (lv_at hl 1 rfl) ?_
                    refine va_get (D := D) (ci := 12) (v := .int (V434 0 8)) (C := RX12) (T := TX12) (N := 100) hx hb hg inX12 hown hK hP 0 rfl rfl 8 (by decide) (hg _ w1714) (fun _ h9 => h9) rfl dX12_member_122 ?_
                    refine lv_if_ne (tgt := 157) hx hb dX12_member_125 (by decide) (fun c447 => ?_) (fun c447 => ?_)
                    · skip
                      have f448 : ((V434 0 8)).toInt ≠ 0 := b_neq rfl (by decide) c447
                      exfalso; omega
                    · skip
                      have f449 : ((V434 0 8)).toInt = 0 := b_eq rfl (by decide) c447
                      refine lv_aload_n hx hb dX12_member_128 rfl (lv_at hl 1 rfl) ?_
                      refine va_get (D := D) (ci := 12) (v := .ref (ad 34)) (C := RX12) (T := TX12) (N := 100) hx hb hg inX12 hown hK hP 0 rfl rfl 34 (by decide) (hg _ w1740) (fun _ h9 => h9) rfl dX12_member_129 ?_
                      refine lv_bipush (v := 20) hx hb dX12_member_132 (by decide) ?_
                      refine lv_iload_n hx hb dX12_member_134 rfl (lv_at hl 2 rfl) ?_
                      refine lv_imul hx hb dX12_member_135 ?_
                      refine lv_topi (fun z450 ez450 => ?_)
                      have hz450 : z450.toInt = 20 * p0.toInt := i_mul ez450 (by decide) rfl (by omega)
                      refine lv_iload_n hx hb dX12_member_136 rfl (lv_at hl 0 rfl) ?_
                      refine lv_iadd hx hb dX12_member_137 ?_
                      refine lv_topi (fun z451 ez451 => ?_)
                      have hz451 : z451.toInt = z450.toInt + z430.toInt := i_add ez451 rfl rfl (by omega)
                      refine va_iald (D := D) (i := z451) hx hb hK hP 27 26 rfl rfl (i_in (a := z451.toInt) rfl (by omega)) dX12_member_138 ?_
                      refine g_top (v := (V 34 (Int32.toNatClampNeg z451))) ((ajV434 34 (Int32.toNatClampNeg z451) rfl).trans ((ajV416 34 (Int32.toNatClampNeg z451) rfl).trans (ajV324 34 (Int32.toNatClampNeg z451) rfl))) ?_
                      have kc453 : Int32.toNatClampNeg z451 = 20 * gc + mx437.1 := by have h9 := i_clamp (x := z451) rfl (by omega); omega
                      have ma452 : (V 34 (Int32.toNatClampNeg z451)).toInt = (V 34 (20 * gc + mx437.1)).toInt := by rw [kc453]
                      have ow5 := ow.2.2.2.2.1 mx437.1 hb441
                      have oS : (nx gs 1).2.2.2 = gs.2.2.2 := congrArg (fun q9 => q9.2) ((keepS.tr (keepS.rf : keepS gs 0 gs) (keepS.n1 1))).2.2.2
                      have oL : (nx gs 1).2.1 3 = gs.2.1 3 := rfl
                      refine lv_if_lt (tgt := 157) hx hb dX12_member_139 (by decide) (fun c454 => ?_) (fun c454 => ?_)
                      · skip
                        have f455 : ((V 34 (Int32.toNatClampNeg z451))).toInt < 0 := b_lt rfl (by decide) c454
                        refine lv_aload_n hx hb dX12_member_157 rfl (lv_at hl 1 rfl) ?_
                        refine va_get (D := D) (ci := 12) (v := .int (V434 0 8)) (C := RX12) (T := TX12) (N := 100) hx hb hg inX12 hown hK hP 0 rfl rfl 8 (by decide) (hg _ w1714) (fun _ h9 => h9) rfl dX12_member_158 ?_
                        refine lv_if_ne (tgt := 179) hx hb dX12_member_161 (by decide) (fun c456 => ?_) (fun c456 => ?_)
                        · skip
                          have f457 : ((V434 0 8)).toInt ≠ 0 := b_neq rfl (by decide) c456
                          exfalso; omega
                        · skip
                          have f458 : ((V434 0 8)).toInt = 0 := b_eq rfl (by decide) c456
                          have nt9 : mx437.1 ∉ (nx gs 1).2.2.2 := by rw [oS]; exact fun q9 => absurd (ow5.mpr q9) (by omega)
                          have hr459 : ∀ k, Rc gT (Crun gs (Imember :: k)) (Crun (sT mx437.2 (mx437.1 :: (nx gs 1).2.2.2)) (Iexpr 0 :: Itake 59 :: Imember :: k)) := fun k => Rc.go1 (hr423 k) (mn_y (MTX.new mt443 h438 nt9))
                          have ps460 : (sT mx437.2 (mx437.1 :: (nx gs 1).2.2.2)).1 0 = mx437.2.1 0 := rfl
                          have rl461 : RelM V434 L435 bq gn gT (sT mx437.2 (mx437.1 :: (nx gs 1).2.2.2)) gl := RelM.tl rl439
                          refine lv_aload_n hx hb dX12_member_164 rfl (lv_at hl 1 rfl) ?_
                          refine va_get (D := D) (ci := 12) (v := .ref (ad 34)) (C := RX12) (T := TX12) (N := 100) hx hb hg inX12 hown hK hP 0 rfl rfl 34 (by decide) (hg _ w1740) (fun _ h9 => h9) rfl dX12_member_165 ?_
                          refine lv_bipush (v := 20) hx hb dX12_member_168 (by decide) ?_
                          refine lv_iload_n hx hb dX12_member_170 rfl (lv_at hl 2 rfl) ?_
                          refine lv_imul hx hb dX12_member_171 ?_
                          refine lv_topi (fun z462 ez462 => ?_)
                          have hz462 : z462.toInt = 20 * p0.toInt := i_mul ez462 (by decide) rfl (by omega)
                          refine lv_iload_n hx hb dX12_member_172 rfl (lv_at hl 0 rfl) ?_
                          refine lv_iadd hx hb dX12_member_173 ?_
                          refine lv_topi (fun z463 ez463 => ?_)
                          have hz463 : z463.toInt = z462.toInt + z430.toInt := i_add ez463 rfl rfl (by omega)
                          refine lv_aload_n hx hb dX12_member_174 rfl (lv_at hl 1 rfl) ?_
                          have pq464 : (V434 0 48).toInt = ((V 0 48)).toInt := congrArg Int32.toInt ((ajV434 0 48 rfl).trans ((ajV416 0 48 rfl).trans (ajV324 0 48 rfl)))
                          have pq465 : (V434 0 51).toInt = ((V 0 51)).toInt := congrArg Int32.toInt ((ajV434 0 51 rfl).trans ((ajV416 0 51 rfl).trans (ajV324 0 51 rfl)))
                          have pq466 : (V434 0 52).toInt = ((V 0 52)).toInt := congrArg Int32.toInt ((ajV434 0 52 rfl).trans ((ajV416 0 52 rfl).trans (ajV324 0 52 rfl)))
                          refine gA_int (gA_runV (As := []) (rest := [.int z463, .ref (ad 34)]) (ci := 12) (q0 := 0) hx hb hml hown hg hP hD hK hS hA hnw hgk (s_codeA l D ks H.size ad kk V434 L435 (bq) (gn) (gT) ((sT mx437.2 (mx437.1 :: (nx gs 1).2.2.2))) (gl) hMV434 rl461 (show (V434 0 48).toInt ≤ 2 * (V434 0 7).toInt from by omega) (EM.o2 (o := gc) (show (V434 27 gc).toInt = ((mx437.2.1 1 : Nat) : Int) from by rw [(by rw [(funext (fun q => ajV434 27 q rfl) : V434 27 = V416 27), (funext (fun q => ajV416 27 q rfl) : V416 27 = V324 27), (funext (fun q => ajV324 27 q rfl) : V324 27 = V 27)] : V434 27 = V 27)]; exact (by rw [((keepS.tr (keepS.tr (keepS.rf : keepS gs 0 gs) (keepS.n1 1)) kp442)).2.1 1 (by decide)]; exact ow.1)) (show mx437.2.1 4 = 0 from (by rw [((keepS.tr (keepS.tr (keepS.rf : keepS gs 0 gs) (keepS.n1 1)) kp442)).2.1 4 (by decide)]; exact ow.2.2.2.1)) (by omega) (by omega))) w2112 w2114 w105 w172 w2115 rfl rfl hdV_yX12_code ⟨Nat.le_of_ble_eq_true rfl, Nat.le_of_ble_eq_true rfl⟩ rfl hl.1 rfl (Nat.le_of_ble_eq_true rfl) dX12_member_175 ⟨Nat.le_of_ble_eq_true rfl, Nat.le_of_ble_eq_true rfl⟩) hP hD hK hS hA (fun z467 u468 H locs w469 hP hD hK hS => ?_)
                          obtain ⟨V475, L476⟩ := u468
                          obtain ⟨hMV475, ajV475, axL476, rgz467, t470, t471, t472, t473, t474⟩ := w469
                          have alL476 : agL [27, 28, 29, 30, 31, 32, 33, 34, 35, 36, 37, 38, 45, 46, 47] L L476 := agL.tr alL435 axL476 (by decide)
                          have hP : va_P D vwCl (mw ad kk ks.1 V475 L476) H := hP
                          have hD : va_D A (mw ad kk ks.1 V475 L476) := hD
                          have hMV475 : rgd bM V475 := hMV475
                          have ajV475 : agr [(0, 7), (0, 8), (0, 48), (0, 50)] [35, 36, 37, 38, 45, 46, 47] V434 V475 := ajV475
                          have agV475 : agr [(0, 7), (0, 8), (0, 48), (0, 50)] [27, 28, 29, 30, 31, 32, 33, 34, 35, 36, 37, 38, 45, 46, 47] V V475 := agV434.tr ajV475 (by decide) (by decide)
                          have rgz467 : 0 ≤ z467.toInt ∧ z467.toInt ≤ 20000 := rgz467
                          have t470 : Imp ((V475 0 8).toInt = 0) ((V475 0 48).toInt - (V434 0 48).toInt ≤ 2 * ((V475 0 7).toInt - (V434 0 7).toInt) + 1) := t470
                          have t471 : (V475 0 48).toInt ≤ 8060 := t471
                          have t472 : (V434 0 48).toInt ≤ (V475 0 48).toInt := t472
                          have t473 : z467.toInt = (V434 0 49).toInt + (V434 0 48).toInt := t473
                          have t474 : RdM (gT) ((sT mx437.2 (mx437.1 :: (nx gs 1).2.2.2))) (fun k => Iexpr 0 :: k) (fun k => k) (V475 0 8).toInt (fun s9 => RelM V475 L476 (bq) (gn) (gT) s9 (gl) ∧ keepS ((sT mx437.2 (mx437.1 :: (nx gs 1).2.2.2))) 1 s9) := t474
                          have r477 : 0 ≤ ((V475 0 48)).toInt ∧ ((V475 0 48)).toInt ≤ 10000 := hMV475 0 48
                          have r478 : 0 ≤ ((V475 0 8)).toInt ∧ ((V475 0 8)).toInt ≤ 70000 := hMV475 0 8
                          have pq479 : (V434 0 49).toInt = ((V 0 49)).toInt := congrArg Int32.toInt ((ajV434 0 49 rfl).trans ((ajV416 0 49 rfl).trans (ajV324 0 49 rfl)))
                          have r480 : 0 ≤ ((V 0 49)).toInt ∧ ((V 0 49)).toInt ≤ 10000 := hMV 0 49
                          rcases t474 with ⟨q481, sx482, h483, rl484, kp485⟩ | ⟨q481, h483⟩
                          · skip
                            have hr486 : ∀ k, Rc gT (Crun gs (Imember :: k)) (Crun sx482 (Itake 59 :: Imember :: k)) := fun k => (hr459 k).tr (h483 (Itake 59 :: Imember :: k))
                            have fz487 := RelM.rg rl484
                            have ps488 := (kp485).1
                            refine va_iast (D := D) (i := z463) (x := z467) hx hb hK hP hD hS 27 26 rfl rfl (i_in (a := z463.toInt) rfl (by first | omega | ((try (have i_t470 := Imp.go t470 (by omega))); omega))) dX12_member_178 (fun H locs hP hD hS => ?_)
                            obtain ⟨V489, hV489⟩ : ∃ z, z = up2 V475 34 (Int32.toNatClampNeg z463) z467 := ⟨_, rfl⟩
                            have hP : va_P D vwCl (mw ad kk ks.1 V489 L476) H := by rw [hV489]; exact hP
                            have hD : va_D A (mw ad kk ks.1 V489 L476) := by rw [hV489]; exact hD
                            have hMV489 : rgd bM V489 := hMV475.put hV489 (i_full _)
                            have agV489 : agr [(0, 7), (0, 8), (0, 48), (0, 50)] [27, 28, 29, 30, 31, 32, 33, 34, 35, 36, 37, 38, 45, 46, 47] V V489 := agV475.up hV489 rfl
                            refine lv_goto (tgt := 187) hx hb dX12_member_179 (by decide) ?_
                            refine lv_aload_n hx hb dX12_member_187 rfl (lv_at hl 1 rfl) ?_
                            refine lv_bipush (v := 59) hx hb dX12_member_188 (by decide) ?_
                            have rl490 : RelM V489 L476 bq gn gT sx482 gl := RelM.ag rl484 (show agr [] [34] V475 V489 from (agr.up agr.rf hV489 rfl)) (by decide) (show agL [] L476 L476 from agL.rf) (by decide)
                            have r491 : Int32.toInt 59 = 59 := by decide
                            refine gA_void (gA_runV (As := [.int 59]) (rest := []) (ci := 12) (q0 := 0) hx hb hml hown hg hP hD hK hS hA hnw hgk (s_takeSignA l D ks H.size ad kk V489 L476 59 (bq) (gn) (gT) (sx482) (gl) hMV489 rl490 (sg_yes (j := 59) (by decide) (by decide) (by decide))) w2075 w2077 w96 w172 w2078 rfl rfl hdV_yX12_takeSign ⟨Nat.le_of_ble_eq_true rfl, Nat.le_of_ble_eq_true rfl⟩ rfl hl.1 rfl (Nat.le_of_ble_eq_true rfl) dX12_member_190 ⟨Nat.le_of_ble_eq_true rfl, Nat.le_of_ble_eq_true rfl⟩) hP hD hK hS hA (fun u493 H locs w494 hP hD hK hS => ?_)
                            obtain ⟨V496, L497⟩ := u493
                            obtain ⟨hMV496, ajV496, axL497, t495⟩ := w494
                            have axL497 : L476 = L497 := Eq.symm axL497
                            subst axL497
                            have hP : va_P D vwCl (mw ad kk ks.1 V496 L476) H := hP
                            have hD : va_D A (mw ad kk ks.1 V496 L476) := hD
                            have hMV496 : rgd bM V496 := hMV496
                            have ajV496 : agr [(0, 7), (0, 8)] [] V489 V496 := ajV496
                            have agV496 : agr [(0, 7), (0, 8), (0, 48), (0, 50)] [27, 28, 29, 30, 31, 32, 33, 34, 35, 36, 37, 38, 45, 46, 47] V V496 := agV489.tr ajV496 (by decide) (by decide)
                            have t495 : ((V496 0 8).toInt = 0 ∧ (gT).1 ((sx482).1 0) = (Int32.toInt 59) ∧ RelM V496 L476 (bq) (gn) (gT) (nx (sx482) 1) (gl)) ∨ (1 ≤ (V496 0 8).toInt ∧ (gT).1 ((sx482).1 0) ≠ (Int32.toInt 59) ∧ (V496 0 8).toInt = 1 + 16 * (gT).2.2 ((sx482).1 0)) := t495
                            rcases t495 with ⟨q498, h499, rl500⟩ | ⟨q498, h499, rl500⟩
                            · skip
                              have kd501 : gT.1 (sx482.1 0) = 59 := h499.trans (by decide)
                              have hr502 : ∀ k, Rc gT (Crun gs (Imember :: k)) (Crun (nx sx482 1) (Imember :: k)) := fun k => Rc.go1 (hr486 k) (tk_y kd501)
                              have ps503 : (nx sx482 1).1 0 = sx482.1 0 + 1 := rfl
                              have fz504 := RelM.rg rl500
                              have r505 : 0 ≤ ((V496 0 8)).toInt ∧ ((V496 0 8)).toInt ≤ 70000 := hMV496 0 8
                              have pq506 : (V496 0 48).toInt = ((V475 0 48)).toInt := congrArg Int32.toInt ((ajV496 0 48 rfl).trans (up2_o hV489 (by decide)))
                              have ps507 : gs.1 0 + 1 ≤ (nx gs 1).1 0 := ((keepS.n1 1)).1
                              have ps508 : (nx gs 1).1 0 + 1 ≤ mx437.2.1 0 := (kp442).1
                              have ps509 : (sT mx437.2 (mx437.1 :: (nx gs 1).2.2.2)).1 0 = mx437.2.1 0 := rfl
                              have ps510 : (sT mx437.2 (mx437.1 :: (nx gs 1).2.2.2)).1 0 + 1 ≤ sx482.1 0 := (kp485).1
                              have ps511 : sx482.1 0 + 1 ≤ (nx sx482 1).1 0 := ((keepS.n1 1)).1
                              have k34 : (Int32.toNatClampNeg z463) = 20 * gc + mx437.1 := by have h9 := i_clamp (x := z463) rfl (by omega); omega
                              have cs512 : 0 ≤ (V496 34 (20 * gc + mx437.1)).toInt := by have h9 : V496 34 (Int32.toNatClampNeg z463) = z467 := ((ajV496 34 (Int32.toNatClampNeg z463) rfl).trans (up2_s hV489)); rw [k34] at h9; rw [h9]; omega
                              exact W.vret hx hb hr (fun t ht hW => ⟨⟨(V496, L476), rfl, ⟨hMV496, agV496, alL476, (Imp.mk (fun hp => have hp : (V496 0 8).toInt = 0 := hp; (show (V496 0 48).toInt ≤ 2 * (V496 0 7).toInt from by first | omega | ((try (have i_t470 := Imp.go t470 (by omega))); omega)))), (show (V496 0 48).toInt ≤ 8120 from by first | omega | ((try (have i_t470 := Imp.go t470 (by omega))); omega)), (Or.inl ⟨W0 rl500, (nx sx482 1), hr502, rl500, (by omega), (OWm.mt (m := 1) ow (keepS.le (keepS.tr (keepS.rf : keepS gs 0 gs) (keepS.n1 1)) (by decide)) (Nat.le_refl _) kp442 (MTX.le mt443).1 (MTX.le mt443).2 (keepS.le (keepS.tr (keepS.tr (keepS.rf : keepS (sT mx437.2 (mx437.1 :: (nx gs 1).2.2.2)) 0 (sT mx437.2 (mx437.1 :: (nx gs 1).2.2.2))) kp485) (keepS.n1 1)) (by decide)) (show (mx437.2.2.1 3).length ≤ ((nx sx482 1).2.1 3).length from by have h9 := Rc.ml (h483 []); exact h9) (show V496 27 gc = V 27 gc from ((ajV496 27 _ rfl).trans ((up2_o hV489 (by decide)).trans ((ajV475 27 _ rfl).trans ((ajV434 27 _ rfl).trans ((ajV416 27 _ rfl).trans ((ajV324 27 _ rfl).trans rfl))))))) (show V496 32 gc = V 32 gc from ((ajV496 32 _ rfl).trans ((up2_o hV489 (by decide)).trans ((ajV475 32 _ rfl).trans ((ajV434 32 _ rfl).trans ((ajV416 32 _ rfl).trans ((ajV324 32 _ rfl).trans rfl))))))) (show V496 33 gc = V 33 gc from ((ajV496 33 _ rfl).trans ((up2_o hV489 (by decide)).trans ((ajV475 33 _ rfl).trans ((ajV434 33 _ rfl).trans ((ajV416 33 _ rfl).trans ((ajV324 33 _ rfl).trans rfl))))))) cs512 (fun f hf hne => ((ajV496 34 _ rfl).trans ((up2_k hV489 (by omega)).trans ((ajV475 34 _ rfl).trans ((ajV434 34 _ rfl).trans ((ajV416 34 _ rfl).trans ((ajV324 34 _ rfl).trans rfl)))))))), ((((keepS.n1 1)).2.2.1 2 (by decide)).trans (((kp485).2.2.1 2 (by decide)).trans ((rfl : (sT mx437.2 (mx437.1 :: (nx gs 1).2.2.2)).2.1 2 = mx437.2.2.1 2).trans (((kp442).2.2.1 2 (by decide)).trans ((((keepS.n1 1)).2.2.1 2 (by decide)).trans (rfl : gs.2.1 2 = gs.2.1 2)))))), ((congrArg (fun q9 => q9.1) ((keepS.n1 1)).2.2.2).trans ((congrArg (fun q9 => q9.1) (kp485).2.2.2).trans ((rfl : (sT mx437.2 (mx437.1 :: (nx gs 1).2.2.2)).2.2.1 = mx437.2.2.2.1).trans ((congrArg (fun q9 => q9.1) (kp442).2.2.2).trans ((congrArg (fun q9 => q9.1) ((keepS.n1 1)).2.2.2).trans (rfl : gs.2.2.1 = gs.2.2.1))))))⟩)⟩, by rw [ht]; exact hP, va_K.moved hW.alike hK, hD⟩, hS.F ht⟩) hS.2.2 dX12_member_193
                            · skip
                              have kd513 : gT.1 (sx482.1 0) ≠ 59 := fun h9 => h499 (h9.trans (by decide))
                              have hb514 : ∀ k, Rc gT (Crun gs (Imember :: k)) (Cbad (V496 0 8).toInt) := fun k => Rc.go1 (hr486 k) ((tk_n kd513).trans (fl_eq rfl rl500))
                              have r515 : 0 ≤ ((V496 0 8)).toInt ∧ ((V496 0 8)).toInt ≤ 70000 := hMV496 0 8
                              have pq516 : (V496 0 48).toInt = ((V475 0 48)).toInt := congrArg Int32.toInt ((ajV496 0 48 rfl).trans (up2_o hV489 (by decide)))
                              exact W.vret hx hb hr (fun t ht hW => ⟨⟨(V496, L476), rfl, ⟨hMV496, agV496, alL476, (Imp.mk (fun hp => have hp : (V496 0 8).toInt = 0 := hp; (show (V496 0 48).toInt ≤ 2 * (V496 0 7).toInt from by first | omega | ((try (have i_t470 := Imp.go t470 (by omega))); omega)))), (show (V496 0 48).toInt ≤ 8120 from by first | omega | ((try (have i_t470 := Imp.go t470 (by omega))); omega)), (Or.inr ⟨(show 1 ≤ (V496 0 8).toInt from by omega), hb514⟩)⟩, by rw [ht]; exact hP, va_K.moved hW.alike hK, hD⟩, hS.F ht⟩) hS.2.2 dX12_member_193
                          · skip
                            have hb517 : ∀ k, Rc gT (Crun gs (Imember :: k)) (Cbad (V475 0 8).toInt) := fun k => (hr459 k).tr (h483 (Itake 59 :: Imember :: k))
                            refine va_iast (D := D) (i := z463) (x := z467) hx hb hK hP hD hS 27 26 rfl rfl (i_in (a := z463.toInt) rfl (by first | omega | ((try (have i_t470 := Imp.go t470 (by omega))); omega))) dX12_member_178 (fun H locs hP hD hS => ?_)
                            obtain ⟨V518, hV518⟩ : ∃ z, z = up2 V475 34 (Int32.toNatClampNeg z463) z467 := ⟨_, rfl⟩
                            have hP : va_P D vwCl (mw ad kk ks.1 V518 L476) H := by rw [hV518]; exact hP
                            have hD : va_D A (mw ad kk ks.1 V518 L476) := by rw [hV518]; exact hD
                            have hMV518 : rgd bM V518 := hMV475.put hV518 (i_full _)
                            have agV518 : agr [(0, 7), (0, 8), (0, 48), (0, 50)] [27, 28, 29, 30, 31, 32, 33, 34, 35, 36, 37, 38, 45, 46, 47] V V518 := agV475.up hV518 rfl
                            refine lv_goto (tgt := 187) hx hb dX12_member_179 (by decide) ?_
                            refine lv_aload_n hx hb dX12_member_187 rfl (lv_at hl 1 rfl) ?_
                            refine lv_bipush (v := 59) hx hb dX12_member_188 (by decide) ?_
                            have r519 : Int32.toInt 59 = 59 := by decide
                            have pq520 : (V518 0 8).toInt = ((V475 0 8)).toInt := congrArg Int32.toInt (up2_o hV518 (by decide))
                            refine gA_void (gA_runV (As := [.int 59]) (rest := []) (ci := 12) (q0 := 0) hx hb hml hown hg hP hD hK hS hA hnw hgk (s_takeSignB l D ks H.size ad kk V518 L476 59 hMV518 (show 1 ≤ (V518 0 8).toInt from by first | omega | ((try (have i_t470 := Imp.go t470 (by omega))); omega))) w2075 w2077 w96 w172 w2078 rfl rfl hdV_yX12_takeSign ⟨Nat.le_of_ble_eq_true rfl, Nat.le_of_ble_eq_true rfl⟩ rfl hl.1 rfl (Nat.le_of_ble_eq_true rfl) dX12_member_190 ⟨Nat.le_of_ble_eq_true rfl, Nat.le_of_ble_eq_true rfl⟩) hP hD hK hS hA (fun u522 H locs w523 hP hD hK hS => ?_)
                            obtain ⟨V525, L526⟩ := u522
                            obtain ⟨hMV525, ajV525, axL526, t524⟩ := w523
                            have axL526 : L476 = L526 := Eq.symm axL526
                            subst axL526
                            have hP : va_P D vwCl (mw ad kk ks.1 V525 L476) H := hP
                            have hD : va_D A (mw ad kk ks.1 V525 L476) := hD
                            have hMV525 : rgd bM V525 := hMV525
                            have ajV525 : agr [(0, 7), (0, 8)] [] V518 V525 := ajV525
                            have agV525 : agr [(0, 7), (0, 8), (0, 48), (0, 50)] [27, 28, 29, 30, 31, 32, 33, 34, 35, 36, 37, 38, 45, 46, 47] V V525 := agV518.tr ajV525 (by decide) (by decide)
                            have t524 : (V525 0 8).toInt = (V518 0 8).toInt := t524
                            have r527 : 0 ≤ ((V525 0 8)).toInt ∧ ((V525 0 8)).toInt ≤ 70000 := hMV525 0 8
                            have pq528 : (V525 0 48).toInt = ((V475 0 48)).toInt := congrArg Int32.toInt ((ajV525 0 48 rfl).trans (up2_o hV518 (by decide)))
                            exact W.vret hx hb hr (fun t ht hW => ⟨⟨(V525, L476), rfl, ⟨hMV525, agV525, alL476, (Imp.mk (fun hp => have hp : (V525 0 8).toInt = 0 := hp; (show (V525 0 48).toInt ≤ 2 * (V525 0 7).toInt from by first | omega | ((try (have i_t470 := Imp.go t470 (by omega))); omega)))), (show (V525 0 48).toInt ≤ 8120 from by first | omega | ((try (have i_t470 := Imp.go t470 (by omega))); omega)), (Or.inr ⟨(show 1 ≤ (V525 0 8).toInt from by omega), (fun k => by rw [show (V525 0 8).toInt = (V475 0 8).toInt from by omega]; exact hb517 k)⟩)⟩, by rw [ht]; exact hP, va_K.moved hW.alike hK, hD⟩, hS.F ht⟩) hS.2.2 dX12_member_193
                      · skip
                        have f529 : 0 ≤ ((V 34 (Int32.toNatClampNeg z451))).toInt := b_nlt rfl (by decide) c454
                        refine lv_aload_n hx hb dX12_member_142 rfl (lv_at hl 1 rfl) ?_
                        refine lv_dup hx hb dX12_member_143 rfl ?_
                        refine va_get (D := D) (ci := 12) (v := .int (V434 0 7)) (C := RX12) (T := TX12) (N := 100) hx hb hg inX12 hown hK hP 0 rfl rfl 7 (by decide) (hg _ w1713) (fun _ h9 => h9) rfl dX12_member_144 ?_
                        refine lv_iconst (v := 1) hx hb dX12_member_147 (by decide) ?_
                        refine lv_isub hx hb dX12_member_148 ?_
                        refine lv_topi (fun z530 ez530 => ?_)
                        have hz530 : z530.toInt = ((V434 0 7)).toInt - 1 := i_sub ez530 rfl (by decide) (by omega)
                        refine va_put (D := D) (ci := 12) (v := .int z530) (ty := tyX12 7) (C := RX12) (T := TX12) (N := 100) hx hb hg inX12 tyX12 tyX12_ok nmX12 hown hK hP hD hS 0 rfl rfl 7 (by decide) (hg _ w1713) (fun _ h9 => h9) rfl (tyX12_ok 7 (by decide)) rfl rfl (Nat.le_of_ble_eq_true rfl) dX12_member_149 (fun H locs hP hD hS => ?_)
                        obtain ⟨V531, hV531⟩ : ∃ z, z = up2 V434 0 7 z530 := ⟨_, rfl⟩
                        have hP : va_P D vwCl (mw ad kk ks.1 V531 L435) H := by rw [hV531]; exact hP
                        have hD : va_D A (mw ad kk ks.1 V531 L435) := by rw [hV531]; exact hD
                        have hMV531 : rgd bM V531 := hMV434.put hV531 (i_full _)
                        have agV531 : agr [(0, 7), (0, 8), (0, 48), (0, 50)] [27, 28, 29, 30, 31, 32, 33, 34, 35, 36, 37, 38, 45, 46, 47] V V531 := agV434.up hV531 rfl
                        have tx := MTX.told mt443 (by rw [oS]; exact ow5.mp (by omega)) (by rw [oS, oL]; exact ow.2.2.2.2.2)
                        have rl532 : RelM V531 L435 bq gn gT (nx gs 1) gl := RelM.v8 (by rw [← tx.2]; exact rl439) hV531 (by omega)
                        have fz533 := RelM.rg rl532
                        have pq534 : (V531 0 8).toInt = ((V434 0 8)).toInt := congrArg Int32.toInt (up2_k hV531 (by decide))
                        have pq535 : (V531 0 7).toInt = z530.toInt := congrArg Int32.toInt (up2_s hV531)
                        have mn3 : ∀ k, mst gT (Crun (nx gs 1) (ImethN :: k)) = fl gT (nx gs 1) 3 := fun k => mthN_3 (mth_k3 h438) tx.1 _
                        refine lv_aload_n hx hb dX12_member_152 rfl (lv_at hl 1 rfl) ?_
                        refine lv_iconst (v := 3) hx hb dX12_member_153 (by decide) ?_
                        have r536 : Int32.toInt 3 = 3 := by decide
                        refine gA_void (gA_runV (As := [.int 3]) (rest := []) (ci := 12) (q0 := 0) hx hb hml hown hg hP hD hK hS hA hnw hgk (s_wrongA l D ks H.size ad kk V531 L435 3 (bq) (gn) (gT) ((nx gs 1)) (gl) hMV531 (by decide) rl532) w2035 w2037 w86 w172 w2038 rfl rfl hdV_yX12_wrong ⟨Nat.le_of_ble_eq_true rfl, Nat.le_of_ble_eq_true rfl⟩ rfl hl.1 rfl (Nat.le_of_ble_eq_true rfl) dX12_member_154 ⟨Nat.le_of_ble_eq_true rfl, Nat.le_of_ble_eq_true rfl⟩) hP hD hK hS hA (fun u538 H locs w539 hP hD hK hS => ?_)
                        obtain ⟨V542, L543⟩ := u538
                        obtain ⟨hMV542, ajV542, axL543, t540, t541⟩ := w539
                        have axL543 : L435 = L543 := Eq.symm axL543
                        subst axL543
                        have hP : va_P D vwCl (mw ad kk ks.1 V542 L435) H := hP
                        have hD : va_D A (mw ad kk ks.1 V542 L435) := hD
                        have hMV542 : rgd bM V542 := hMV542
                        have ajV542 : agr [(0, 8)] [] V531 V542 := ajV542
                        have agV542 : agr [(0, 7), (0, 8), (0, 48), (0, 50)] [27, 28, 29, 30, 31, 32, 33, 34, 35, 36, 37, 38, 45, 46, 47] V V542 := agV531.tr ajV542 (by decide) (by decide)
                        have t540 : 1 ≤ (V542 0 8).toInt := t540
                        have t541 : (V542 0 8).toInt = (Int32.toInt 3) + 16 * (gT).2.2 (((nx gs 1)).1 0) := t541
                        have r544 : 0 ≤ ((V542 0 8)).toInt ∧ ((V542 0 8)).toInt ≤ 70000 := hMV542 0 8
                        have hb545 : ∀ k, Rc gT (Crun gs (Imember :: k)) (Cbad (V542 0 8).toInt) := fun k => Rc.go1 (hr423 k) ((mn3 _).trans (fl_eq rfl (show (V542 0 8).toInt = 3 + 16 * gT.2.2 ((nx gs 1).1 0) from by omega)))
                        refine lv_aload_n hx hb dX12_member_157 rfl (lv_at hl 1 rfl) ?_
                        refine va_get (D := D) (ci := 12) (v := .int (V542 0 8)) (C := RX12) (T := TX12) (N := 100) hx hb hg inX12 hown hK hP 0 rfl rfl 8 (by decide) (hg _ w1714) (fun _ h9 => h9) rfl dX12_member_158 ?_
                        refine lv_if_ne (tgt := 179) hx hb dX12_member_161 (by decide) (fun c546 => ?_) (fun c546 => ?_)
                        · skip
                          have f547 : ((V542 0 8)).toInt ≠ 0 := b_neq rfl (by decide) c546
                          refine lv_goto (tgt := 187) hx hb dX12_member_179 (by decide) ?_
                          refine lv_aload_n hx hb dX12_member_187 rfl (lv_at hl 1 rfl) ?_
                          refine lv_bipush (v := 59) hx hb dX12_member_188 (by decide) ?_
                          have r548 : Int32.toInt 59 = 59 := by decide
                          refine gA_void (gA_runV (As := [.int 59]) (rest := []) (ci := 12) (q0 := 0) hx hb hml hown hg hP hD hK hS hA hnw hgk (s_takeSignB l D ks H.size ad kk V542 L435 59 hMV542 (show 1 ≤ (V542 0 8).toInt from by omega)) w2075 w2077 w96 w172 w2078 rfl rfl hdV_yX12_takeSign ⟨Nat.le_of_ble_eq_true rfl, Nat.le_of_ble_eq_true rfl⟩ rfl hl.1 rfl (Nat.le_of_ble_eq_true rfl) dX12_member_190 ⟨Nat.le_of_ble_eq_true rfl, Nat.le_of_ble_eq_true rfl⟩) hP hD hK hS hA (fun u550 H locs w551 hP hD hK hS => ?_)
                          obtain ⟨V553, L554⟩ := u550
                          obtain ⟨hMV553, ajV553, axL554, t552⟩ := w551
                          have axL554 : L435 = L554 := Eq.symm axL554
                          subst axL554
                          have hP : va_P D vwCl (mw ad kk ks.1 V553 L435) H := hP
                          have hD : va_D A (mw ad kk ks.1 V553 L435) := hD
                          have hMV553 : rgd bM V553 := hMV553
                          have ajV553 : agr [(0, 7), (0, 8)] [] V542 V553 := ajV553
                          have agV553 : agr [(0, 7), (0, 8), (0, 48), (0, 50)] [27, 28, 29, 30, 31, 32, 33, 34, 35, 36, 37, 38, 45, 46, 47] V V553 := agV542.tr ajV553 (by decide) (by decide)
                          have t552 : (V553 0 8).toInt = (V542 0 8).toInt := t552
                          have r555 : 0 ≤ ((V553 0 8)).toInt ∧ ((V553 0 8)).toInt ≤ 70000 := hMV553 0 8
                          have pq556 : (V553 0 48).toInt = ((V 0 48)).toInt := congrArg Int32.toInt ((ajV553 0 48 rfl).trans ((ajV542 0 48 rfl).trans ((up2_k hV531 (by decide)).trans ((ajV434 0 48 rfl).trans ((ajV416 0 48 rfl).trans (ajV324 0 48 rfl))))))
                          exact W.vret hx hb hr (fun t ht hW => ⟨⟨(V553, L435), rfl, ⟨hMV553, agV553, alL435, (Imp.mk (fun hp => have hp : (V553 0 8).toInt = 0 := hp; (show (V553 0 48).toInt ≤ 2 * (V553 0 7).toInt from by omega))), (show (V553 0 48).toInt ≤ 8120 from by omega), (Or.inr ⟨(show 1 ≤ (V553 0 8).toInt from by omega), (fun k => by rw [show (V553 0 8).toInt = (V542 0 8).toInt from by omega]; exact hb545 k)⟩)⟩, by rw [ht]; exact hP, va_K.moved hW.alike hK, hD⟩, hS.F ht⟩) hS.2.2 dX12_member_193
                        · skip
                          have f557 : ((V542 0 8)).toInt = 0 := b_eq rfl (by decide) c546
                          exfalso; omega
                  · skip
                    have hb558 : ∀ k, Rc gT (Crun gs (Imember :: k)) (Cbad (V434 0 8).toInt) := fun k => Rc.go1 (hr423 k) (mn_b (Km_mthN h438))
                    have r559 : 0 ≤ ((V434 0 8)).toInt ∧ ((V434 0 8)).toInt ≤ 70000 := hMV434 0 8
                    refine lv_istore_n (lv' := [(2, .int z430), (0, .ref (ad 0)), (1, .int p0)]) hx hb dX12_member_120 rfl hl (by decide) rfl (fun ls hl => ?_)
                    refine lv_aload_n hx hb dX12_member_121 rfl (lv_at hl 1 rfl) ?_
                    refine va_get (D := D) (ci := 12) (v := .int (V434 0 8)) (C := RX12) (T := TX12) (N := 100) hx hb hg inX12 hown hK hP 0 rfl rfl 8 (by decide) (hg _ w1714) (fun _ h9 => h9) rfl dX12_member_122 ?_
                    refine lv_if_ne (tgt := 157) hx hb dX12_member_125 (by decide) (fun c560 => ?_) (fun c560 => ?_)
                    · skip
                      have f561 : ((V434 0 8)).toInt ≠ 0 := b_neq rfl (by decide) c560
                      refine lv_aload_n hx hb dX12_member_157 rfl (lv_at hl 1 rfl) ?_
                      refine va_get (D := D) (ci := 12) (v := .int (V434 0 8)) (C := RX12) (T := TX12) (N := 100) hx hb hg inX12 hown hK hP 0 rfl rfl 8 (by decide) (hg _ w1714) (fun _ h9 => h9) rfl dX12_member_158 ?_
                      refine lv_if_ne (tgt := 179) hx hb dX12_member_161 (by decide) (fun c562 => ?_) (fun c562 => ?_)
                      · skip
                        have f563 : ((V434 0 8)).toInt ≠ 0 := b_neq rfl (by decide) c562
                        refine lv_goto (tgt := 187) hx hb dX12_member_179 (by decide) ?_
                        refine lv_aload_n hx hb dX12_member_187 rfl (lv_at hl 1 rfl) ?_
                        refine lv_bipush (v := 59) hx hb dX12_member_188 (by decide) ?_
                        have r564 : Int32.toInt 59 = 59 := by decide
                        refine gA_void (gA_runV (As := [.int 59]) (rest := []) (ci := 12) (q0 := 0) hx hb hml hown hg hP hD hK hS hA hnw hgk (s_takeSignB l D ks H.size ad kk V434 L435 59 hMV434 (show 1 ≤ (V434 0 8).toInt from by omega)) w2075 w2077 w96 w172 w2078 rfl rfl hdV_yX12_takeSign ⟨Nat.le_of_ble_eq_true rfl, Nat.le_of_ble_eq_true rfl⟩ rfl hl.1 rfl (Nat.le_of_ble_eq_true rfl) dX12_member_190 ⟨Nat.le_of_ble_eq_true rfl, Nat.le_of_ble_eq_true rfl⟩) hP hD hK hS hA (fun u566 H locs w567 hP hD hK hS => ?_)
                        obtain ⟨V569, L570⟩ := u566
                        obtain ⟨hMV569, ajV569, axL570, t568⟩ := w567
                        have axL570 : L435 = L570 := Eq.symm axL570
                        subst axL570
                        have hP : va_P D vwCl (mw ad kk ks.1 V569 L435) H := hP
                        have hD : va_D A (mw ad kk ks.1 V569 L435) := hD
                        have hMV569 : rgd bM V569 := hMV569
                        have ajV569 : agr [(0, 7), (0, 8)] [] V434 V569 := ajV569
                        have agV569 : agr [(0, 7), (0, 8), (0, 48), (0, 50)] [27, 28, 29, 30, 31, 32, 33, 34, 35, 36, 37, 38, 45, 46, 47] V V569 := agV434.tr ajV569 (by decide) (by decide)
                        have t568 : (V569 0 8).toInt = (V434 0 8).toInt := t568
                        have r571 : 0 ≤ ((V569 0 8)).toInt ∧ ((V569 0 8)).toInt ≤ 70000 := hMV569 0 8
                        have pq572 : (V569 0 48).toInt = ((V 0 48)).toInt := congrArg Int32.toInt ((ajV569 0 48 rfl).trans ((ajV434 0 48 rfl).trans ((ajV416 0 48 rfl).trans (ajV324 0 48 rfl))))
                        exact W.vret hx hb hr (fun t ht hW => ⟨⟨(V569, L435), rfl, ⟨hMV569, agV569, alL435, (Imp.mk (fun hp => have hp : (V569 0 8).toInt = 0 := hp; (show (V569 0 48).toInt ≤ 2 * (V569 0 7).toInt from by omega))), (show (V569 0 48).toInt ≤ 8120 from by omega), (Or.inr ⟨(show 1 ≤ (V569 0 8).toInt from by omega), (fun k => by rw [show (V569 0 8).toInt = (V434 0 8).toInt from by omega]; exact hb558 k)⟩)⟩, by rw [ht]; exact hP, va_K.moved hW.alike hK, hD⟩, hS.F ht⟩) hS.2.2 dX12_member_193
                      · skip
                        have f573 : ((V434 0 8)).toInt = 0 := b_eq rfl (by decide) c562
                        exfalso; omega
                    · skip
                      have f574 : ((V434 0 8)).toInt = 0 := b_eq rfl (by decide) c560
                      exfalso; omega
              · skip
                have kd575 : gT.1 (gs.1 0) ≠ 142 := fun h9 => h419 (h9.trans (by decide))
                have fz576 := RelM.rg rl420
                have pq577 : (V416 0 8).toInt = ((V 0 8)).toInt := congrArg Int32.toInt ((ajV416 0 8 rfl).trans (ajV324 0 8 rfl))
                refine lv_if_eq (tgt := 182) hx hb dX12_member_105 (by decide) (fun c578 => ?_) (fun c578 => ?_)
                · skip
                  have f579 : z412.toInt = 0 := b_eq rfl (by decide) c578
                  refine lv_aload_n hx hb dX12_member_182 rfl (lv_at hl 0 rfl) ?_
                  refine lv_iconst (v := 1) hx hb dX12_member_183 (by decide) ?_
                  have r580 : Int32.toInt 1 = 1 := by decide
                  refine gA_void (gA_runV (As := [.int 1]) (rest := []) (ci := 12) (q0 := 0) hx hb hml hown hg hP hD hK hS hA hnw hgk (s_wrongA l D ks H.size ad kk V416 L 1 (bq) (gn) (gT) (gs) (gl) hMV416 (by decide) rl420) w2035 w2037 w86 w172 w2038 rfl rfl hdV_yX12_wrong ⟨Nat.le_of_ble_eq_true rfl, Nat.le_of_ble_eq_true rfl⟩ rfl hl.1 rfl (Nat.le_of_ble_eq_true rfl) dX12_member_184 ⟨Nat.le_of_ble_eq_true rfl, Nat.le_of_ble_eq_true rfl⟩) hP hD hK hS hA (fun u582 H locs w583 hP hD hK hS => ?_)
                  obtain ⟨V586, L587⟩ := u582
                  obtain ⟨hMV586, ajV586, axL587, t584, t585⟩ := w583
                  have axL587 : L = L587 := Eq.symm axL587
                  subst axL587
                  have hP : va_P D vwCl (mw ad kk ks.1 V586 L) H := hP
                  have hD : va_D A (mw ad kk ks.1 V586 L) := hD
                  have hMV586 : rgd bM V586 := hMV586
                  have ajV586 : agr [(0, 8)] [] V416 V586 := ajV586
                  have agV586 : agr [(0, 7), (0, 8), (0, 48), (0, 50)] [27, 28, 29, 30, 31, 32, 33, 34, 35, 36, 37, 38, 45, 46, 47] V V586 := agV416.tr ajV586 (by decide) (by decide)
                  have t584 : 1 ≤ (V586 0 8).toInt := t584
                  have t585 : (V586 0 8).toInt = (Int32.toInt 1) + 16 * (gT).2.2 ((gs).1 0) := t585
                  have r588 : 0 ≤ ((V586 0 8)).toInt ∧ ((V586 0 8)).toInt ≤ 70000 := hMV586 0 8
                  have hr589 : ∀ k, Rc gT (Crun gs (Imember :: k)) (Crun gs (Imember :: k)) := fun k => Rc.rf
                  have hb590 : ∀ k, Rc gT (Crun gs (Imember :: k)) (Cbad (V586 0 8).toInt) := fun k => Rc.go1 (hr589 k) ((mb_f kn125 kd119 (Or.inr (by by_cases q9 : gs.1 2 = 1; exact q9; exact absurd (ow.2.1.mpr q9) (by omega))) (Or.inl kd405) kd575).trans (fl_eq rfl (show (V586 0 8).toInt = 1 + 16 * gT.2.2 (gs.1 0) from by omega)))
                  refine lv_aload_n hx hb dX12_member_187 rfl (lv_at hl 0 rfl) ?_
                  refine lv_bipush (v := 59) hx hb dX12_member_188 (by decide) ?_
                  have r591 : Int32.toInt 59 = 59 := by decide
                  refine gA_void (gA_runV (As := [.int 59]) (rest := []) (ci := 12) (q0 := 0) hx hb hml hown hg hP hD hK hS hA hnw hgk (s_takeSignB l D ks H.size ad kk V586 L 59 hMV586 (show 1 ≤ (V586 0 8).toInt from by omega)) w2075 w2077 w96 w172 w2078 rfl rfl hdV_yX12_takeSign ⟨Nat.le_of_ble_eq_true rfl, Nat.le_of_ble_eq_true rfl⟩ rfl hl.1 rfl (Nat.le_of_ble_eq_true rfl) dX12_member_190 ⟨Nat.le_of_ble_eq_true rfl, Nat.le_of_ble_eq_true rfl⟩) hP hD hK hS hA (fun u593 H locs w594 hP hD hK hS => ?_)
                  obtain ⟨V596, L597⟩ := u593
                  obtain ⟨hMV596, ajV596, axL597, t595⟩ := w594
                  have axL597 : L = L597 := Eq.symm axL597
                  subst axL597
                  have hP : va_P D vwCl (mw ad kk ks.1 V596 L) H := hP
                  have hD : va_D A (mw ad kk ks.1 V596 L) := hD
                  have hMV596 : rgd bM V596 := hMV596
                  have ajV596 : agr [(0, 7), (0, 8)] [] V586 V596 := ajV596
                  have agV596 : agr [(0, 7), (0, 8), (0, 48), (0, 50)] [27, 28, 29, 30, 31, 32, 33, 34, 35, 36, 37, 38, 45, 46, 47] V V596 := agV586.tr ajV596 (by decide) (by decide)
                  have t595 : (V596 0 8).toInt = (V586 0 8).toInt := t595
                  have r598 : 0 ≤ ((V596 0 8)).toInt ∧ ((V596 0 8)).toInt ≤ 70000 := hMV596 0 8
                  have pq599 : (V596 0 48).toInt = ((V 0 48)).toInt := congrArg Int32.toInt ((ajV596 0 48 rfl).trans ((ajV586 0 48 rfl).trans ((ajV416 0 48 rfl).trans (ajV324 0 48 rfl))))
                  exact W.vret hx hb hr (fun t ht hW => ⟨⟨(V596, L), rfl, ⟨hMV596, agV596, alL, (Imp.mk (fun hp => have hp : (V596 0 8).toInt = 0 := hp; (show (V596 0 48).toInt ≤ 2 * (V596 0 7).toInt from by omega))), (show (V596 0 48).toInt ≤ 8120 from by omega), (Or.inr ⟨(show 1 ≤ (V596 0 8).toInt from by omega), (fun k => by rw [show (V596 0 8).toInt = (V586 0 8).toInt from by omega]; exact hb590 k)⟩)⟩, by rw [ht]; exact hP, va_K.moved hW.alike hK, hD⟩, hS.F ht⟩) hS.2.2 dX12_member_193
                · skip
                  have f600 : z412.toInt ≠ 0 := b_neq rfl (by decide) c578
                  exfalso; omega
            · skip
              have f601 : z320.toInt ≠ 0 := b_neq rfl (by decide) c409
              exfalso; omega
      · skip
        have f602 : ((V 32 (Int32.toNatClampNeg p0))).toInt < 0 := b_nle (by decide) rfl c122
        refine lv_aload_n hx hb dX12_member_46 rfl (lv_at hl 0 rfl) ?_
        refine lv_bipush (v := 12) hx hb dX12_member_47 (by decide) ?_
        have r603 : Int32.toInt 12 = 12 := by decide
        refine gA_int (gA_runV (As := [.int 12]) (rest := []) (ci := 12) (q0 := 0) hx hb hml hown hg hP hD hK hS hA hnw hgk (s_hasWordA l D ks H.size ad kk V L 12 (bq) (gn) (gT) (gs) (gl) hMV (by decide) rel) w2051 w2053 w90 w172 w2054 rfl rfl hdV_yX12_hasWord ⟨Nat.le_of_ble_eq_true rfl, Nat.le_of_ble_eq_true rfl⟩ rfl hl.1 rfl (Nat.le_of_ble_eq_true rfl) dX12_member_49 ⟨Nat.le_of_ble_eq_true rfl, Nat.le_of_ble_eq_true rfl⟩) hP hD hK hS hA (fun z604 u605 H locs w606 hP hD hK hS => ?_)
        obtain ⟨V608, L609⟩ := u605
        obtain ⟨hMV608, ajV608, axL609, rgz604, t607⟩ := w606
        have axL609 : L = L609 := Eq.symm axL609
        subst axL609
        have hP : va_P D vwCl (mw ad kk ks.1 V608 L) H := hP
        have hD : va_D A (mw ad kk ks.1 V608 L) := hD
        have hMV608 : rgd bM V608 := hMV608
        have ajV608 : agr [(0, 7)] [] V V608 := ajV608
        have agV608 : agr [(0, 7), (0, 8), (0, 48), (0, 50)] [27, 28, 29, 30, 31, 32, 33, 34, 35, 36, 37, 38, 45, 46, 47] V V608 := agV.tr ajV608 (by decide) (by decide)
        have rgz604 : 0 ≤ z604.toInt ∧ z604.toInt ≤ 1 := rgz604
        have t607 : (z604.toInt = 1 ∧ (gT).1 ((gs).1 0) = 128 + (Int32.toInt 12) ∧ RelM V608 L (bq) (gn) (gT) (nx (gs) 1) (gl)) ∨ (z604.toInt = 0 ∧ (gT).1 ((gs).1 0) ≠ 128 + (Int32.toInt 12) ∧ RelM V608 L (bq) (gn) (gT) (gs) (gl)) := t607
        rcases t607 with ⟨q610, h611, rl612⟩ | ⟨q610, h611, rl612⟩
        · skip
          have kd613 : gT.1 (gs.1 0) = 140 := h611.trans (by decide)
          have hr614 : ∀ k, Rc gT (Crun gs (Imember :: k)) (Crun gs (Imember :: k)) := fun k => Rc.rf
          have hr615 : ∀ k, Rc gT (Crun gs (Imember :: k)) (Crun (nx (sN gs 2 1) 1) (Iexpr 0 :: Itake 59 :: Imember :: k)) := fun k => Rc.go1 (hr614 k) (mb_140 kd613 (ow.2.1.mp (by omega)))
          have ps616 : (sN gs 2 1).1 0 = gs.1 0 := rfl
          have ps617 : (nx gs 1).1 0 = gs.1 0 + 1 := rfl
          have fz618 := RelM.rg rl612
          have pq619 : (V608 0 8).toInt = ((V 0 8)).toInt := congrArg Int32.toInt (ajV608 0 8 rfl)
          have r620 : 0 ≤ ((V 0 8)).toInt ∧ ((V 0 8)).toInt ≤ 70000 := hMV 0 8
          refine lv_if_eq (tgt := 68) hx hb dX12_member_52 (by decide) (fun c621 => ?_) (fun c621 => ?_)
          · skip
            have f622 : z604.toInt = 0 := b_eq rfl (by decide) c621
            exfalso; omega
          · skip
            have f623 : z604.toInt ≠ 0 := b_neq rfl (by decide) c621
            have rl624 : RelM V608 L bq gn gT (nx (sN gs 2 1) 1) gl := rl612
            refine lv_aload_n hx hb dX12_member_55 rfl (lv_at hl 0 rfl) ?_
            refine va_get (D := D) (ci := 12) (v := .ref (ad 32)) (C := RX12) (T := TX12) (N := 100) hx hb hg inX12 hown hK hP 0 rfl rfl 32 (by decide) (hg _ w1738) (fun _ h9 => h9) rfl dX12_member_56 ?_
            refine lv_iload_n hx hb dX12_member_59 rfl (lv_at hl 1 rfl) ?_
            refine lv_aload_n hx hb dX12_member_60 rfl (lv_at hl 0 rfl) ?_
            have pq625 : (V608 0 48).toInt = ((V 0 48)).toInt := congrArg Int32.toInt (ajV608 0 48 rfl)
            have pq626 : (V608 0 51).toInt = ((V 0 51)).toInt := congrArg Int32.toInt (ajV608 0 51 rfl)
            have pq627 : (V608 0 52).toInt = ((V 0 52)).toInt := congrArg Int32.toInt (ajV608 0 52 rfl)
            refine gA_int (gA_runV (As := []) (rest := [.int p0, .ref (ad 32)]) (ci := 12) (q0 := 0) hx hb hml hown hg hP hD hK hS hA hnw hgk (s_codeA l D ks H.size ad kk V608 L (bq) (gn) (gT) ((nx (sN gs 2 1) 1)) (gl) hMV608 rl624 (show (V608 0 48).toInt ≤ 2 * (V608 0 7).toInt from by omega) (EM.o2 (o := gc) (show (V608 27 gc).toInt = (((nx (sN gs 2 1) 1).1 1 : Nat) : Int) from by rw [(by rw [(funext (fun q => ajV608 27 q rfl) : V608 27 = V 27)] : V608 27 = V 27)]; exact ow.1) (show (nx (sN gs 2 1) 1).1 4 = 0 from ow.2.2.2.1) (by omega) (by omega))) w2112 w2114 w105 w172 w2115 rfl rfl hdV_yX12_code ⟨Nat.le_of_ble_eq_true rfl, Nat.le_of_ble_eq_true rfl⟩ rfl hl.1 rfl (Nat.le_of_ble_eq_true rfl) dX12_member_61 ⟨Nat.le_of_ble_eq_true rfl, Nat.le_of_ble_eq_true rfl⟩) hP hD hK hS hA (fun z628 u629 H locs w630 hP hD hK hS => ?_)
            obtain ⟨V636, L637⟩ := u629
            obtain ⟨hMV636, ajV636, axL637, rgz628, t631, t632, t633, t634, t635⟩ := w630
            have alL637 : agL [27, 28, 29, 30, 31, 32, 33, 34, 35, 36, 37, 38, 45, 46, 47] L L637 := agL.tr alL axL637 (by decide)
            have hP : va_P D vwCl (mw ad kk ks.1 V636 L637) H := hP
            have hD : va_D A (mw ad kk ks.1 V636 L637) := hD
            have hMV636 : rgd bM V636 := hMV636
            have ajV636 : agr [(0, 7), (0, 8), (0, 48), (0, 50)] [35, 36, 37, 38, 45, 46, 47] V608 V636 := ajV636
            have agV636 : agr [(0, 7), (0, 8), (0, 48), (0, 50)] [27, 28, 29, 30, 31, 32, 33, 34, 35, 36, 37, 38, 45, 46, 47] V V636 := agV608.tr ajV636 (by decide) (by decide)
            have rgz628 : 0 ≤ z628.toInt ∧ z628.toInt ≤ 20000 := rgz628
            have t631 : Imp ((V636 0 8).toInt = 0) ((V636 0 48).toInt - (V608 0 48).toInt ≤ 2 * ((V636 0 7).toInt - (V608 0 7).toInt) + 1) := t631
            have t632 : (V636 0 48).toInt ≤ 8060 := t632
            have t633 : (V608 0 48).toInt ≤ (V636 0 48).toInt := t633
            have t634 : z628.toInt = (V608 0 49).toInt + (V608 0 48).toInt := t634
            have t635 : RdM (gT) ((nx (sN gs 2 1) 1)) (fun k => Iexpr 0 :: k) (fun k => k) (V636 0 8).toInt (fun s9 => RelM V636 L637 (bq) (gn) (gT) s9 (gl) ∧ keepS ((nx (sN gs 2 1) 1)) 1 s9) := t635
            have r638 : 0 ≤ ((V636 0 48)).toInt ∧ ((V636 0 48)).toInt ≤ 10000 := hMV636 0 48
            have r639 : 0 ≤ ((V636 0 8)).toInt ∧ ((V636 0 8)).toInt ≤ 70000 := hMV636 0 8
            have pq640 : (V608 0 49).toInt = ((V 0 49)).toInt := congrArg Int32.toInt (ajV608 0 49 rfl)
            have r641 : 0 ≤ ((V 0 49)).toInt ∧ ((V 0 49)).toInt ≤ 10000 := hMV 0 49
            rcases t635 with ⟨q642, sx643, h644, rl645, kp646⟩ | ⟨q642, h644⟩
            · skip
              have hr647 : ∀ k, Rc gT (Crun gs (Imember :: k)) (Crun sx643 (Itake 59 :: Imember :: k)) := fun k => (hr615 k).tr (h644 (Itake 59 :: Imember :: k))
              have fz648 := RelM.rg rl645
              have ps649 := (kp646).1
              refine va_iast (D := D) (i := p0) (x := z628) hx hb hK hP hD hS 25 24 rfl rfl (i_in (a := p0.toInt) rfl (by first | omega | ((try (have i_t631 := Imp.go t631 (by omega))); omega))) dX12_member_64 (fun H locs hP hD hS => ?_)
              obtain ⟨V650, hV650⟩ : ∃ z, z = up2 V636 32 (Int32.toNatClampNeg p0) z628 := ⟨_, rfl⟩
              have hP : va_P D vwCl (mw ad kk ks.1 V650 L637) H := by rw [hV650]; exact hP
              have hD : va_D A (mw ad kk ks.1 V650 L637) := by rw [hV650]; exact hD
              have hMV650 : rgd bM V650 := hMV636.put hV650 (i_full _)
              have agV650 : agr [(0, 7), (0, 8), (0, 48), (0, 50)] [27, 28, 29, 30, 31, 32, 33, 34, 35, 36, 37, 38, 45, 46, 47] V V650 := agV636.up hV650 rfl
              refine lv_goto (tgt := 187) hx hb dX12_member_65 (by decide) ?_
              refine lv_aload_n hx hb dX12_member_187 rfl (lv_at hl 0 rfl) ?_
              refine lv_bipush (v := 59) hx hb dX12_member_188 (by decide) ?_
              have rl651 : RelM V650 L637 bq gn gT sx643 gl := RelM.ag rl645 (show agr [] [32] V636 V650 from (agr.up agr.rf hV650 rfl)) (by decide) (show agL [] L637 L637 from agL.rf) (by decide)
              have r652 : Int32.toInt 59 = 59 := by decide
              refine gA_void (gA_runV (As := [.int 59]) (rest := []) (ci := 12) (q0 := 0) hx hb hml hown hg hP hD hK hS hA hnw hgk (s_takeSignA l D ks H.size ad kk V650 L637 59 (bq) (gn) (gT) (sx643) (gl) hMV650 rl651 (sg_yes (j := 59) (by decide) (by decide) (by decide))) w2075 w2077 w96 w172 w2078 rfl rfl hdV_yX12_takeSign ⟨Nat.le_of_ble_eq_true rfl, Nat.le_of_ble_eq_true rfl⟩ rfl hl.1 rfl (Nat.le_of_ble_eq_true rfl) dX12_member_190 ⟨Nat.le_of_ble_eq_true rfl, Nat.le_of_ble_eq_true rfl⟩) hP hD hK hS hA (fun u654 H locs w655 hP hD hK hS => ?_)
              obtain ⟨V657, L658⟩ := u654
              obtain ⟨hMV657, ajV657, axL658, t656⟩ := w655
              have axL658 : L637 = L658 := Eq.symm axL658
              subst axL658
              have hP : va_P D vwCl (mw ad kk ks.1 V657 L637) H := hP
              have hD : va_D A (mw ad kk ks.1 V657 L637) := hD
              have hMV657 : rgd bM V657 := hMV657
              have ajV657 : agr [(0, 7), (0, 8)] [] V650 V657 := ajV657
              have agV657 : agr [(0, 7), (0, 8), (0, 48), (0, 50)] [27, 28, 29, 30, 31, 32, 33, 34, 35, 36, 37, 38, 45, 46, 47] V V657 := agV650.tr ajV657 (by decide) (by decide)
              have t656 : ((V657 0 8).toInt = 0 ∧ (gT).1 ((sx643).1 0) = (Int32.toInt 59) ∧ RelM V657 L637 (bq) (gn) (gT) (nx (sx643) 1) (gl)) ∨ (1 ≤ (V657 0 8).toInt ∧ (gT).1 ((sx643).1 0) ≠ (Int32.toInt 59) ∧ (V657 0 8).toInt = 1 + 16 * (gT).2.2 ((sx643).1 0)) := t656
              rcases t656 with ⟨q659, h660, rl661⟩ | ⟨q659, h660, rl661⟩
              · skip
                have kd662 : gT.1 (sx643.1 0) = 59 := h660.trans (by decide)
                have hr663 : ∀ k, Rc gT (Crun gs (Imember :: k)) (Crun (nx sx643 1) (Imember :: k)) := fun k => Rc.go1 (hr647 k) (tk_y kd662)
                have ps664 : (nx sx643 1).1 0 = sx643.1 0 + 1 := rfl
                have fz665 := RelM.rg rl661
                have r666 : 0 ≤ ((V657 0 8)).toInt ∧ ((V657 0 8)).toInt ≤ 70000 := hMV657 0 8
                have pq667 : (V657 0 48).toInt = ((V636 0 48)).toInt := congrArg Int32.toInt ((ajV657 0 48 rfl).trans (up2_o hV650 (by decide)))
                have ps668 : gs.1 0 + 1 ≤ (nx gs 1).1 0 := ((keepS.n1 1)).1
                have ps669 : (nx (sN gs 2 1) 1).1 0 = (nx gs 1).1 0 := rfl
                have ps670 : (nx (sN gs 2 1) 1).1 0 + 1 ≤ sx643.1 0 := (kp646).1
                have ps671 : sx643.1 0 + 1 ≤ (nx sx643 1).1 0 := ((keepS.n1 1)).1
                have cs672 : 0 ≤ (V657 32 gc).toInt := by have h9 : V657 32 (Int32.toNatClampNeg p0) = z628 := ((ajV657 32 (Int32.toNatClampNeg p0) rfl).trans (up2_s hV650)); rw [kgc] at h9; rw [h9]; omega
                exact W.vret hx hb hr (fun t ht hW => ⟨⟨(V657, L637), rfl, ⟨hMV657, agV657, alL637, (Imp.mk (fun hp => have hp : (V657 0 8).toInt = 0 := hp; (show (V657 0 48).toInt ≤ 2 * (V657 0 7).toInt from by first | omega | ((try (have i_t631 := Imp.go t631 (by omega))); omega)))), (show (V657 0 48).toInt ≤ 8120 from by first | omega | ((try (have i_t631 := Imp.go t631 (by omega))); omega)), (Or.inl ⟨W0 rl661, (nx sx643 1), hr663, rl661, (by omega), (OWm.op ow (keepS.tr (keepS.tr (keepS.rf : keepS (nx (sN gs 2 1) 1) 0 (nx (sN gs 2 1) 1)) kp646) (keepS.n1 1)) (Rc.ml (hr663 [])) (show V657 27 gc = V 27 gc from ((ajV657 27 _ rfl).trans ((up2_o hV650 (by decide)).trans ((ajV636 27 _ rfl).trans ((ajV608 27 _ rfl).trans rfl))))) cs672 (show V657 33 gc = V 33 gc from ((ajV657 33 _ rfl).trans ((up2_o hV650 (by decide)).trans ((ajV636 33 _ rfl).trans ((ajV608 33 _ rfl).trans rfl))))) (fun f hf => ((show agr [(0, 7), (0, 8), (0, 48), (0, 50)] [32, 35, 36, 37, 38, 45, 46, 47] V V657 from (agr.tr (agr.up (agr.tr (agr.tr agr.rf ajV608 (by decide) (by decide)) ajV636 (by decide) (by decide)) hV650 rfl) ajV657 (by decide) (by decide))) 34 _ rfl))), ((((keepS.n1 1)).2.2.1 2 (by decide)).trans (((kp646).2.2.1 2 (by decide)).trans ((rfl : (nx (sN gs 2 1) 1).2.1 2 = (nx gs 1).2.1 2).trans ((((keepS.n1 1)).2.2.1 2 (by decide)).trans (rfl : gs.2.1 2 = gs.2.1 2))))), ((congrArg (fun q9 => q9.1) ((keepS.n1 1)).2.2.2).trans ((congrArg (fun q9 => q9.1) (kp646).2.2.2).trans ((rfl : (nx (sN gs 2 1) 1).2.2.1 = (nx gs 1).2.2.1).trans ((congrArg (fun q9 => q9.1) ((keepS.n1 1)).2.2.2).trans (rfl : gs.2.2.1 = gs.2.2.1)))))⟩)⟩, by rw [ht]; exact hP, va_K.moved hW.alike hK, hD⟩, hS.F ht⟩) hS.2.2 dX12_member_193
              · skip
                have kd673 : gT.1 (sx643.1 0) ≠ 59 := fun h9 => h660 (h9.trans (by decide))
                have hb674 : ∀ k, Rc gT (Crun gs (Imember :: k)) (Cbad (V657 0 8).toInt) := fun k => Rc.go1 (hr647 k) ((tk_n kd673).trans (fl_eq rfl rl661))
                have r675 : 0 ≤ ((V657 0 8)).toInt ∧ ((V657 0 8)).toInt ≤ 70000 := hMV657 0 8
                have pq676 : (V657 0 48).toInt = ((V636 0 48)).toInt := congrArg Int32.toInt ((ajV657 0 48 rfl).trans (up2_o hV650 (by decide)))
                exact W.vret hx hb hr (fun t ht hW => ⟨⟨(V657, L637), rfl, ⟨hMV657, agV657, alL637, (Imp.mk (fun hp => have hp : (V657 0 8).toInt = 0 := hp; (show (V657 0 48).toInt ≤ 2 * (V657 0 7).toInt from by first | omega | ((try (have i_t631 := Imp.go t631 (by omega))); omega)))), (show (V657 0 48).toInt ≤ 8120 from by first | omega | ((try (have i_t631 := Imp.go t631 (by omega))); omega)), (Or.inr ⟨(show 1 ≤ (V657 0 8).toInt from by omega), hb674⟩)⟩, by rw [ht]; exact hP, va_K.moved hW.alike hK, hD⟩, hS.F ht⟩) hS.2.2 dX12_member_193
            · skip
              have hb677 : ∀ k, Rc gT (Crun gs (Imember :: k)) (Cbad (V636 0 8).toInt) := fun k => (hr615 k).tr (h644 (Itake 59 :: Imember :: k))
              refine va_iast (D := D) (i := p0) (x := z628) hx hb hK hP hD hS 25 24 rfl rfl (i_in (a := p0.toInt) rfl (by first | omega | ((try (have i_t631 := Imp.go t631 (by omega))); omega))) dX12_member_64 (fun H locs hP hD hS => ?_)
              obtain ⟨V678, hV678⟩ : ∃ z, z = up2 V636 32 (Int32.toNatClampNeg p0) z628 := ⟨_, rfl⟩
              have hP : va_P D vwCl (mw ad kk ks.1 V678 L637) H := by rw [hV678]; exact hP
              have hD : va_D A (mw ad kk ks.1 V678 L637) := by rw [hV678]; exact hD
              have hMV678 : rgd bM V678 := hMV636.put hV678 (i_full _)
              have agV678 : agr [(0, 7), (0, 8), (0, 48), (0, 50)] [27, 28, 29, 30, 31, 32, 33, 34, 35, 36, 37, 38, 45, 46, 47] V V678 := agV636.up hV678 rfl
              refine lv_goto (tgt := 187) hx hb dX12_member_65 (by decide) ?_
              refine lv_aload_n hx hb dX12_member_187 rfl (lv_at hl 0 rfl) ?_
              refine lv_bipush (v := 59) hx hb dX12_member_188 (by decide) ?_
              have r679 : Int32.toInt 59 = 59 := by decide
              have pq680 : (V678 0 8).toInt = ((V636 0 8)).toInt := congrArg Int32.toInt (up2_o hV678 (by decide))
              refine gA_void (gA_runV (As := [.int 59]) (rest := []) (ci := 12) (q0 := 0) hx hb hml hown hg hP hD hK hS hA hnw hgk (s_takeSignB l D ks H.size ad kk V678 L637 59 hMV678 (show 1 ≤ (V678 0 8).toInt from by first | omega | ((try (have i_t631 := Imp.go t631 (by omega))); omega))) w2075 w2077 w96 w172 w2078 rfl rfl hdV_yX12_takeSign ⟨Nat.le_of_ble_eq_true rfl, Nat.le_of_ble_eq_true rfl⟩ rfl hl.1 rfl (Nat.le_of_ble_eq_true rfl) dX12_member_190 ⟨Nat.le_of_ble_eq_true rfl, Nat.le_of_ble_eq_true rfl⟩) hP hD hK hS hA (fun u682 H locs w683 hP hD hK hS => ?_)
              obtain ⟨V685, L686⟩ := u682
              obtain ⟨hMV685, ajV685, axL686, t684⟩ := w683
              have axL686 : L637 = L686 := Eq.symm axL686
              subst axL686
              have hP : va_P D vwCl (mw ad kk ks.1 V685 L637) H := hP
              have hD : va_D A (mw ad kk ks.1 V685 L637) := hD
              have hMV685 : rgd bM V685 := hMV685
              have ajV685 : agr [(0, 7), (0, 8)] [] V678 V685 := ajV685
              have agV685 : agr [(0, 7), (0, 8), (0, 48), (0, 50)] [27, 28, 29, 30, 31, 32, 33, 34, 35, 36, 37, 38, 45, 46, 47] V V685 := agV678.tr ajV685 (by decide) (by decide)
              have t684 : (V685 0 8).toInt = (V678 0 8).toInt := t684
              have r687 : 0 ≤ ((V685 0 8)).toInt ∧ ((V685 0 8)).toInt ≤ 70000 := hMV685 0 8
              have pq688 : (V685 0 48).toInt = ((V636 0 48)).toInt := congrArg Int32.toInt ((ajV685 0 48 rfl).trans (up2_o hV678 (by decide)))
              exact W.vret hx hb hr (fun t ht hW => ⟨⟨(V685, L637), rfl, ⟨hMV685, agV685, alL637, (Imp.mk (fun hp => have hp : (V685 0 8).toInt = 0 := hp; (show (V685 0 48).toInt ≤ 2 * (V685 0 7).toInt from by first | omega | ((try (have i_t631 := Imp.go t631 (by omega))); omega)))), (show (V685 0 48).toInt ≤ 8120 from by first | omega | ((try (have i_t631 := Imp.go t631 (by omega))); omega)), (Or.inr ⟨(show 1 ≤ (V685 0 8).toInt from by omega), (fun k => by rw [show (V685 0 8).toInt = (V636 0 8).toInt from by omega]; exact hb677 k)⟩)⟩, by rw [ht]; exact hP, va_K.moved hW.alike hK, hD⟩, hS.F ht⟩) hS.2.2 dX12_member_193
        · skip
          have kd689 : gT.1 (gs.1 0) ≠ 140 := fun h9 => h611 (h9.trans (by decide))
          have fz690 := RelM.rg rl612
          have pq691 : (V608 0 8).toInt = ((V 0 8)).toInt := congrArg Int32.toInt (ajV608 0 8 rfl)
          have r692 : 0 ≤ ((V 0 8)).toInt ∧ ((V 0 8)).toInt ≤ 70000 := hMV 0 8
          refine lv_if_eq (tgt := 68) hx hb dX12_member_52 (by decide) (fun c693 => ?_) (fun c693 => ?_)
          · skip
            have f694 : z604.toInt = 0 := b_eq rfl (by decide) c693
            refine lv_aload_n hx hb dX12_member_68 rfl (lv_at hl 0 rfl) ?_
            refine va_get (D := D) (ci := 12) (v := .ref (ad 33)) (C := RX12) (T := TX12) (N := 100) hx hb hg inX12 hown hK hP 0 rfl rfl 33 (by decide) (hg _ w1739) (fun _ h9 => h9) rfl dX12_member_69 ?_
            refine lv_iload_n hx hb dX12_member_72 rfl (lv_at hl 1 rfl) ?_
            refine va_iald (D := D) (i := p0) hx hb hK hP 26 25 rfl rfl (i_in (a := p0.toInt) rfl (by omega)) dX12_member_73 ?_
            refine g_top (v := (V 33 (Int32.toNatClampNeg p0))) (ajV608 33 (Int32.toNatClampNeg p0) rfl) ?_
            refine lv_if_ge (tgt := 99) hx hb dX12_member_74 (by decide) (fun c695 => ?_) (fun c695 => ?_)
            · skip
              have f696 : 0 ≤ ((V 33 (Int32.toNatClampNeg p0))).toInt := b_le (by decide) rfl c695
              refine lv_aload_n hx hb dX12_member_99 rfl (lv_at hl 0 rfl) ?_
              refine lv_bipush (v := 14) hx hb dX12_member_100 (by decide) ?_
              have r697 : Int32.toInt 14 = 14 := by decide
              refine gA_int (gA_runV (As := [.int 14]) (rest := []) (ci := 12) (q0 := 0) hx hb hml hown hg hP hD hK hS hA hnw hgk (s_hasWordA l D ks H.size ad kk V608 L 14 (bq) (gn) (gT) (gs) (gl) hMV608 (by decide) rl612) w2051 w2053 w90 w172 w2054 rfl rfl hdV_yX12_hasWord ⟨Nat.le_of_ble_eq_true rfl, Nat.le_of_ble_eq_true rfl⟩ rfl hl.1 rfl (Nat.le_of_ble_eq_true rfl) dX12_member_102 ⟨Nat.le_of_ble_eq_true rfl, Nat.le_of_ble_eq_true rfl⟩) hP hD hK hS hA (fun z698 u699 H locs w700 hP hD hK hS => ?_)
              obtain ⟨V702, L703⟩ := u699
              obtain ⟨hMV702, ajV702, axL703, rgz698, t701⟩ := w700
              have axL703 : L = L703 := Eq.symm axL703
              subst axL703
              have hP : va_P D vwCl (mw ad kk ks.1 V702 L) H := hP
              have hD : va_D A (mw ad kk ks.1 V702 L) := hD
              have hMV702 : rgd bM V702 := hMV702
              have ajV702 : agr [(0, 7)] [] V608 V702 := ajV702
              have agV702 : agr [(0, 7), (0, 8), (0, 48), (0, 50)] [27, 28, 29, 30, 31, 32, 33, 34, 35, 36, 37, 38, 45, 46, 47] V V702 := agV608.tr ajV702 (by decide) (by decide)
              have rgz698 : 0 ≤ z698.toInt ∧ z698.toInt ≤ 1 := rgz698
              have t701 : (z698.toInt = 1 ∧ (gT).1 ((gs).1 0) = 128 + (Int32.toInt 14) ∧ RelM V702 L (bq) (gn) (gT) (nx (gs) 1) (gl)) ∨ (z698.toInt = 0 ∧ (gT).1 ((gs).1 0) ≠ 128 + (Int32.toInt 14) ∧ RelM V702 L (bq) (gn) (gT) (gs) (gl)) := t701
              rcases t701 with ⟨q704, h705, rl706⟩ | ⟨q704, h705, rl706⟩
              · skip
                have kd707 : gT.1 (gs.1 0) = 142 := h705.trans (by decide)
                have hr708 : ∀ k, Rc gT (Crun gs (Imember :: k)) (Crun gs (Imember :: k)) := fun k => Rc.rf
                have hr709 : ∀ k, Rc gT (Crun gs (Imember :: k)) (Crun (nx gs 1) (ImethN :: Iexpr 0 :: Itake 59 :: Imember :: k)) := fun k => Rc.go1 (hr708 k) (mb_142 kd707)
                have ps710 : (nx gs 1).1 0 = gs.1 0 + 1 := rfl
                have fz711 := RelM.rg rl706
                have pq712 : (V702 0 8).toInt = ((V 0 8)).toInt := congrArg Int32.toInt ((ajV702 0 8 rfl).trans (ajV608 0 8 rfl))
                refine lv_if_eq (tgt := 182) hx hb dX12_member_105 (by decide) (fun c713 => ?_) (fun c713 => ?_)
                · skip
                  have f714 : z698.toInt = 0 := b_eq rfl (by decide) c713
                  exfalso; omega
                · skip
                  have f715 : z698.toInt ≠ 0 := b_neq rfl (by decide) c713
                  refine lv_aload_n hx hb dX12_member_108 rfl (lv_at hl 0 rfl) ?_
                  refine lv_aload_n hx hb dX12_member_109 rfl (lv_at hl 0 rfl) ?_
                  refine va_get (D := D) (ci := 12) (v := .ref (ad 36)) (C := RX12) (T := TX12) (N := 100) hx hb hg inX12 hown hK hP 0 rfl rfl 36 (by decide) (hg _ w1742) (fun _ h9 => h9) rfl dX12_member_110 ?_
                  refine lv_aload_n hx hb dX12_member_113 rfl (lv_at hl 0 rfl) ?_
                  refine va_get (D := D) (ci := 12) (v := .ref (ad 35)) (C := RX12) (T := TX12) (N := 100) hx hb hg inX12 hown hK hP 0 rfl rfl 35 (by decide) (hg _ w1741) (fun _ h9 => h9) rfl dX12_member_114 ?_
                  refine gA_int (gA_runV (As := [.ref (ad 36), .ref (ad 35)]) (rest := []) (ci := 12) (q0 := 0) hx hb hml hown hg hP hD hK hS hA hnw hgk (s_takeWordOf3 l D ks H.size ad kk V702 L (bq) (gn) (gT) ((nx gs 1)) (gl) hMV702 rl706) w2100 w2102 w102 w172 w2103 rfl rfl hdV_yX12_takeWordOf ⟨Nat.le_of_ble_eq_true rfl, Nat.le_of_ble_eq_true rfl⟩ rfl hl.1 rfl (Nat.le_of_ble_eq_true rfl) dX12_member_117 ⟨Nat.le_of_ble_eq_true rfl, Nat.le_of_ble_eq_true rfl⟩) hP hD hK hS hA (fun z716 u717 H locs w718 hP hD hK hS => ?_)
                  obtain ⟨V720, L721⟩ := u717
                  obtain ⟨hMV720, ajV720, axL721, rgz716, t719⟩ := w718
                  have alL721 : agL [27, 28, 29, 30, 31, 32, 33, 34, 35, 36, 37, 38, 45, 46, 47] L L721 := agL.tr alL axL721 (by decide)
                  have hP : va_P D vwCl (mw ad kk ks.1 V720 L721) H := hP
                  have hD : va_D A (mw ad kk ks.1 V720 L721) := hD
                  have hMV720 : rgd bM V720 := hMV720
                  have ajV720 : agr [(0, 7), (0, 8)] [35, 36, 37, 38] V702 V720 := ajV720
                  have agV720 : agr [(0, 7), (0, 8), (0, 48), (0, 50)] [27, 28, 29, 30, 31, 32, 33, 34, 35, 36, 37, 38, 45, 46, 47] V V720 := agV702.tr ajV720 (by decide) (by decide)
                  have rgz716 : (-1) ≤ z716.toInt ∧ z716.toInt ≤ 19 := rgz716
                  have t719 : KmS (mthW (gT) ((nx gs 1)) 3) (V720 0 8).toInt (fun x9 => RelM V720 L721 (bq) (gn) (gT) x9.2 (gl) ∧ z716.toInt = ((x9.1 : Nat) : Int) ∧ x9.1 < 20 ∧ keepS ((nx gs 1)) 1 x9.2 ∧ MTX (gT) ((nx gs 1)) 3 x9) := t719
                  rcases t719 with ⟨q722, mx723, h724, rl725, hf726, hb727, kp728, mt729⟩ | ⟨q722, h724⟩
                  · skip
                    have ps730 := kp728.1
                    have fz731 := RelM.rg rl725
                    have r732 : 0 ≤ ((V720 0 8)).toInt ∧ ((V720 0 8)).toInt ≤ 70000 := hMV720 0 8
                    refine lv_istore_n (lv' := [(2, .int z716), (0, .ref (ad 0)), (1, .int p0)]) hx hb dX12_member_120 rfl hl (by decide) rfl (fun ls hl => ?_)
                    refine lv_aload_n hx hb dX12_member_121 rfl (lv_at hl 1 rfl) ?_
                    refine va_get (D := D) (ci := 12) (v := .int (V720 0 8)) (C := RX12) (T := TX12) (N := 100) hx hb hg inX12 hown hK hP 0 rfl rfl 8 (by decide) (hg _ w1714) (fun _ h9 => h9) rfl dX12_member_122 ?_
                    refine lv_if_ne (tgt := 157) hx hb dX12_member_125 (by decide) (fun c733 => ?_) (fun c733 => ?_)
                    · skip
                      have f734 : ((V720 0 8)).toInt ≠ 0 := b_neq rfl (by decide) c733
                      exfalso; omega
                    · skip
                      have f735 : ((V720 0 8)).toInt = 0 := b_eq rfl (by decide) c733
                      refine lv_aload_n hx hb dX12_member_128 rfl (lv_at hl 1 rfl) ?_
                      refine va_get (D := D) (ci := 12) (v := .ref (ad 34)) (C := RX12) (T := TX12) (N := 100) hx hb hg inX12 hown hK hP 0 rfl rfl 34 (by decide) (hg _ w1740) (fun _ h9 => h9) rfl dX12_member_129 ?_
                      refine lv_bipush (v := 20) hx hb dX12_member_132 (by decide) ?_
                      refine lv_iload_n hx hb dX12_member_134 rfl (lv_at hl 2 rfl) ?_
                      refine lv_imul hx hb dX12_member_135 ?_
                      refine lv_topi (fun z736 ez736 => ?_)
                      have hz736 : z736.toInt = 20 * p0.toInt := i_mul ez736 (by decide) rfl (by omega)
                      refine lv_iload_n hx hb dX12_member_136 rfl (lv_at hl 0 rfl) ?_
                      refine lv_iadd hx hb dX12_member_137 ?_
                      refine lv_topi (fun z737 ez737 => ?_)
                      have hz737 : z737.toInt = z736.toInt + z716.toInt := i_add ez737 rfl rfl (by omega)
                      refine va_iald (D := D) (i := z737) hx hb hK hP 27 26 rfl rfl (i_in (a := z737.toInt) rfl (by omega)) dX12_member_138 ?_
                      refine g_top (v := (V 34 (Int32.toNatClampNeg z737))) ((ajV720 34 (Int32.toNatClampNeg z737) rfl).trans ((ajV702 34 (Int32.toNatClampNeg z737) rfl).trans (ajV608 34 (Int32.toNatClampNeg z737) rfl))) ?_
                      have kc739 : Int32.toNatClampNeg z737 = 20 * gc + mx723.1 := by have h9 := i_clamp (x := z737) rfl (by omega); omega
                      have ma738 : (V 34 (Int32.toNatClampNeg z737)).toInt = (V 34 (20 * gc + mx723.1)).toInt := by rw [kc739]
                      have ow5 := ow.2.2.2.2.1 mx723.1 hb727
                      have oS : (nx gs 1).2.2.2 = gs.2.2.2 := congrArg (fun q9 => q9.2) ((keepS.tr (keepS.rf : keepS gs 0 gs) (keepS.n1 1))).2.2.2
                      have oL : (nx gs 1).2.1 3 = gs.2.1 3 := rfl
                      refine lv_if_lt (tgt := 157) hx hb dX12_member_139 (by decide) (fun c740 => ?_) (fun c740 => ?_)
                      · skip
                        have f741 : ((V 34 (Int32.toNatClampNeg z737))).toInt < 0 := b_lt rfl (by decide) c740
                        refine lv_aload_n hx hb dX12_member_157 rfl (lv_at hl 1 rfl) ?_
                        refine va_get (D := D) (ci := 12) (v := .int (V720 0 8)) (C := RX12) (T := TX12) (N := 100) hx hb hg inX12 hown hK hP 0 rfl rfl 8 (by decide) (hg _ w1714) (fun _ h9 => h9) rfl dX12_member_158 ?_
                        refine lv_if_ne (tgt := 179) hx hb dX12_member_161 (by decide) (fun c742 => ?_) (fun c742 => ?_)
                        · skip
                          have f743 : ((V720 0 8)).toInt ≠ 0 := b_neq rfl (by decide) c742
                          exfalso; omega
                        · skip
                          have f744 : ((V720 0 8)).toInt = 0 := b_eq rfl (by decide) c742
                          have nt9 : mx723.1 ∉ (nx gs 1).2.2.2 := by rw [oS]; exact fun q9 => absurd (ow5.mpr q9) (by omega)
                          have hr745 : ∀ k, Rc gT (Crun gs (Imember :: k)) (Crun (sT mx723.2 (mx723.1 :: (nx gs 1).2.2.2)) (Iexpr 0 :: Itake 59 :: Imember :: k)) := fun k => Rc.go1 (hr709 k) (mn_y (MTX.new mt729 h724 nt9))
                          have ps746 : (sT mx723.2 (mx723.1 :: (nx gs 1).2.2.2)).1 0 = mx723.2.1 0 := rfl
                          have rl747 : RelM V720 L721 bq gn gT (sT mx723.2 (mx723.1 :: (nx gs 1).2.2.2)) gl := RelM.tl rl725
                          refine lv_aload_n hx hb dX12_member_164 rfl (lv_at hl 1 rfl) ?_
                          refine va_get (D := D) (ci := 12) (v := .ref (ad 34)) (C := RX12) (T := TX12) (N := 100) hx hb hg inX12 hown hK hP 0 rfl rfl 34 (by decide) (hg _ w1740) (fun _ h9 => h9) rfl dX12_member_165 ?_
                          refine lv_bipush (v := 20) hx hb dX12_member_168 (by decide) ?_
                          refine lv_iload_n hx hb dX12_member_170 rfl (lv_at hl 2 rfl) ?_
                          refine lv_imul hx hb dX12_member_171 ?_
                          refine lv_topi (fun z748 ez748 => ?_)
                          have hz748 : z748.toInt = 20 * p0.toInt := i_mul ez748 (by decide) rfl (by omega)
                          refine lv_iload_n hx hb dX12_member_172 rfl (lv_at hl 0 rfl) ?_
                          refine lv_iadd hx hb dX12_member_173 ?_
                          refine lv_topi (fun z749 ez749 => ?_)
                          have hz749 : z749.toInt = z748.toInt + z716.toInt := i_add ez749 rfl rfl (by omega)
                          refine lv_aload_n hx hb dX12_member_174 rfl (lv_at hl 1 rfl) ?_
                          have pq750 : (V720 0 48).toInt = ((V 0 48)).toInt := congrArg Int32.toInt ((ajV720 0 48 rfl).trans ((ajV702 0 48 rfl).trans (ajV608 0 48 rfl)))
                          have pq751 : (V720 0 51).toInt = ((V 0 51)).toInt := congrArg Int32.toInt ((ajV720 0 51 rfl).trans ((ajV702 0 51 rfl).trans (ajV608 0 51 rfl)))
                          have pq752 : (V720 0 52).toInt = ((V 0 52)).toInt := congrArg Int32.toInt ((ajV720 0 52 rfl).trans ((ajV702 0 52 rfl).trans (ajV608 0 52 rfl)))
                          refine gA_int (gA_runV (As := []) (rest := [.int z749, .ref (ad 34)]) (ci := 12) (q0 := 0) hx hb hml hown hg hP hD hK hS hA hnw hgk (s_codeA l D ks H.size ad kk V720 L721 (bq) (gn) (gT) ((sT mx723.2 (mx723.1 :: (nx gs 1).2.2.2))) (gl) hMV720 rl747 (show (V720 0 48).toInt ≤ 2 * (V720 0 7).toInt from by omega) (EM.o2 (o := gc) (show (V720 27 gc).toInt = ((mx723.2.1 1 : Nat) : Int) from by rw [(by rw [(funext (fun q => ajV720 27 q rfl) : V720 27 = V702 27), (funext (fun q => ajV702 27 q rfl) : V702 27 = V608 27), (funext (fun q => ajV608 27 q rfl) : V608 27 = V 27)] : V720 27 = V 27)]; exact (by rw [((keepS.tr (keepS.tr (keepS.rf : keepS gs 0 gs) (keepS.n1 1)) kp728)).2.1 1 (by decide)]; exact ow.1)) (show mx723.2.1 4 = 0 from (by rw [((keepS.tr (keepS.tr (keepS.rf : keepS gs 0 gs) (keepS.n1 1)) kp728)).2.1 4 (by decide)]; exact ow.2.2.2.1)) (by omega) (by omega))) w2112 w2114 w105 w172 w2115 rfl rfl hdV_yX12_code ⟨Nat.le_of_ble_eq_true rfl, Nat.le_of_ble_eq_true rfl⟩ rfl hl.1 rfl (Nat.le_of_ble_eq_true rfl) dX12_member_175 ⟨Nat.le_of_ble_eq_true rfl, Nat.le_of_ble_eq_true rfl⟩) hP hD hK hS hA (fun z753 u754 H locs w755 hP hD hK hS => ?_)
                          obtain ⟨V761, L762⟩ := u754
                          obtain ⟨hMV761, ajV761, axL762, rgz753, t756, t757, t758, t759, t760⟩ := w755
                          have alL762 : agL [27, 28, 29, 30, 31, 32, 33, 34, 35, 36, 37, 38, 45, 46, 47] L L762 := agL.tr alL721 axL762 (by decide)
                          have hP : va_P D vwCl (mw ad kk ks.1 V761 L762) H := hP
                          have hD : va_D A (mw ad kk ks.1 V761 L762) := hD
                          have hMV761 : rgd bM V761 := hMV761
                          have ajV761 : agr [(0, 7), (0, 8), (0, 48), (0, 50)] [35, 36, 37, 38, 45, 46, 47] V720 V761 := ajV761
                          have agV761 : agr [(0, 7), (0, 8), (0, 48), (0, 50)] [27, 28, 29, 30, 31, 32, 33, 34, 35, 36, 37, 38, 45, 46, 47] V V761 := agV720.tr ajV761 (by decide) (by decide)
                          have rgz753 : 0 ≤ z753.toInt ∧ z753.toInt ≤ 20000 := rgz753
                          have t756 : Imp ((V761 0 8).toInt = 0) ((V761 0 48).toInt - (V720 0 48).toInt ≤ 2 * ((V761 0 7).toInt - (V720 0 7).toInt) + 1) := t756
                          have t757 : (V761 0 48).toInt ≤ 8060 := t757
                          have t758 : (V720 0 48).toInt ≤ (V761 0 48).toInt := t758
                          have t759 : z753.toInt = (V720 0 49).toInt + (V720 0 48).toInt := t759
                          have t760 : RdM (gT) ((sT mx723.2 (mx723.1 :: (nx gs 1).2.2.2))) (fun k => Iexpr 0 :: k) (fun k => k) (V761 0 8).toInt (fun s9 => RelM V761 L762 (bq) (gn) (gT) s9 (gl) ∧ keepS ((sT mx723.2 (mx723.1 :: (nx gs 1).2.2.2))) 1 s9) := t760
                          have r763 : 0 ≤ ((V761 0 48)).toInt ∧ ((V761 0 48)).toInt ≤ 10000 := hMV761 0 48
                          have r764 : 0 ≤ ((V761 0 8)).toInt ∧ ((V761 0 8)).toInt ≤ 70000 := hMV761 0 8
                          have pq765 : (V720 0 49).toInt = ((V 0 49)).toInt := congrArg Int32.toInt ((ajV720 0 49 rfl).trans ((ajV702 0 49 rfl).trans (ajV608 0 49 rfl)))
                          have r766 : 0 ≤ ((V 0 49)).toInt ∧ ((V 0 49)).toInt ≤ 10000 := hMV 0 49
                          rcases t760 with ⟨q767, sx768, h769, rl770, kp771⟩ | ⟨q767, h769⟩
                          · skip
                            have hr772 : ∀ k, Rc gT (Crun gs (Imember :: k)) (Crun sx768 (Itake 59 :: Imember :: k)) := fun k => (hr745 k).tr (h769 (Itake 59 :: Imember :: k))
                            have fz773 := RelM.rg rl770
                            have ps774 := (kp771).1
                            refine va_iast (D := D) (i := z749) (x := z753) hx hb hK hP hD hS 27 26 rfl rfl (i_in (a := z749.toInt) rfl (by first | omega | ((try (have i_t756 := Imp.go t756 (by omega))); omega))) dX12_member_178 (fun H locs hP hD hS => ?_)
                            obtain ⟨V775, hV775⟩ : ∃ z, z = up2 V761 34 (Int32.toNatClampNeg z749) z753 := ⟨_, rfl⟩
                            have hP : va_P D vwCl (mw ad kk ks.1 V775 L762) H := by rw [hV775]; exact hP
                            have hD : va_D A (mw ad kk ks.1 V775 L762) := by rw [hV775]; exact hD
                            have hMV775 : rgd bM V775 := hMV761.put hV775 (i_full _)
                            have agV775 : agr [(0, 7), (0, 8), (0, 48), (0, 50)] [27, 28, 29, 30, 31, 32, 33, 34, 35, 36, 37, 38, 45, 46, 47] V V775 := agV761.up hV775 rfl
                            refine lv_goto (tgt := 187) hx hb dX12_member_179 (by decide) ?_
                            refine lv_aload_n hx hb dX12_member_187 rfl (lv_at hl 1 rfl) ?_
                            refine lv_bipush (v := 59) hx hb dX12_member_188 (by decide) ?_
                            have rl776 : RelM V775 L762 bq gn gT sx768 gl := RelM.ag rl770 (show agr [] [34] V761 V775 from (agr.up agr.rf hV775 rfl)) (by decide) (show agL [] L762 L762 from agL.rf) (by decide)
                            have r777 : Int32.toInt 59 = 59 := by decide
                            refine gA_void (gA_runV (As := [.int 59]) (rest := []) (ci := 12) (q0 := 0) hx hb hml hown hg hP hD hK hS hA hnw hgk (s_takeSignA l D ks H.size ad kk V775 L762 59 (bq) (gn) (gT) (sx768) (gl) hMV775 rl776 (sg_yes (j := 59) (by decide) (by decide) (by decide))) w2075 w2077 w96 w172 w2078 rfl rfl hdV_yX12_takeSign ⟨Nat.le_of_ble_eq_true rfl, Nat.le_of_ble_eq_true rfl⟩ rfl hl.1 rfl (Nat.le_of_ble_eq_true rfl) dX12_member_190 ⟨Nat.le_of_ble_eq_true rfl, Nat.le_of_ble_eq_true rfl⟩) hP hD hK hS hA (fun u779 H locs w780 hP hD hK hS => ?_)
                            obtain ⟨V782, L783⟩ := u779
                            obtain ⟨hMV782, ajV782, axL783, t781⟩ := w780
                            have axL783 : L762 = L783 := Eq.symm axL783
                            subst axL783
                            have hP : va_P D vwCl (mw ad kk ks.1 V782 L762) H := hP
                            have hD : va_D A (mw ad kk ks.1 V782 L762) := hD
                            have hMV782 : rgd bM V782 := hMV782
                            have ajV782 : agr [(0, 7), (0, 8)] [] V775 V782 := ajV782
                            have agV782 : agr [(0, 7), (0, 8), (0, 48), (0, 50)] [27, 28, 29, 30, 31, 32, 33, 34, 35, 36, 37, 38, 45, 46, 47] V V782 := agV775.tr ajV782 (by decide) (by decide)
                            have t781 : ((V782 0 8).toInt = 0 ∧ (gT).1 ((sx768).1 0) = (Int32.toInt 59) ∧ RelM V782 L762 (bq) (gn) (gT) (nx (sx768) 1) (gl)) ∨ (1 ≤ (V782 0 8).toInt ∧ (gT).1 ((sx768).1 0) ≠ (Int32.toInt 59) ∧ (V782 0 8).toInt = 1 + 16 * (gT).2.2 ((sx768).1 0)) := t781
                            rcases t781 with ⟨q784, h785, rl786⟩ | ⟨q784, h785, rl786⟩
                            · skip
                              have kd787 : gT.1 (sx768.1 0) = 59 := h785.trans (by decide)
                              have hr788 : ∀ k, Rc gT (Crun gs (Imember :: k)) (Crun (nx sx768 1) (Imember :: k)) := fun k => Rc.go1 (hr772 k) (tk_y kd787)
                              have ps789 : (nx sx768 1).1 0 = sx768.1 0 + 1 := rfl
                              have fz790 := RelM.rg rl786
                              have r791 : 0 ≤ ((V782 0 8)).toInt ∧ ((V782 0 8)).toInt ≤ 70000 := hMV782 0 8
                              have pq792 : (V782 0 48).toInt = ((V761 0 48)).toInt := congrArg Int32.toInt ((ajV782 0 48 rfl).trans (up2_o hV775 (by decide)))
                              have ps793 : gs.1 0 + 1 ≤ (nx gs 1).1 0 := ((keepS.n1 1)).1
                              have ps794 : (nx gs 1).1 0 + 1 ≤ mx723.2.1 0 := (kp728).1
                              have ps795 : (sT mx723.2 (mx723.1 :: (nx gs 1).2.2.2)).1 0 = mx723.2.1 0 := rfl
                              have ps796 : (sT mx723.2 (mx723.1 :: (nx gs 1).2.2.2)).1 0 + 1 ≤ sx768.1 0 := (kp771).1
                              have ps797 : sx768.1 0 + 1 ≤ (nx sx768 1).1 0 := ((keepS.n1 1)).1
                              have k34 : (Int32.toNatClampNeg z749) = 20 * gc + mx723.1 := by have h9 := i_clamp (x := z749) rfl (by omega); omega
                              have cs798 : 0 ≤ (V782 34 (20 * gc + mx723.1)).toInt := by have h9 : V782 34 (Int32.toNatClampNeg z749) = z753 := ((ajV782 34 (Int32.toNatClampNeg z749) rfl).trans (up2_s hV775)); rw [k34] at h9; rw [h9]; omega
                              exact W.vret hx hb hr (fun t ht hW => ⟨⟨(V782, L762), rfl, ⟨hMV782, agV782, alL762, (Imp.mk (fun hp => have hp : (V782 0 8).toInt = 0 := hp; (show (V782 0 48).toInt ≤ 2 * (V782 0 7).toInt from by first | omega | ((try (have i_t756 := Imp.go t756 (by omega))); omega)))), (show (V782 0 48).toInt ≤ 8120 from by first | omega | ((try (have i_t756 := Imp.go t756 (by omega))); omega)), (Or.inl ⟨W0 rl786, (nx sx768 1), hr788, rl786, (by omega), (OWm.mt (m := 1) ow (keepS.le (keepS.tr (keepS.rf : keepS gs 0 gs) (keepS.n1 1)) (by decide)) (Nat.le_refl _) kp728 (MTX.le mt729).1 (MTX.le mt729).2 (keepS.le (keepS.tr (keepS.tr (keepS.rf : keepS (sT mx723.2 (mx723.1 :: (nx gs 1).2.2.2)) 0 (sT mx723.2 (mx723.1 :: (nx gs 1).2.2.2))) kp771) (keepS.n1 1)) (by decide)) (show (mx723.2.2.1 3).length ≤ ((nx sx768 1).2.1 3).length from by have h9 := Rc.ml (h769 []); exact h9) (show V782 27 gc = V 27 gc from ((ajV782 27 _ rfl).trans ((up2_o hV775 (by decide)).trans ((ajV761 27 _ rfl).trans ((ajV720 27 _ rfl).trans ((ajV702 27 _ rfl).trans ((ajV608 27 _ rfl).trans rfl))))))) (show V782 32 gc = V 32 gc from ((ajV782 32 _ rfl).trans ((up2_o hV775 (by decide)).trans ((ajV761 32 _ rfl).trans ((ajV720 32 _ rfl).trans ((ajV702 32 _ rfl).trans ((ajV608 32 _ rfl).trans rfl))))))) (show V782 33 gc = V 33 gc from ((ajV782 33 _ rfl).trans ((up2_o hV775 (by decide)).trans ((ajV761 33 _ rfl).trans ((ajV720 33 _ rfl).trans ((ajV702 33 _ rfl).trans ((ajV608 33 _ rfl).trans rfl))))))) cs798 (fun f hf hne => ((ajV782 34 _ rfl).trans ((up2_k hV775 (by omega)).trans ((ajV761 34 _ rfl).trans ((ajV720 34 _ rfl).trans ((ajV702 34 _ rfl).trans ((ajV608 34 _ rfl).trans rfl)))))))), ((((keepS.n1 1)).2.2.1 2 (by decide)).trans (((kp771).2.2.1 2 (by decide)).trans ((rfl : (sT mx723.2 (mx723.1 :: (nx gs 1).2.2.2)).2.1 2 = mx723.2.2.1 2).trans (((kp728).2.2.1 2 (by decide)).trans ((((keepS.n1 1)).2.2.1 2 (by decide)).trans (rfl : gs.2.1 2 = gs.2.1 2)))))), ((congrArg (fun q9 => q9.1) ((keepS.n1 1)).2.2.2).trans ((congrArg (fun q9 => q9.1) (kp771).2.2.2).trans ((rfl : (sT mx723.2 (mx723.1 :: (nx gs 1).2.2.2)).2.2.1 = mx723.2.2.2.1).trans ((congrArg (fun q9 => q9.1) (kp728).2.2.2).trans ((congrArg (fun q9 => q9.1) ((keepS.n1 1)).2.2.2).trans (rfl : gs.2.2.1 = gs.2.2.1))))))⟩)⟩, by rw [ht]; exact hP, va_K.moved hW.alike hK, hD⟩, hS.F ht⟩) hS.2.2 dX12_member_193
                            · skip
                              have kd799 : gT.1 (sx768.1 0) ≠ 59 := fun h9 => h785 (h9.trans (by decide))
                              have hb800 : ∀ k, Rc gT (Crun gs (Imember :: k)) (Cbad (V782 0 8).toInt) := fun k => Rc.go1 (hr772 k) ((tk_n kd799).trans (fl_eq rfl rl786))
                              have r801 : 0 ≤ ((V782 0 8)).toInt ∧ ((V782 0 8)).toInt ≤ 70000 := hMV782 0 8
                              have pq802 : (V782 0 48).toInt = ((V761 0 48)).toInt := congrArg Int32.toInt ((ajV782 0 48 rfl).trans (up2_o hV775 (by decide)))
                              exact W.vret hx hb hr (fun t ht hW => ⟨⟨(V782, L762), rfl, ⟨hMV782, agV782, alL762, (Imp.mk (fun hp => have hp : (V782 0 8).toInt = 0 := hp; (show (V782 0 48).toInt ≤ 2 * (V782 0 7).toInt from by first | omega | ((try (have i_t756 := Imp.go t756 (by omega))); omega)))), (show (V782 0 48).toInt ≤ 8120 from by first | omega | ((try (have i_t756 := Imp.go t756 (by omega))); omega)), (Or.inr ⟨(show 1 ≤ (V782 0 8).toInt from by omega), hb800⟩)⟩, by rw [ht]; exact hP, va_K.moved hW.alike hK, hD⟩, hS.F ht⟩) hS.2.2 dX12_member_193
                          · skip
                            have hb803 : ∀ k, Rc gT (Crun gs (Imember :: k)) (Cbad (V761 0 8).toInt) := fun k => (hr745 k).tr (h769 (Itake 59 :: Imember :: k))
                            refine va_iast (D := D) (i := z749) (x := z753) hx hb hK hP hD hS 27 26 rfl rfl (i_in (a := z749.toInt) rfl (by first | omega | ((try (have i_t756 := Imp.go t756 (by omega))); omega))) dX12_member_178 (fun H locs hP hD hS => ?_)
                            obtain ⟨V804, hV804⟩ : ∃ z, z = up2 V761 34 (Int32.toNatClampNeg z749) z753 := ⟨_, rfl⟩
                            have hP : va_P D vwCl (mw ad kk ks.1 V804 L762) H := by rw [hV804]; exact hP
                            have hD : va_D A (mw ad kk ks.1 V804 L762) := by rw [hV804]; exact hD
                            have hMV804 : rgd bM V804 := hMV761.put hV804 (i_full _)
                            have agV804 : agr [(0, 7), (0, 8), (0, 48), (0, 50)] [27, 28, 29, 30, 31, 32, 33, 34, 35, 36, 37, 38, 45, 46, 47] V V804 := agV761.up hV804 rfl
                            refine lv_goto (tgt := 187) hx hb dX12_member_179 (by decide) ?_
                            refine lv_aload_n hx hb dX12_member_187 rfl (lv_at hl 1 rfl) ?_
                            refine lv_bipush (v := 59) hx hb dX12_member_188 (by decide) ?_
                            have r805 : Int32.toInt 59 = 59 := by decide
                            have pq806 : (V804 0 8).toInt = ((V761 0 8)).toInt := congrArg Int32.toInt (up2_o hV804 (by decide))
                            refine gA_void (gA_runV (As := [.int 59]) (rest := []) (ci := 12) (q0 := 0) hx hb hml hown hg hP hD hK hS hA hnw hgk (s_takeSignB l D ks H.size ad kk V804 L762 59 hMV804 (show 1 ≤ (V804 0 8).toInt from by first | omega | ((try (have i_t756 := Imp.go t756 (by omega))); omega))) w2075 w2077 w96 w172 w2078 rfl rfl hdV_yX12_takeSign ⟨Nat.le_of_ble_eq_true rfl, Nat.le_of_ble_eq_true rfl⟩ rfl hl.1 rfl (Nat.le_of_ble_eq_true rfl) dX12_member_190 ⟨Nat.le_of_ble_eq_true rfl, Nat.le_of_ble_eq_true rfl⟩) hP hD hK hS hA (fun u808 H locs w809 hP hD hK hS => ?_)
                            obtain ⟨V811, L812⟩ := u808
                            obtain ⟨hMV811, ajV811, axL812, t810⟩ := w809
                            have axL812 : L762 = L812 := Eq.symm axL812
                            subst axL812
                            have hP : va_P D vwCl (mw ad kk ks.1 V811 L762) H := hP
                            have hD : va_D A (mw ad kk ks.1 V811 L762) := hD
                            have hMV811 : rgd bM V811 := hMV811
                            have ajV811 : agr [(0, 7), (0, 8)] [] V804 V811 := ajV811
                            have agV811 : agr [(0, 7), (0, 8), (0, 48), (0, 50)] [27, 28, 29, 30, 31, 32, 33, 34, 35, 36, 37, 38, 45, 46, 47] V V811 := agV804.tr ajV811 (by decide) (by decide)
                            have t810 : (V811 0 8).toInt = (V804 0 8).toInt := t810
                            have r813 : 0 ≤ ((V811 0 8)).toInt ∧ ((V811 0 8)).toInt ≤ 70000 := hMV811 0 8
                            have pq814 : (V811 0 48).toInt = ((V761 0 48)).toInt := congrArg Int32.toInt ((ajV811 0 48 rfl).trans (up2_o hV804 (by decide)))
                            exact W.vret hx hb hr (fun t ht hW => ⟨⟨(V811, L762), rfl, ⟨hMV811, agV811, alL762, (Imp.mk (fun hp => have hp : (V811 0 8).toInt = 0 := hp; (show (V811 0 48).toInt ≤ 2 * (V811 0 7).toInt from by first | omega | ((try (have i_t756 := Imp.go t756 (by omega))); omega)))), (show (V811 0 48).toInt ≤ 8120 from by first | omega | ((try (have i_t756 := Imp.go t756 (by omega))); omega)), (Or.inr ⟨(show 1 ≤ (V811 0 8).toInt from by omega), (fun k => by rw [show (V811 0 8).toInt = (V761 0 8).toInt from by omega]; exact hb803 k)⟩)⟩, by rw [ht]; exact hP, va_K.moved hW.alike hK, hD⟩, hS.F ht⟩) hS.2.2 dX12_member_193
                      · skip
                        have f815 : 0 ≤ ((V 34 (Int32.toNatClampNeg z737))).toInt := b_nlt rfl (by decide) c740
                        refine lv_aload_n hx hb dX12_member_142 rfl (lv_at hl 1 rfl) ?_
                        refine lv_dup hx hb dX12_member_143 rfl ?_
                        refine va_get (D := D) (ci := 12) (v := .int (V720 0 7)) (C := RX12) (T := TX12) (N := 100) hx hb hg inX12 hown hK hP 0 rfl rfl 7 (by decide) (hg _ w1713) (fun _ h9 => h9) rfl dX12_member_144 ?_
                        refine lv_iconst (v := 1) hx hb dX12_member_147 (by decide) ?_
                        refine lv_isub hx hb dX12_member_148 ?_
                        refine lv_topi (fun z816 ez816 => ?_)
                        have hz816 : z816.toInt = ((V720 0 7)).toInt - 1 := i_sub ez816 rfl (by decide) (by omega)
                        refine va_put (D := D) (ci := 12) (v := .int z816) (ty := tyX12 7) (C := RX12) (T := TX12) (N := 100) hx hb hg inX12 tyX12 tyX12_ok nmX12 hown hK hP hD hS 0 rfl rfl 7 (by decide) (hg _ w1713) (fun _ h9 => h9) rfl (tyX12_ok 7 (by decide)) rfl rfl (Nat.le_of_ble_eq_true rfl) dX12_member_149 (fun H locs hP hD hS => ?_)
                        obtain ⟨V817, hV817⟩ : ∃ z, z = up2 V720 0 7 z816 := ⟨_, rfl⟩
                        have hP : va_P D vwCl (mw ad kk ks.1 V817 L721) H := by rw [hV817]; exact hP
                        have hD : va_D A (mw ad kk ks.1 V817 L721) := by rw [hV817]; exact hD
                        have hMV817 : rgd bM V817 := hMV720.put hV817 (i_full _)
                        have agV817 : agr [(0, 7), (0, 8), (0, 48), (0, 50)] [27, 28, 29, 30, 31, 32, 33, 34, 35, 36, 37, 38, 45, 46, 47] V V817 := agV720.up hV817 rfl
                        have tx := MTX.told mt729 (by rw [oS]; exact ow5.mp (by omega)) (by rw [oS, oL]; exact ow.2.2.2.2.2)
                        have rl818 : RelM V817 L721 bq gn gT (nx gs 1) gl := RelM.v8 (by rw [← tx.2]; exact rl725) hV817 (by omega)
                        have fz819 := RelM.rg rl818
                        have pq820 : (V817 0 8).toInt = ((V720 0 8)).toInt := congrArg Int32.toInt (up2_k hV817 (by decide))
                        have pq821 : (V817 0 7).toInt = z816.toInt := congrArg Int32.toInt (up2_s hV817)
                        have mn3 : ∀ k, mst gT (Crun (nx gs 1) (ImethN :: k)) = fl gT (nx gs 1) 3 := fun k => mthN_3 (mth_k3 h724) tx.1 _
                        refine lv_aload_n hx hb dX12_member_152 rfl (lv_at hl 1 rfl) ?_
                        refine lv_iconst (v := 3) hx hb dX12_member_153 (by decide) ?_
                        have r822 : Int32.toInt 3 = 3 := by decide
                        refine gA_void (gA_runV (As := [.int 3]) (rest := []) (ci := 12) (q0 := 0) hx hb hml hown hg hP hD hK hS hA hnw hgk (s_wrongA l D ks H.size ad kk V817 L721 3 (bq) (gn) (gT) ((nx gs 1)) (gl) hMV817 (by decide) rl818) w2035 w2037 w86 w172 w2038 rfl rfl hdV_yX12_wrong ⟨Nat.le_of_ble_eq_true rfl, Nat.le_of_ble_eq_true rfl⟩ rfl hl.1 rfl (Nat.le_of_ble_eq_true rfl) dX12_member_154 ⟨Nat.le_of_ble_eq_true rfl, Nat.le_of_ble_eq_true rfl⟩) hP hD hK hS hA (fun u824 H locs w825 hP hD hK hS => ?_)
                        obtain ⟨V828, L829⟩ := u824
                        obtain ⟨hMV828, ajV828, axL829, t826, t827⟩ := w825
                        have axL829 : L721 = L829 := Eq.symm axL829
                        subst axL829
                        have hP : va_P D vwCl (mw ad kk ks.1 V828 L721) H := hP
                        have hD : va_D A (mw ad kk ks.1 V828 L721) := hD
                        have hMV828 : rgd bM V828 := hMV828
                        have ajV828 : agr [(0, 8)] [] V817 V828 := ajV828
                        have agV828 : agr [(0, 7), (0, 8), (0, 48), (0, 50)] [27, 28, 29, 30, 31, 32, 33, 34, 35, 36, 37, 38, 45, 46, 47] V V828 := agV817.tr ajV828 (by decide) (by decide)
                        have t826 : 1 ≤ (V828 0 8).toInt := t826
                        have t827 : (V828 0 8).toInt = (Int32.toInt 3) + 16 * (gT).2.2 (((nx gs 1)).1 0) := t827
                        have r830 : 0 ≤ ((V828 0 8)).toInt ∧ ((V828 0 8)).toInt ≤ 70000 := hMV828 0 8
                        have hb831 : ∀ k, Rc gT (Crun gs (Imember :: k)) (Cbad (V828 0 8).toInt) := fun k => Rc.go1 (hr709 k) ((mn3 _).trans (fl_eq rfl (show (V828 0 8).toInt = 3 + 16 * gT.2.2 ((nx gs 1).1 0) from by omega)))
                        refine lv_aload_n hx hb dX12_member_157 rfl (lv_at hl 1 rfl) ?_
                        refine va_get (D := D) (ci := 12) (v := .int (V828 0 8)) (C := RX12) (T := TX12) (N := 100) hx hb hg inX12 hown hK hP 0 rfl rfl 8 (by decide) (hg _ w1714) (fun _ h9 => h9) rfl dX12_member_158 ?_
                        refine lv_if_ne (tgt := 179) hx hb dX12_member_161 (by decide) (fun c832 => ?_) (fun c832 => ?_)
                        · skip
                          have f833 : ((V828 0 8)).toInt ≠ 0 := b_neq rfl (by decide) c832
                          refine lv_goto (tgt := 187) hx hb dX12_member_179 (by decide) ?_
                          refine lv_aload_n hx hb dX12_member_187 rfl (lv_at hl 1 rfl) ?_
                          refine lv_bipush (v := 59) hx hb dX12_member_188 (by decide) ?_
                          have r834 : Int32.toInt 59 = 59 := by decide
                          refine gA_void (gA_runV (As := [.int 59]) (rest := []) (ci := 12) (q0 := 0) hx hb hml hown hg hP hD hK hS hA hnw hgk (s_takeSignB l D ks H.size ad kk V828 L721 59 hMV828 (show 1 ≤ (V828 0 8).toInt from by omega)) w2075 w2077 w96 w172 w2078 rfl rfl hdV_yX12_takeSign ⟨Nat.le_of_ble_eq_true rfl, Nat.le_of_ble_eq_true rfl⟩ rfl hl.1 rfl (Nat.le_of_ble_eq_true rfl) dX12_member_190 ⟨Nat.le_of_ble_eq_true rfl, Nat.le_of_ble_eq_true rfl⟩) hP hD hK hS hA (fun u836 H locs w837 hP hD hK hS => ?_)
                          obtain ⟨V839, L840⟩ := u836
                          obtain ⟨hMV839, ajV839, axL840, t838⟩ := w837
                          have axL840 : L721 = L840 := Eq.symm axL840
                          subst axL840
                          have hP : va_P D vwCl (mw ad kk ks.1 V839 L721) H := hP
                          have hD : va_D A (mw ad kk ks.1 V839 L721) := hD
                          have hMV839 : rgd bM V839 := hMV839
                          have ajV839 : agr [(0, 7), (0, 8)] [] V828 V839 := ajV839
                          have agV839 : agr [(0, 7), (0, 8), (0, 48), (0, 50)] [27, 28, 29, 30, 31, 32, 33, 34, 35, 36, 37, 38, 45, 46, 47] V V839 := agV828.tr ajV839 (by decide) (by decide)
                          have t838 : (V839 0 8).toInt = (V828 0 8).toInt := t838
                          have r841 : 0 ≤ ((V839 0 8)).toInt ∧ ((V839 0 8)).toInt ≤ 70000 := hMV839 0 8
                          have pq842 : (V839 0 48).toInt = ((V 0 48)).toInt := congrArg Int32.toInt ((ajV839 0 48 rfl).trans ((ajV828 0 48 rfl).trans ((up2_k hV817 (by decide)).trans ((ajV720 0 48 rfl).trans ((ajV702 0 48 rfl).trans (ajV608 0 48 rfl))))))
                          exact W.vret hx hb hr (fun t ht hW => ⟨⟨(V839, L721), rfl, ⟨hMV839, agV839, alL721, (Imp.mk (fun hp => have hp : (V839 0 8).toInt = 0 := hp; (show (V839 0 48).toInt ≤ 2 * (V839 0 7).toInt from by omega))), (show (V839 0 48).toInt ≤ 8120 from by omega), (Or.inr ⟨(show 1 ≤ (V839 0 8).toInt from by omega), (fun k => by rw [show (V839 0 8).toInt = (V828 0 8).toInt from by omega]; exact hb831 k)⟩)⟩, by rw [ht]; exact hP, va_K.moved hW.alike hK, hD⟩, hS.F ht⟩) hS.2.2 dX12_member_193
                        · skip
                          have f843 : ((V828 0 8)).toInt = 0 := b_eq rfl (by decide) c832
                          exfalso; omega
                  · skip
                    have hb844 : ∀ k, Rc gT (Crun gs (Imember :: k)) (Cbad (V720 0 8).toInt) := fun k => Rc.go1 (hr709 k) (mn_b (Km_mthN h724))
                    have r845 : 0 ≤ ((V720 0 8)).toInt ∧ ((V720 0 8)).toInt ≤ 70000 := hMV720 0 8
                    refine lv_istore_n (lv' := [(2, .int z716), (0, .ref (ad 0)), (1, .int p0)]) hx hb dX12_member_120 rfl hl (by decide) rfl (fun ls hl => ?_)
                    refine lv_aload_n hx hb dX12_member_121 rfl (lv_at hl 1 rfl) ?_
                    refine va_get (D := D) (ci := 12) (v := .int (V720 0 8)) (C := RX12) (T := TX12) (N := 100) hx hb hg inX12 hown hK hP 0 rfl rfl 8 (by decide) (hg _ w1714) (fun _ h9 => h9) rfl dX12_member_122 ?_
                    refine lv_if_ne (tgt := 157) hx hb dX12_member_125 (by decide) (fun c846 => ?_) (fun c846 => ?_)
                    · skip
                      have f847 : ((V720 0 8)).toInt ≠ 0 := b_neq rfl (by decide) c846
                      refine lv_aload_n hx hb dX12_member_157 rfl (lv_at hl 1 rfl) ?_
                      refine va_get (D := D) (ci := 12) (v := .int (V720 0 8)) (C := RX12) (T := TX12) (N := 100) hx hb hg inX12 hown hK hP 0 rfl rfl 8 (by decide) (hg _ w1714) (fun _ h9 => h9) rfl dX12_member_158 ?_
                      refine lv_if_ne (tgt := 179) hx hb dX12_member_161 (by decide) (fun c848 => ?_) (fun c848 => ?_)
                      · skip
                        have f849 : ((V720 0 8)).toInt ≠ 0 := b_neq rfl (by decide) c848
                        refine lv_goto (tgt := 187) hx hb dX12_member_179 (by decide) ?_
                        refine lv_aload_n hx hb dX12_member_187 rfl (lv_at hl 1 rfl) ?_
                        refine lv_bipush (v := 59) hx hb dX12_member_188 (by decide) ?_
                        have r850 : Int32.toInt 59 = 59 := by decide
                        refine gA_void (gA_runV (As := [.int 59]) (rest := []) (ci := 12) (q0 := 0) hx hb hml hown hg hP hD hK hS hA hnw hgk (s_takeSignB l D ks H.size ad kk V720 L721 59 hMV720 (show 1 ≤ (V720 0 8).toInt from by omega)) w2075 w2077 w96 w172 w2078 rfl rfl hdV_yX12_takeSign ⟨Nat.le_of_ble_eq_true rfl, Nat.le_of_ble_eq_true rfl⟩ rfl hl.1 rfl (Nat.le_of_ble_eq_true rfl) dX12_member_190 ⟨Nat.le_of_ble_eq_true rfl, Nat.le_of_ble_eq_true rfl⟩) hP hD hK hS hA (fun u852 H locs w853 hP hD hK hS => ?_)
                        obtain ⟨V855, L856⟩ := u852
                        obtain ⟨hMV855, ajV855, axL856, t854⟩ := w853
                        have axL856 : L721 = L856 := Eq.symm axL856
                        subst axL856
                        have hP : va_P D vwCl (mw ad kk ks.1 V855 L721) H := hP
                        have hD : va_D A (mw ad kk ks.1 V855 L721) := hD
                        have hMV855 : rgd bM V855 := hMV855
                        have ajV855 : agr [(0, 7), (0, 8)] [] V720 V855 := ajV855
                        have agV855 : agr [(0, 7), (0, 8), (0, 48), (0, 50)] [27, 28, 29, 30, 31, 32, 33, 34, 35, 36, 37, 38, 45, 46, 47] V V855 := agV720.tr ajV855 (by decide) (by decide)
                        have t854 : (V855 0 8).toInt = (V720 0 8).toInt := t854
                        have r857 : 0 ≤ ((V855 0 8)).toInt ∧ ((V855 0 8)).toInt ≤ 70000 := hMV855 0 8
                        have pq858 : (V855 0 48).toInt = ((V 0 48)).toInt := congrArg Int32.toInt ((ajV855 0 48 rfl).trans ((ajV720 0 48 rfl).trans ((ajV702 0 48 rfl).trans (ajV608 0 48 rfl))))
                        exact W.vret hx hb hr (fun t ht hW => ⟨⟨(V855, L721), rfl, ⟨hMV855, agV855, alL721, (Imp.mk (fun hp => have hp : (V855 0 8).toInt = 0 := hp; (show (V855 0 48).toInt ≤ 2 * (V855 0 7).toInt from by omega))), (show (V855 0 48).toInt ≤ 8120 from by omega), (Or.inr ⟨(show 1 ≤ (V855 0 8).toInt from by omega), (fun k => by rw [show (V855 0 8).toInt = (V720 0 8).toInt from by omega]; exact hb844 k)⟩)⟩, by rw [ht]; exact hP, va_K.moved hW.alike hK, hD⟩, hS.F ht⟩) hS.2.2 dX12_member_193
                      · skip
                        have f859 : ((V720 0 8)).toInt = 0 := b_eq rfl (by decide) c848
                        exfalso; omega
                    · skip
                      have f860 : ((V720 0 8)).toInt = 0 := b_eq rfl (by decide) c846
                      exfalso; omega
              · skip
                have kd861 : gT.1 (gs.1 0) ≠ 142 := fun h9 => h705 (h9.trans (by decide))
                have fz862 := RelM.rg rl706
                have pq863 : (V702 0 8).toInt = ((V 0 8)).toInt := congrArg Int32.toInt ((ajV702 0 8 rfl).trans (ajV608 0 8 rfl))
                refine lv_if_eq (tgt := 182) hx hb dX12_member_105 (by decide) (fun c864 => ?_) (fun c864 => ?_)
                · skip
                  have f865 : z698.toInt = 0 := b_eq rfl (by decide) c864
                  refine lv_aload_n hx hb dX12_member_182 rfl (lv_at hl 0 rfl) ?_
                  refine lv_iconst (v := 1) hx hb dX12_member_183 (by decide) ?_
                  have r866 : Int32.toInt 1 = 1 := by decide
                  refine gA_void (gA_runV (As := [.int 1]) (rest := []) (ci := 12) (q0 := 0) hx hb hml hown hg hP hD hK hS hA hnw hgk (s_wrongA l D ks H.size ad kk V702 L 1 (bq) (gn) (gT) (gs) (gl) hMV702 (by decide) rl706) w2035 w2037 w86 w172 w2038 rfl rfl hdV_yX12_wrong ⟨Nat.le_of_ble_eq_true rfl, Nat.le_of_ble_eq_true rfl⟩ rfl hl.1 rfl (Nat.le_of_ble_eq_true rfl) dX12_member_184 ⟨Nat.le_of_ble_eq_true rfl, Nat.le_of_ble_eq_true rfl⟩) hP hD hK hS hA (fun u868 H locs w869 hP hD hK hS => ?_)
                  obtain ⟨V872, L873⟩ := u868
                  obtain ⟨hMV872, ajV872, axL873, t870, t871⟩ := w869
                  have axL873 : L = L873 := Eq.symm axL873
                  subst axL873
                  have hP : va_P D vwCl (mw ad kk ks.1 V872 L) H := hP
                  have hD : va_D A (mw ad kk ks.1 V872 L) := hD
                  have hMV872 : rgd bM V872 := hMV872
                  have ajV872 : agr [(0, 8)] [] V702 V872 := ajV872
                  have agV872 : agr [(0, 7), (0, 8), (0, 48), (0, 50)] [27, 28, 29, 30, 31, 32, 33, 34, 35, 36, 37, 38, 45, 46, 47] V V872 := agV702.tr ajV872 (by decide) (by decide)
                  have t870 : 1 ≤ (V872 0 8).toInt := t870
                  have t871 : (V872 0 8).toInt = (Int32.toInt 1) + 16 * (gT).2.2 ((gs).1 0) := t871
                  have r874 : 0 ≤ ((V872 0 8)).toInt ∧ ((V872 0 8)).toInt ≤ 70000 := hMV872 0 8
                  have hr875 : ∀ k, Rc gT (Crun gs (Imember :: k)) (Crun gs (Imember :: k)) := fun k => Rc.rf
                  have hb876 : ∀ k, Rc gT (Crun gs (Imember :: k)) (Cbad (V872 0 8).toInt) := fun k => Rc.go1 (hr875 k) ((mb_f kn125 kd119 (Or.inl kd689) (Or.inr (by by_cases q9 : gs.1 3 = 1; exact q9; exact absurd (ow.2.2.1.mpr q9) (by omega))) kd861).trans (fl_eq rfl (show (V872 0 8).toInt = 1 + 16 * gT.2.2 (gs.1 0) from by omega)))
                  refine lv_aload_n hx hb dX12_member_187 rfl (lv_at hl 0 rfl) ?_
                  refine lv_bipush (v := 59) hx hb dX12_member_188 (by decide) ?_
                  have r877 : Int32.toInt 59 = 59 := by decide
                  refine gA_void (gA_runV (As := [.int 59]) (rest := []) (ci := 12) (q0 := 0) hx hb hml hown hg hP hD hK hS hA hnw hgk (s_takeSignB l D ks H.size ad kk V872 L 59 hMV872 (show 1 ≤ (V872 0 8).toInt from by omega)) w2075 w2077 w96 w172 w2078 rfl rfl hdV_yX12_takeSign ⟨Nat.le_of_ble_eq_true rfl, Nat.le_of_ble_eq_true rfl⟩ rfl hl.1 rfl (Nat.le_of_ble_eq_true rfl) dX12_member_190 ⟨Nat.le_of_ble_eq_true rfl, Nat.le_of_ble_eq_true rfl⟩) hP hD hK hS hA (fun u879 H locs w880 hP hD hK hS => ?_)
                  obtain ⟨V882, L883⟩ := u879
                  obtain ⟨hMV882, ajV882, axL883, t881⟩ := w880
                  have axL883 : L = L883 := Eq.symm axL883
                  subst axL883
                  have hP : va_P D vwCl (mw ad kk ks.1 V882 L) H := hP
                  have hD : va_D A (mw ad kk ks.1 V882 L) := hD
                  have hMV882 : rgd bM V882 := hMV882
                  have ajV882 : agr [(0, 7), (0, 8)] [] V872 V882 := ajV882
                  have agV882 : agr [(0, 7), (0, 8), (0, 48), (0, 50)] [27, 28, 29, 30, 31, 32, 33, 34, 35, 36, 37, 38, 45, 46, 47] V V882 := agV872.tr ajV882 (by decide) (by decide)
                  have t881 : (V882 0 8).toInt = (V872 0 8).toInt := t881
                  have r884 : 0 ≤ ((V882 0 8)).toInt ∧ ((V882 0 8)).toInt ≤ 70000 := hMV882 0 8
                  have pq885 : (V882 0 48).toInt = ((V 0 48)).toInt := congrArg Int32.toInt ((ajV882 0 48 rfl).trans ((ajV872 0 48 rfl).trans ((ajV702 0 48 rfl).trans (ajV608 0 48 rfl))))
                  exact W.vret hx hb hr (fun t ht hW => ⟨⟨(V882, L), rfl, ⟨hMV882, agV882, alL, (Imp.mk (fun hp => have hp : (V882 0 8).toInt = 0 := hp; (show (V882 0 48).toInt ≤ 2 * (V882 0 7).toInt from by omega))), (show (V882 0 48).toInt ≤ 8120 from by omega), (Or.inr ⟨(show 1 ≤ (V882 0 8).toInt from by omega), (fun k => by rw [show (V882 0 8).toInt = (V872 0 8).toInt from by omega]; exact hb876 k)⟩)⟩, by rw [ht]; exact hP, va_K.moved hW.alike hK, hD⟩, hS.F ht⟩) hS.2.2 dX12_member_193
                · skip
                  have f886 : z698.toInt ≠ 0 := b_neq rfl (by decide) c864
                  exfalso; omega
            · skip
              have f887 : ((V 33 (Int32.toNatClampNeg p0))).toInt < 0 := b_nle (by decide) rfl c695
              refine lv_aload_n hx hb dX12_member_77 rfl (lv_at hl 0 rfl) ?_
              refine lv_bipush (v := 13) hx hb dX12_member_78 (by decide) ?_
              have r888 : Int32.toInt 13 = 13 := by decide
              refine gA_int (gA_runV (As := [.int 13]) (rest := []) (ci := 12) (q0 := 0) hx hb hml hown hg hP hD hK hS hA hnw hgk (s_hasWordA l D ks H.size ad kk V608 L 13 (bq) (gn) (gT) (gs) (gl) hMV608 (by decide) rl612) w2051 w2053 w90 w172 w2054 rfl rfl hdV_yX12_hasWord ⟨Nat.le_of_ble_eq_true rfl, Nat.le_of_ble_eq_true rfl⟩ rfl hl.1 rfl (Nat.le_of_ble_eq_true rfl) dX12_member_80 ⟨Nat.le_of_ble_eq_true rfl, Nat.le_of_ble_eq_true rfl⟩) hP hD hK hS hA (fun z889 u890 H locs w891 hP hD hK hS => ?_)
              obtain ⟨V893, L894⟩ := u890
              obtain ⟨hMV893, ajV893, axL894, rgz889, t892⟩ := w891
              have axL894 : L = L894 := Eq.symm axL894
              subst axL894
              have hP : va_P D vwCl (mw ad kk ks.1 V893 L) H := hP
              have hD : va_D A (mw ad kk ks.1 V893 L) := hD
              have hMV893 : rgd bM V893 := hMV893
              have ajV893 : agr [(0, 7)] [] V608 V893 := ajV893
              have agV893 : agr [(0, 7), (0, 8), (0, 48), (0, 50)] [27, 28, 29, 30, 31, 32, 33, 34, 35, 36, 37, 38, 45, 46, 47] V V893 := agV608.tr ajV893 (by decide) (by decide)
              have rgz889 : 0 ≤ z889.toInt ∧ z889.toInt ≤ 1 := rgz889
              have t892 : (z889.toInt = 1 ∧ (gT).1 ((gs).1 0) = 128 + (Int32.toInt 13) ∧ RelM V893 L (bq) (gn) (gT) (nx (gs) 1) (gl)) ∨ (z889.toInt = 0 ∧ (gT).1 ((gs).1 0) ≠ 128 + (Int32.toInt 13) ∧ RelM V893 L (bq) (gn) (gT) (gs) (gl)) := t892
              rcases t892 with ⟨q895, h896, rl897⟩ | ⟨q895, h896, rl897⟩
              · skip
                have kd898 : gT.1 (gs.1 0) = 141 := h896.trans (by decide)
                have hr899 : ∀ k, Rc gT (Crun gs (Imember :: k)) (Crun gs (Imember :: k)) := fun k => Rc.rf
                have hr900 : ∀ k, Rc gT (Crun gs (Imember :: k)) (Crun (nx (sN gs 3 1) 1) (Iexpr 0 :: Itake 59 :: Imember :: k)) := fun k => Rc.go1 (hr899 k) (mb_141 kd898 (ow.2.2.1.mp (by omega)))
                have ps901 : (sN gs 3 1).1 0 = gs.1 0 := rfl
                have ps902 : (nx gs 1).1 0 = gs.1 0 + 1 := rfl
                have fz903 := RelM.rg rl897
                have pq904 : (V893 0 8).toInt = ((V 0 8)).toInt := congrArg Int32.toInt ((ajV893 0 8 rfl).trans (ajV608 0 8 rfl))
                refine lv_if_eq (tgt := 99) hx hb dX12_member_83 (by decide) (fun c905 => ?_) (fun c905 => ?_)
                · skip
                  have f906 : z889.toInt = 0 := b_eq rfl (by decide) c905
                  exfalso; omega
                · skip
                  have f907 : z889.toInt ≠ 0 := b_neq rfl (by decide) c905
                  have rl908 : RelM V893 L bq gn gT (nx (sN gs 3 1) 1) gl := rl897
                  refine lv_aload_n hx hb dX12_member_86 rfl (lv_at hl 0 rfl) ?_
                  refine va_get (D := D) (ci := 12) (v := .ref (ad 33)) (C := RX12) (T := TX12) (N := 100) hx hb hg inX12 hown hK hP 0 rfl rfl 33 (by decide) (hg _ w1739) (fun _ h9 => h9) rfl dX12_member_87 ?_
                  refine lv_iload_n hx hb dX12_member_90 rfl (lv_at hl 1 rfl) ?_
                  refine lv_aload_n hx hb dX12_member_91 rfl (lv_at hl 0 rfl) ?_
                  have pq909 : (V893 0 48).toInt = ((V 0 48)).toInt := congrArg Int32.toInt ((ajV893 0 48 rfl).trans (ajV608 0 48 rfl))
                  have pq910 : (V893 0 51).toInt = ((V 0 51)).toInt := congrArg Int32.toInt ((ajV893 0 51 rfl).trans (ajV608 0 51 rfl))
                  have pq911 : (V893 0 52).toInt = ((V 0 52)).toInt := congrArg Int32.toInt ((ajV893 0 52 rfl).trans (ajV608 0 52 rfl))
                  refine gA_int (gA_runV (As := []) (rest := [.int p0, .ref (ad 33)]) (ci := 12) (q0 := 0) hx hb hml hown hg hP hD hK hS hA hnw hgk (s_codeA l D ks H.size ad kk V893 L (bq) (gn) (gT) ((nx (sN gs 3 1) 1)) (gl) hMV893 rl908 (show (V893 0 48).toInt ≤ 2 * (V893 0 7).toInt from by omega) (EM.o2 (o := gc) (show (V893 27 gc).toInt = (((nx (sN gs 3 1) 1).1 1 : Nat) : Int) from by rw [(by rw [(funext (fun q => ajV893 27 q rfl) : V893 27 = V608 27), (funext (fun q => ajV608 27 q rfl) : V608 27 = V 27)] : V893 27 = V 27)]; exact ow.1) (show (nx (sN gs 3 1) 1).1 4 = 0 from ow.2.2.2.1) (by omega) (by omega))) w2112 w2114 w105 w172 w2115 rfl rfl hdV_yX12_code ⟨Nat.le_of_ble_eq_true rfl, Nat.le_of_ble_eq_true rfl⟩ rfl hl.1 rfl (Nat.le_of_ble_eq_true rfl) dX12_member_92 ⟨Nat.le_of_ble_eq_true rfl, Nat.le_of_ble_eq_true rfl⟩) hP hD hK hS hA (fun z912 u913 H locs w914 hP hD hK hS => ?_)
                  obtain ⟨V920, L921⟩ := u913
                  obtain ⟨hMV920, ajV920, axL921, rgz912, t915, t916, t917, t918, t919⟩ := w914
                  have alL921 : agL [27, 28, 29, 30, 31, 32, 33, 34, 35, 36, 37, 38, 45, 46, 47] L L921 := agL.tr alL axL921 (by decide)
                  have hP : va_P D vwCl (mw ad kk ks.1 V920 L921) H := hP
                  have hD : va_D A (mw ad kk ks.1 V920 L921) := hD
                  have hMV920 : rgd bM V920 := hMV920
                  have ajV920 : agr [(0, 7), (0, 8), (0, 48), (0, 50)] [35, 36, 37, 38, 45, 46, 47] V893 V920 := ajV920
                  have agV920 : agr [(0, 7), (0, 8), (0, 48), (0, 50)] [27, 28, 29, 30, 31, 32, 33, 34, 35, 36, 37, 38, 45, 46, 47] V V920 := agV893.tr ajV920 (by decide) (by decide)
                  have rgz912 : 0 ≤ z912.toInt ∧ z912.toInt ≤ 20000 := rgz912
                  have t915 : Imp ((V920 0 8).toInt = 0) ((V920 0 48).toInt - (V893 0 48).toInt ≤ 2 * ((V920 0 7).toInt - (V893 0 7).toInt) + 1) := t915
                  have t916 : (V920 0 48).toInt ≤ 8060 := t916
                  have t917 : (V893 0 48).toInt ≤ (V920 0 48).toInt := t917
                  have t918 : z912.toInt = (V893 0 49).toInt + (V893 0 48).toInt := t918
                  have t919 : RdM (gT) ((nx (sN gs 3 1) 1)) (fun k => Iexpr 0 :: k) (fun k => k) (V920 0 8).toInt (fun s9 => RelM V920 L921 (bq) (gn) (gT) s9 (gl) ∧ keepS ((nx (sN gs 3 1) 1)) 1 s9) := t919
                  have r922 : 0 ≤ ((V920 0 48)).toInt ∧ ((V920 0 48)).toInt ≤ 10000 := hMV920 0 48
                  have r923 : 0 ≤ ((V920 0 8)).toInt ∧ ((V920 0 8)).toInt ≤ 70000 := hMV920 0 8
                  have pq924 : (V893 0 49).toInt = ((V 0 49)).toInt := congrArg Int32.toInt ((ajV893 0 49 rfl).trans (ajV608 0 49 rfl))
                  have r925 : 0 ≤ ((V 0 49)).toInt ∧ ((V 0 49)).toInt ≤ 10000 := hMV 0 49
                  rcases t919 with ⟨q926, sx927, h928, rl929, kp930⟩ | ⟨q926, h928⟩
                  · skip
                    have hr931 : ∀ k, Rc gT (Crun gs (Imember :: k)) (Crun sx927 (Itake 59 :: Imember :: k)) := fun k => (hr900 k).tr (h928 (Itake 59 :: Imember :: k))
                    have fz932 := RelM.rg rl929
                    have ps933 := (kp930).1
                    refine va_iast (D := D) (i := p0) (x := z912) hx hb hK hP hD hS 26 25 rfl rfl (i_in (a := p0.toInt) rfl (by first | omega | ((try (have i_t915 := Imp.go t915 (by omega))); omega))) dX12_member_95 (fun H locs hP hD hS => ?_)
                    obtain ⟨V934, hV934⟩ : ∃ z, z = up2 V920 33 (Int32.toNatClampNeg p0) z912 := ⟨_, rfl⟩
                    have hP : va_P D vwCl (mw ad kk ks.1 V934 L921) H := by rw [hV934]; exact hP
                    have hD : va_D A (mw ad kk ks.1 V934 L921) := by rw [hV934]; exact hD
                    have hMV934 : rgd bM V934 := hMV920.put hV934 (i_full _)
                    have agV934 : agr [(0, 7), (0, 8), (0, 48), (0, 50)] [27, 28, 29, 30, 31, 32, 33, 34, 35, 36, 37, 38, 45, 46, 47] V V934 := agV920.up hV934 rfl
                    refine lv_goto (tgt := 187) hx hb dX12_member_96 (by decide) ?_
                    refine lv_aload_n hx hb dX12_member_187 rfl (lv_at hl 0 rfl) ?_
                    refine lv_bipush (v := 59) hx hb dX12_member_188 (by decide) ?_
                    have rl935 : RelM V934 L921 bq gn gT sx927 gl := RelM.ag rl929 (show agr [] [33] V920 V934 from (agr.up agr.rf hV934 rfl)) (by decide) (show agL [] L921 L921 from agL.rf) (by decide)
                    have r936 : Int32.toInt 59 = 59 := by decide
                    refine gA_void (gA_runV (As := [.int 59]) (rest := []) (ci := 12) (q0 := 0) hx hb hml hown hg hP hD hK hS hA hnw hgk (s_takeSignA l D ks H.size ad kk V934 L921 59 (bq) (gn) (gT) (sx927) (gl) hMV934 rl935 (sg_yes (j := 59) (by decide) (by decide) (by decide))) w2075 w2077 w96 w172 w2078 rfl rfl hdV_yX12_takeSign ⟨Nat.le_of_ble_eq_true rfl, Nat.le_of_ble_eq_true rfl⟩ rfl hl.1 rfl (Nat.le_of_ble_eq_true rfl) dX12_member_190 ⟨Nat.le_of_ble_eq_true rfl, Nat.le_of_ble_eq_true rfl⟩) hP hD hK hS hA (fun u938 H locs w939 hP hD hK hS => ?_)
                    obtain ⟨V941, L942⟩ := u938
                    obtain ⟨hMV941, ajV941, axL942, t940⟩ := w939
                    have axL942 : L921 = L942 := Eq.symm axL942
                    subst axL942
                    have hP : va_P D vwCl (mw ad kk ks.1 V941 L921) H := hP
                    have hD : va_D A (mw ad kk ks.1 V941 L921) := hD
                    have hMV941 : rgd bM V941 := hMV941
                    have ajV941 : agr [(0, 7), (0, 8)] [] V934 V941 := ajV941
                    have agV941 : agr [(0, 7), (0, 8), (0, 48), (0, 50)] [27, 28, 29, 30, 31, 32, 33, 34, 35, 36, 37, 38, 45, 46, 47] V V941 := agV934.tr ajV941 (by decide) (by decide)
                    have t940 : ((V941 0 8).toInt = 0 ∧ (gT).1 ((sx927).1 0) = (Int32.toInt 59) ∧ RelM V941 L921 (bq) (gn) (gT) (nx (sx927) 1) (gl)) ∨ (1 ≤ (V941 0 8).toInt ∧ (gT).1 ((sx927).1 0) ≠ (Int32.toInt 59) ∧ (V941 0 8).toInt = 1 + 16 * (gT).2.2 ((sx927).1 0)) := t940
                    rcases t940 with ⟨q943, h944, rl945⟩ | ⟨q943, h944, rl945⟩
                    · skip
                      have kd946 : gT.1 (sx927.1 0) = 59 := h944.trans (by decide)
                      have hr947 : ∀ k, Rc gT (Crun gs (Imember :: k)) (Crun (nx sx927 1) (Imember :: k)) := fun k => Rc.go1 (hr931 k) (tk_y kd946)
                      have ps948 : (nx sx927 1).1 0 = sx927.1 0 + 1 := rfl
                      have fz949 := RelM.rg rl945
                      have r950 : 0 ≤ ((V941 0 8)).toInt ∧ ((V941 0 8)).toInt ≤ 70000 := hMV941 0 8
                      have pq951 : (V941 0 48).toInt = ((V920 0 48)).toInt := congrArg Int32.toInt ((ajV941 0 48 rfl).trans (up2_o hV934 (by decide)))
                      have ps952 : gs.1 0 + 1 ≤ (nx gs 1).1 0 := ((keepS.n1 1)).1
                      have ps953 : (nx (sN gs 3 1) 1).1 0 = (nx gs 1).1 0 := rfl
                      have ps954 : (nx (sN gs 3 1) 1).1 0 + 1 ≤ sx927.1 0 := (kp930).1
                      have ps955 : sx927.1 0 + 1 ≤ (nx sx927 1).1 0 := ((keepS.n1 1)).1
                      have cs956 : 0 ≤ (V941 33 gc).toInt := by have h9 : V941 33 (Int32.toNatClampNeg p0) = z912 := ((ajV941 33 (Int32.toNatClampNeg p0) rfl).trans (up2_s hV934)); rw [kgc] at h9; rw [h9]; omega
                      exact W.vret hx hb hr (fun t ht hW => ⟨⟨(V941, L921), rfl, ⟨hMV941, agV941, alL921, (Imp.mk (fun hp => have hp : (V941 0 8).toInt = 0 := hp; (show (V941 0 48).toInt ≤ 2 * (V941 0 7).toInt from by first | omega | ((try (have i_t915 := Imp.go t915 (by omega))); omega)))), (show (V941 0 48).toInt ≤ 8120 from by first | omega | ((try (have i_t915 := Imp.go t915 (by omega))); omega)), (Or.inl ⟨W0 rl945, (nx sx927 1), hr947, rl945, (by omega), (OWm.cl ow (keepS.tr (keepS.tr (keepS.rf : keepS (nx (sN gs 3 1) 1) 0 (nx (sN gs 3 1) 1)) kp930) (keepS.n1 1)) (Rc.ml (hr947 [])) (show V941 27 gc = V 27 gc from ((ajV941 27 _ rfl).trans ((up2_o hV934 (by decide)).trans ((ajV920 27 _ rfl).trans ((ajV893 27 _ rfl).trans ((ajV608 27 _ rfl).trans rfl)))))) (show V941 32 gc = V 32 gc from ((ajV941 32 _ rfl).trans ((up2_o hV934 (by decide)).trans ((ajV920 32 _ rfl).trans ((ajV893 32 _ rfl).trans ((ajV608 32 _ rfl).trans rfl)))))) cs956 (fun f hf => ((show agr [(0, 7), (0, 8), (0, 48), (0, 50)] [33, 35, 36, 37, 38, 45, 46, 47] V V941 from (agr.tr (agr.up (agr.tr (agr.tr (agr.tr agr.rf ajV608 (by decide) (by decide)) ajV893 (by decide) (by decide)) ajV920 (by decide) (by decide)) hV934 rfl) ajV941 (by decide) (by decide))) 34 _ rfl))), ((((keepS.n1 1)).2.2.1 2 (by decide)).trans (((kp930).2.2.1 2 (by decide)).trans ((rfl : (nx (sN gs 3 1) 1).2.1 2 = (nx gs 1).2.1 2).trans ((((keepS.n1 1)).2.2.1 2 (by decide)).trans (rfl : gs.2.1 2 = gs.2.1 2))))), ((congrArg (fun q9 => q9.1) ((keepS.n1 1)).2.2.2).trans ((congrArg (fun q9 => q9.1) (kp930).2.2.2).trans ((rfl : (nx (sN gs 3 1) 1).2.2.1 = (nx gs 1).2.2.1).trans ((congrArg (fun q9 => q9.1) ((keepS.n1 1)).2.2.2).trans (rfl : gs.2.2.1 = gs.2.2.1)))))⟩)⟩, by rw [ht]; exact hP, va_K.moved hW.alike hK, hD⟩, hS.F ht⟩) hS.2.2 dX12_member_193
                    · skip
                      have kd957 : gT.1 (sx927.1 0) ≠ 59 := fun h9 => h944 (h9.trans (by decide))
                      have hb958 : ∀ k, Rc gT (Crun gs (Imember :: k)) (Cbad (V941 0 8).toInt) := fun k => Rc.go1 (hr931 k) ((tk_n kd957).trans (fl_eq rfl rl945))
                      have r959 : 0 ≤ ((V941 0 8)).toInt ∧ ((V941 0 8)).toInt ≤ 70000 := hMV941 0 8
                      have pq960 : (V941 0 48).toInt = ((V920 0 48)).toInt := congrArg Int32.toInt ((ajV941 0 48 rfl).trans (up2_o hV934 (by decide)))
                      exact W.vret hx hb hr (fun t ht hW => ⟨⟨(V941, L921), rfl, ⟨hMV941, agV941, alL921, (Imp.mk (fun hp => have hp : (V941 0 8).toInt = 0 := hp; (show (V941 0 48).toInt ≤ 2 * (V941 0 7).toInt from by first | omega | ((try (have i_t915 := Imp.go t915 (by omega))); omega)))), (show (V941 0 48).toInt ≤ 8120 from by first | omega | ((try (have i_t915 := Imp.go t915 (by omega))); omega)), (Or.inr ⟨(show 1 ≤ (V941 0 8).toInt from by omega), hb958⟩)⟩, by rw [ht]; exact hP, va_K.moved hW.alike hK, hD⟩, hS.F ht⟩) hS.2.2 dX12_member_193
                  · skip
                    have hb961 : ∀ k, Rc gT (Crun gs (Imember :: k)) (Cbad (V920 0 8).toInt) := fun k => (hr900 k).tr (h928 (Itake 59 :: Imember :: k))
                    refine va_iast (D := D) (i := p0) (x := z912) hx hb hK hP hD hS 26 25 rfl rfl (i_in (a := p0.toInt) rfl (by first | omega | ((try (have i_t915 := Imp.go t915 (by omega))); omega))) dX12_member_95 (fun H locs hP hD hS => ?_)
                    obtain ⟨V962, hV962⟩ : ∃ z, z = up2 V920 33 (Int32.toNatClampNeg p0) z912 := ⟨_, rfl⟩
                    have hP : va_P D vwCl (mw ad kk ks.1 V962 L921) H := by rw [hV962]; exact hP
                    have hD : va_D A (mw ad kk ks.1 V962 L921) := by rw [hV962]; exact hD
                    have hMV962 : rgd bM V962 := hMV920.put hV962 (i_full _)
                    have agV962 : agr [(0, 7), (0, 8), (0, 48), (0, 50)] [27, 28, 29, 30, 31, 32, 33, 34, 35, 36, 37, 38, 45, 46, 47] V V962 := agV920.up hV962 rfl
                    refine lv_goto (tgt := 187) hx hb dX12_member_96 (by decide) ?_
                    refine lv_aload_n hx hb dX12_member_187 rfl (lv_at hl 0 rfl) ?_
                    refine lv_bipush (v := 59) hx hb dX12_member_188 (by decide) ?_
                    have r963 : Int32.toInt 59 = 59 := by decide
                    have pq964 : (V962 0 8).toInt = ((V920 0 8)).toInt := congrArg Int32.toInt (up2_o hV962 (by decide))
                    refine gA_void (gA_runV (As := [.int 59]) (rest := []) (ci := 12) (q0 := 0) hx hb hml hown hg hP hD hK hS hA hnw hgk (s_takeSignB l D ks H.size ad kk V962 L921 59 hMV962 (show 1 ≤ (V962 0 8).toInt from by first | omega | ((try (have i_t915 := Imp.go t915 (by omega))); omega))) w2075 w2077 w96 w172 w2078 rfl rfl hdV_yX12_takeSign ⟨Nat.le_of_ble_eq_true rfl, Nat.le_of_ble_eq_true rfl⟩ rfl hl.1 rfl (Nat.le_of_ble_eq_true rfl) dX12_member_190 ⟨Nat.le_of_ble_eq_true rfl, Nat.le_of_ble_eq_true rfl⟩) hP hD hK hS hA (fun u966 H locs w967 hP hD hK hS => ?_)
                    obtain ⟨V969, L970⟩ := u966
                    obtain ⟨hMV969, ajV969, axL970, t968⟩ := w967
                    have axL970 : L921 = L970 := Eq.symm axL970
                    subst axL970
                    have hP : va_P D vwCl (mw ad kk ks.1 V969 L921) H := hP
                    have hD : va_D A (mw ad kk ks.1 V969 L921) := hD
                    have hMV969 : rgd bM V969 := hMV969
                    have ajV969 : agr [(0, 7), (0, 8)] [] V962 V969 := ajV969
                    have agV969 : agr [(0, 7), (0, 8), (0, 48), (0, 50)] [27, 28, 29, 30, 31, 32, 33, 34, 35, 36, 37, 38, 45, 46, 47] V V969 := agV962.tr ajV969 (by decide) (by decide)
                    have t968 : (V969 0 8).toInt = (V962 0 8).toInt := t968
                    have r971 : 0 ≤ ((V969 0 8)).toInt ∧ ((V969 0 8)).toInt ≤ 70000 := hMV969 0 8
                    have pq972 : (V969 0 48).toInt = ((V920 0 48)).toInt := congrArg Int32.toInt ((ajV969 0 48 rfl).trans (up2_o hV962 (by decide)))
                    exact W.vret hx hb hr (fun t ht hW => ⟨⟨(V969, L921), rfl, ⟨hMV969, agV969, alL921, (Imp.mk (fun hp => have hp : (V969 0 8).toInt = 0 := hp; (show (V969 0 48).toInt ≤ 2 * (V969 0 7).toInt from by first | omega | ((try (have i_t915 := Imp.go t915 (by omega))); omega)))), (show (V969 0 48).toInt ≤ 8120 from by first | omega | ((try (have i_t915 := Imp.go t915 (by omega))); omega)), (Or.inr ⟨(show 1 ≤ (V969 0 8).toInt from by omega), (fun k => by rw [show (V969 0 8).toInt = (V920 0 8).toInt from by omega]; exact hb961 k)⟩)⟩, by rw [ht]; exact hP, va_K.moved hW.alike hK, hD⟩, hS.F ht⟩) hS.2.2 dX12_member_193
              · skip
                have kd973 : gT.1 (gs.1 0) ≠ 141 := fun h9 => h896 (h9.trans (by decide))
                have fz974 := RelM.rg rl897
                have pq975 : (V893 0 8).toInt = ((V 0 8)).toInt := congrArg Int32.toInt ((ajV893 0 8 rfl).trans (ajV608 0 8 rfl))
                refine lv_if_eq (tgt := 99) hx hb dX12_member_83 (by decide) (fun c976 => ?_) (fun c976 => ?_)
                · skip
                  have f977 : z889.toInt = 0 := b_eq rfl (by decide) c976
                  refine lv_aload_n hx hb dX12_member_99 rfl (lv_at hl 0 rfl) ?_
                  refine lv_bipush (v := 14) hx hb dX12_member_100 (by decide) ?_
                  have r978 : Int32.toInt 14 = 14 := by decide
                  refine gA_int (gA_runV (As := [.int 14]) (rest := []) (ci := 12) (q0 := 0) hx hb hml hown hg hP hD hK hS hA hnw hgk (s_hasWordA l D ks H.size ad kk V893 L 14 (bq) (gn) (gT) (gs) (gl) hMV893 (by decide) rl897) w2051 w2053 w90 w172 w2054 rfl rfl hdV_yX12_hasWord ⟨Nat.le_of_ble_eq_true rfl, Nat.le_of_ble_eq_true rfl⟩ rfl hl.1 rfl (Nat.le_of_ble_eq_true rfl) dX12_member_102 ⟨Nat.le_of_ble_eq_true rfl, Nat.le_of_ble_eq_true rfl⟩) hP hD hK hS hA (fun z979 u980 H locs w981 hP hD hK hS => ?_)
                  obtain ⟨V983, L984⟩ := u980
                  obtain ⟨hMV983, ajV983, axL984, rgz979, t982⟩ := w981
                  have axL984 : L = L984 := Eq.symm axL984
                  subst axL984
                  have hP : va_P D vwCl (mw ad kk ks.1 V983 L) H := hP
                  have hD : va_D A (mw ad kk ks.1 V983 L) := hD
                  have hMV983 : rgd bM V983 := hMV983
                  have ajV983 : agr [(0, 7)] [] V893 V983 := ajV983
                  have agV983 : agr [(0, 7), (0, 8), (0, 48), (0, 50)] [27, 28, 29, 30, 31, 32, 33, 34, 35, 36, 37, 38, 45, 46, 47] V V983 := agV893.tr ajV983 (by decide) (by decide)
                  have rgz979 : 0 ≤ z979.toInt ∧ z979.toInt ≤ 1 := rgz979
                  have t982 : (z979.toInt = 1 ∧ (gT).1 ((gs).1 0) = 128 + (Int32.toInt 14) ∧ RelM V983 L (bq) (gn) (gT) (nx (gs) 1) (gl)) ∨ (z979.toInt = 0 ∧ (gT).1 ((gs).1 0) ≠ 128 + (Int32.toInt 14) ∧ RelM V983 L (bq) (gn) (gT) (gs) (gl)) := t982
                  rcases t982 with ⟨q985, h986, rl987⟩ | ⟨q985, h986, rl987⟩
                  · skip
                    have kd988 : gT.1 (gs.1 0) = 142 := h986.trans (by decide)
                    have hr989 : ∀ k, Rc gT (Crun gs (Imember :: k)) (Crun gs (Imember :: k)) := fun k => Rc.rf
                    have hr990 : ∀ k, Rc gT (Crun gs (Imember :: k)) (Crun (nx gs 1) (ImethN :: Iexpr 0 :: Itake 59 :: Imember :: k)) := fun k => Rc.go1 (hr989 k) (mb_142 kd988)
                    have ps991 : (nx gs 1).1 0 = gs.1 0 + 1 := rfl
                    have fz992 := RelM.rg rl987
                    have pq993 : (V983 0 8).toInt = ((V 0 8)).toInt := congrArg Int32.toInt ((ajV983 0 8 rfl).trans ((ajV893 0 8 rfl).trans (ajV608 0 8 rfl)))
                    refine lv_if_eq (tgt := 182) hx hb dX12_member_105 (by decide) (fun c994 => ?_) (fun c994 => ?_)
                    · skip
                      have f995 : z979.toInt = 0 := b_eq rfl (by decide) c994
                      exfalso; omega
                    · skip
                      have f996 : z979.toInt ≠ 0 := b_neq rfl (by decide) c994
                      refine lv_aload_n hx hb dX12_member_108 rfl (lv_at hl 0 rfl) ?_
                      refine lv_aload_n hx hb dX12_member_109 rfl (lv_at hl 0 rfl) ?_
                      refine va_get (D := D) (ci := 12) (v := .ref (ad 36)) (C := RX12) (T := TX12) (N := 100) hx hb hg inX12 hown hK hP 0 rfl rfl 36 (by decide) (hg _ w1742) (fun _ h9 => h9) rfl dX12_member_110 ?_
                      refine lv_aload_n hx hb dX12_member_113 rfl (lv_at hl 0 rfl) ?_
                      refine va_get (D := D) (ci := 12) (v := .ref (ad 35)) (C := RX12) (T := TX12) (N := 100) hx hb hg inX12 hown hK hP 0 rfl rfl 35 (by decide) (hg _ w1741) (fun _ h9 => h9) rfl dX12_member_114 ?_
                      refine gA_int (gA_runV (As := [.ref (ad 36), .ref (ad 35)]) (rest := []) (ci := 12) (q0 := 0) hx hb hml hown hg hP hD hK hS hA hnw hgk (s_takeWordOf3 l D ks H.size ad kk V983 L (bq) (gn) (gT) ((nx gs 1)) (gl) hMV983 rl987) w2100 w2102 w102 w172 w2103 rfl rfl hdV_yX12_takeWordOf ⟨Nat.le_of_ble_eq_true rfl, Nat.le_of_ble_eq_true rfl⟩ rfl hl.1 rfl (Nat.le_of_ble_eq_true rfl) dX12_member_117 ⟨Nat.le_of_ble_eq_true rfl, Nat.le_of_ble_eq_true rfl⟩) hP hD hK hS hA (fun z997 u998 H locs w999 hP hD hK hS => ?_)
                      obtain ⟨V1001, L1002⟩ := u998
                      obtain ⟨hMV1001, ajV1001, axL1002, rgz997, t1000⟩ := w999
                      have alL1002 : agL [27, 28, 29, 30, 31, 32, 33, 34, 35, 36, 37, 38, 45, 46, 47] L L1002 := agL.tr alL axL1002 (by decide)
                      have hP : va_P D vwCl (mw ad kk ks.1 V1001 L1002) H := hP
                      have hD : va_D A (mw ad kk ks.1 V1001 L1002) := hD
                      have hMV1001 : rgd bM V1001 := hMV1001
                      have ajV1001 : agr [(0, 7), (0, 8)] [35, 36, 37, 38] V983 V1001 := ajV1001
                      have agV1001 : agr [(0, 7), (0, 8), (0, 48), (0, 50)] [27, 28, 29, 30, 31, 32, 33, 34, 35, 36, 37, 38, 45, 46, 47] V V1001 := agV983.tr ajV1001 (by decide) (by decide)
                      have rgz997 : (-1) ≤ z997.toInt ∧ z997.toInt ≤ 19 := rgz997
                      have t1000 : KmS (mthW (gT) ((nx gs 1)) 3) (V1001 0 8).toInt (fun x9 => RelM V1001 L1002 (bq) (gn) (gT) x9.2 (gl) ∧ z997.toInt = ((x9.1 : Nat) : Int) ∧ x9.1 < 20 ∧ keepS ((nx gs 1)) 1 x9.2 ∧ MTX (gT) ((nx gs 1)) 3 x9) := t1000
                      rcases t1000 with ⟨q1003, mx1004, h1005, rl1006, hf1007, hb1008, kp1009, mt1010⟩ | ⟨q1003, h1005⟩
                      · skip
                        have ps1011 := kp1009.1
                        have fz1012 := RelM.rg rl1006
                        have r1013 : 0 ≤ ((V1001 0 8)).toInt ∧ ((V1001 0 8)).toInt ≤ 70000 := hMV1001 0 8
                        refine lv_istore_n (lv' := [(2, .int z997), (0, .ref (ad 0)), (1, .int p0)]) hx hb dX12_member_120 rfl hl (by decide) rfl (fun ls hl => ?_)
                        refine lv_aload_n hx hb dX12_member_121 rfl (lv_at hl 1 rfl) ?_
                        refine va_get (D := D) (ci := 12) (v := .int (V1001 0 8)) (C := RX12) (T := TX12) (N := 100) hx hb hg inX12 hown hK hP 0 rfl rfl 8 (by decide) (hg _ w1714) (fun _ h9 => h9) rfl dX12_member_122 ?_
                        refine lv_if_ne (tgt := 157) hx hb dX12_member_125 (by decide) (fun c1014 => ?_) (fun c1014 => ?_)
                        · skip
                          have f1015 : ((V1001 0 8)).toInt ≠ 0 := b_neq rfl (by decide) c1014
                          exfalso; omega
                        · skip
                          have f1016 : ((V1001 0 8)).toInt = 0 := b_eq rfl (by decide) c1014
                          refine lv_aload_n hx hb dX12_member_128 rfl (lv_at hl 1 rfl) ?_
                          refine va_get (D := D) (ci := 12) (v := .ref (ad 34)) (C := RX12) (T := TX12) (N := 100) hx hb hg inX12 hown hK hP 0 rfl rfl 34 (by decide) (hg _ w1740) (fun _ h9 => h9) rfl dX12_member_129 ?_
                          refine lv_bipush (v := 20) hx hb dX12_member_132 (by decide) ?_
                          refine lv_iload_n hx hb dX12_member_134 rfl (lv_at hl 2 rfl) ?_
                          refine lv_imul hx hb dX12_member_135 ?_
                          refine lv_topi (fun z1017 ez1017 => ?_)
                          have hz1017 : z1017.toInt = 20 * p0.toInt := i_mul ez1017 (by decide) rfl (by omega)
                          refine lv_iload_n hx hb dX12_member_136 rfl (lv_at hl 0 rfl) ?_
                          refine lv_iadd hx hb dX12_member_137 ?_
                          refine lv_topi (fun z1018 ez1018 => ?_)
                          have hz1018 : z1018.toInt = z1017.toInt + z997.toInt := i_add ez1018 rfl rfl (by omega)
                          refine va_iald (D := D) (i := z1018) hx hb hK hP 27 26 rfl rfl (i_in (a := z1018.toInt) rfl (by omega)) dX12_member_138 ?_
                          refine g_top (v := (V 34 (Int32.toNatClampNeg z1018))) ((ajV1001 34 (Int32.toNatClampNeg z1018) rfl).trans ((ajV983 34 (Int32.toNatClampNeg z1018) rfl).trans ((ajV893 34 (Int32.toNatClampNeg z1018) rfl).trans (ajV608 34 (Int32.toNatClampNeg z1018) rfl)))) ?_
                          have kc1020 : Int32.toNatClampNeg z1018 = 20 * gc + mx1004.1 := by have h9 := i_clamp (x := z1018) rfl (by omega); omega
                          have ma1019 : (V 34 (Int32.toNatClampNeg z1018)).toInt = (V 34 (20 * gc + mx1004.1)).toInt := by rw [kc1020]
                          have ow5 := ow.2.2.2.2.1 mx1004.1 hb1008
                          have oS : (nx gs 1).2.2.2 = gs.2.2.2 := congrArg (fun q9 => q9.2) ((keepS.tr (keepS.rf : keepS gs 0 gs) (keepS.n1 1))).2.2.2
                          have oL : (nx gs 1).2.1 3 = gs.2.1 3 := rfl
                          refine lv_if_lt (tgt := 157) hx hb dX12_member_139 (by decide) (fun c1021 => ?_) (fun c1021 => ?_)
                          · skip
                            have f1022 : ((V 34 (Int32.toNatClampNeg z1018))).toInt < 0 := b_lt rfl (by decide) c1021
                            refine lv_aload_n hx hb dX12_member_157 rfl (lv_at hl 1 rfl) ?_
                            refine va_get (D := D) (ci := 12) (v := .int (V1001 0 8)) (C := RX12) (T := TX12) (N := 100) hx hb hg inX12 hown hK hP 0 rfl rfl 8 (by decide) (hg _ w1714) (fun _ h9 => h9) rfl dX12_member_158 ?_
                            refine lv_if_ne (tgt := 179) hx hb dX12_member_161 (by decide) (fun c1023 => ?_) (fun c1023 => ?_)
                            · skip
                              have f1024 : ((V1001 0 8)).toInt ≠ 0 := b_neq rfl (by decide) c1023
                              exfalso; omega
                            · skip
                              have f1025 : ((V1001 0 8)).toInt = 0 := b_eq rfl (by decide) c1023
                              have nt9 : mx1004.1 ∉ (nx gs 1).2.2.2 := by rw [oS]; exact fun q9 => absurd (ow5.mpr q9) (by omega)
                              have hr1026 : ∀ k, Rc gT (Crun gs (Imember :: k)) (Crun (sT mx1004.2 (mx1004.1 :: (nx gs 1).2.2.2)) (Iexpr 0 :: Itake 59 :: Imember :: k)) := fun k => Rc.go1 (hr990 k) (mn_y (MTX.new mt1010 h1005 nt9))
                              have ps1027 : (sT mx1004.2 (mx1004.1 :: (nx gs 1).2.2.2)).1 0 = mx1004.2.1 0 := rfl
                              have rl1028 : RelM V1001 L1002 bq gn gT (sT mx1004.2 (mx1004.1 :: (nx gs 1).2.2.2)) gl := RelM.tl rl1006
                              refine lv_aload_n hx hb dX12_member_164 rfl (lv_at hl 1 rfl) ?_
                              refine va_get (D := D) (ci := 12) (v := .ref (ad 34)) (C := RX12) (T := TX12) (N := 100) hx hb hg inX12 hown hK hP 0 rfl rfl 34 (by decide) (hg _ w1740) (fun _ h9 => h9) rfl dX12_member_165 ?_
                              refine lv_bipush (v := 20) hx hb dX12_member_168 (by decide) ?_
                              refine lv_iload_n hx hb dX12_member_170 rfl (lv_at hl 2 rfl) ?_
                              refine lv_imul hx hb dX12_member_171 ?_
                              refine lv_topi (fun z1029 ez1029 => ?_)
                              have hz1029 : z1029.toInt = 20 * p0.toInt := i_mul ez1029 (by decide) rfl (by omega)
                              refine lv_iload_n hx hb dX12_member_172 rfl (lv_at hl 0 rfl) ?_
                              refine lv_iadd hx hb dX12_member_173 ?_
                              refine lv_topi (fun z1030 ez1030 => ?_)
                              have hz1030 : z1030.toInt = z1029.toInt + z997.toInt := i_add ez1030 rfl rfl (by omega)
                              refine lv_aload_n hx hb dX12_member_174 rfl (lv_at hl 1 rfl) ?_
                              have pq1031 : (V1001 0 48).toInt = ((V 0 48)).toInt := congrArg Int32.toInt ((ajV1001 0 48 rfl).trans ((ajV983 0 48 rfl).trans ((ajV893 0 48 rfl).trans (ajV608 0 48 rfl))))
                              have pq1032 : (V1001 0 51).toInt = ((V 0 51)).toInt := congrArg Int32.toInt ((ajV1001 0 51 rfl).trans ((ajV983 0 51 rfl).trans ((ajV893 0 51 rfl).trans (ajV608 0 51 rfl))))
                              have pq1033 : (V1001 0 52).toInt = ((V 0 52)).toInt := congrArg Int32.toInt ((ajV1001 0 52 rfl).trans ((ajV983 0 52 rfl).trans ((ajV893 0 52 rfl).trans (ajV608 0 52 rfl))))
                              refine gA_int (gA_runV (As := []) (rest := [.int z1030, .ref (ad 34)]) (ci := 12) (q0 := 0) hx hb hml hown hg hP hD hK hS hA hnw hgk (s_codeA l D ks H.size ad kk V1001 L1002 (bq) (gn) (gT) ((sT mx1004.2 (mx1004.1 :: (nx gs 1).2.2.2))) (gl) hMV1001 rl1028 (show (V1001 0 48).toInt ≤ 2 * (V1001 0 7).toInt from by omega) (EM.o2 (o := gc) (show (V1001 27 gc).toInt = ((mx1004.2.1 1 : Nat) : Int) from by rw [(by rw [(funext (fun q => ajV1001 27 q rfl) : V1001 27 = V983 27), (funext (fun q => ajV983 27 q rfl) : V983 27 = V893 27), (funext (fun q => ajV893 27 q rfl) : V893 27 = V608 27), (funext (fun q => ajV608 27 q rfl) : V608 27 = V 27)] : V1001 27 = V 27)]; exact (by rw [((keepS.tr (keepS.tr (keepS.rf : keepS gs 0 gs) (keepS.n1 1)) kp1009)).2.1 1 (by decide)]; exact ow.1)) (show mx1004.2.1 4 = 0 from (by rw [((keepS.tr (keepS.tr (keepS.rf : keepS gs 0 gs) (keepS.n1 1)) kp1009)).2.1 4 (by decide)]; exact ow.2.2.2.1)) (by omega) (by omega))) w2112 w2114 w105 w172 w2115 rfl rfl hdV_yX12_code ⟨Nat.le_of_ble_eq_true rfl, Nat.le_of_ble_eq_true rfl⟩ rfl hl.1 rfl (Nat.le_of_ble_eq_true rfl) dX12_member_175 ⟨Nat.le_of_ble_eq_true rfl, Nat.le_of_ble_eq_true rfl⟩) hP hD hK hS hA (fun z1034 u1035 H locs w1036 hP hD hK hS => ?_)
                              obtain ⟨V1042, L1043⟩ := u1035
                              obtain ⟨hMV1042, ajV1042, axL1043, rgz1034, t1037, t1038, t1039, t1040, t1041⟩ := w1036
                              have alL1043 : agL [27, 28, 29, 30, 31, 32, 33, 34, 35, 36, 37, 38, 45, 46, 47] L L1043 := agL.tr alL1002 axL1043 (by decide)
                              have hP : va_P D vwCl (mw ad kk ks.1 V1042 L1043) H := hP
                              have hD : va_D A (mw ad kk ks.1 V1042 L1043) := hD
                              have hMV1042 : rgd bM V1042 := hMV1042
                              have ajV1042 : agr [(0, 7), (0, 8), (0, 48), (0, 50)] [35, 36, 37, 38, 45, 46, 47] V1001 V1042 := ajV1042
                              have agV1042 : agr [(0, 7), (0, 8), (0, 48), (0, 50)] [27, 28, 29, 30, 31, 32, 33, 34, 35, 36, 37, 38, 45, 46, 47] V V1042 := agV1001.tr ajV1042 (by decide) (by decide)
                              have rgz1034 : 0 ≤ z1034.toInt ∧ z1034.toInt ≤ 20000 := rgz1034
                              have t1037 : Imp ((V1042 0 8).toInt = 0) ((V1042 0 48).toInt - (V1001 0 48).toInt ≤ 2 * ((V1042 0 7).toInt - (V1001 0 7).toInt) + 1) := t1037
                              have t1038 : (V1042 0 48).toInt ≤ 8060 := t1038
                              have t1039 : (V1001 0 48).toInt ≤ (V1042 0 48).toInt := t1039
                              have t1040 : z1034.toInt = (V1001 0 49).toInt + (V1001 0 48).toInt := t1040
                              have t1041 : RdM (gT) ((sT mx1004.2 (mx1004.1 :: (nx gs 1).2.2.2))) (fun k => Iexpr 0 :: k) (fun k => k) (V1042 0 8).toInt (fun s9 => RelM V1042 L1043 (bq) (gn) (gT) s9 (gl) ∧ keepS ((sT mx1004.2 (mx1004.1 :: (nx gs 1).2.2.2))) 1 s9) := t1041
                              have r1044 : 0 ≤ ((V1042 0 48)).toInt ∧ ((V1042 0 48)).toInt ≤ 10000 := hMV1042 0 48
                              have r1045 : 0 ≤ ((V1042 0 8)).toInt ∧ ((V1042 0 8)).toInt ≤ 70000 := hMV1042 0 8
                              have pq1046 : (V1001 0 49).toInt = ((V 0 49)).toInt := congrArg Int32.toInt ((ajV1001 0 49 rfl).trans ((ajV983 0 49 rfl).trans ((ajV893 0 49 rfl).trans (ajV608 0 49 rfl))))
                              have r1047 : 0 ≤ ((V 0 49)).toInt ∧ ((V 0 49)).toInt ≤ 10000 := hMV 0 49
                              rcases t1041 with ⟨q1048, sx1049, h1050, rl1051, kp1052⟩ | ⟨q1048, h1050⟩
                              · skip
                                have hr1053 : ∀ k, Rc gT (Crun gs (Imember :: k)) (Crun sx1049 (Itake 59 :: Imember :: k)) := fun k => (hr1026 k).tr (h1050 (Itake 59 :: Imember :: k))
                                have fz1054 := RelM.rg rl1051
                                have ps1055 := (kp1052).1
                                refine va_iast (D := D) (i := z1030) (x := z1034) hx hb hK hP hD hS 27 26 rfl rfl (i_in (a := z1030.toInt) rfl (by first | omega | ((try (have i_t1037 := Imp.go t1037 (by omega))); omega))) dX12_member_178 (fun H locs hP hD hS => ?_)
                                obtain ⟨V1056, hV1056⟩ : ∃ z, z = up2 V1042 34 (Int32.toNatClampNeg z1030) z1034 := ⟨_, rfl⟩
                                have hP : va_P D vwCl (mw ad kk ks.1 V1056 L1043) H := by rw [hV1056]; exact hP
                                have hD : va_D A (mw ad kk ks.1 V1056 L1043) := by rw [hV1056]; exact hD
                                have hMV1056 : rgd bM V1056 := hMV1042.put hV1056 (i_full _)
                                have agV1056 : agr [(0, 7), (0, 8), (0, 48), (0, 50)] [27, 28, 29, 30, 31, 32, 33, 34, 35, 36, 37, 38, 45, 46, 47] V V1056 := agV1042.up hV1056 rfl
                                refine lv_goto (tgt := 187) hx hb dX12_member_179 (by decide) ?_
                                refine lv_aload_n hx hb dX12_member_187 rfl (lv_at hl 1 rfl) ?_
                                refine lv_bipush (v := 59) hx hb dX12_member_188 (by decide) ?_
                                have rl1057 : RelM V1056 L1043 bq gn gT sx1049 gl := RelM.ag rl1051 (show agr [] [34] V1042 V1056 from (agr.up agr.rf hV1056 rfl)) (by decide) (show agL [] L1043 L1043 from agL.rf) (by decide)
                                have r1058 : Int32.toInt 59 = 59 := by decide
                                refine gA_void (gA_runV (As := [.int 59]) (rest := []) (ci := 12) (q0 := 0) hx hb hml hown hg hP hD hK hS hA hnw hgk (s_takeSignA l D ks H.size ad kk V1056 L1043 59 (bq) (gn) (gT) (sx1049) (gl) hMV1056 rl1057 (sg_yes (j := 59) (by decide) (by decide) (by decide))) w2075 w2077 w96 w172 w2078 rfl rfl hdV_yX12_takeSign ⟨Nat.le_of_ble_eq_true rfl, Nat.le_of_ble_eq_true rfl⟩ rfl hl.1 rfl (Nat.le_of_ble_eq_true rfl) dX12_member_190 ⟨Nat.le_of_ble_eq_true rfl, Nat.le_of_ble_eq_true rfl⟩) hP hD hK hS hA (fun u1060 H locs w1061 hP hD hK hS => ?_)
                                obtain ⟨V1063, L1064⟩ := u1060
                                obtain ⟨hMV1063, ajV1063, axL1064, t1062⟩ := w1061
                                have axL1064 : L1043 = L1064 := Eq.symm axL1064
                                subst axL1064
                                have hP : va_P D vwCl (mw ad kk ks.1 V1063 L1043) H := hP
                                have hD : va_D A (mw ad kk ks.1 V1063 L1043) := hD
                                have hMV1063 : rgd bM V1063 := hMV1063
                                have ajV1063 : agr [(0, 7), (0, 8)] [] V1056 V1063 := ajV1063
                                have agV1063 : agr [(0, 7), (0, 8), (0, 48), (0, 50)] [27, 28, 29, 30, 31, 32, 33, 34, 35, 36, 37, 38, 45, 46, 47] V V1063 := agV1056.tr ajV1063 (by decide) (by decide)
                                have t1062 : ((V1063 0 8).toInt = 0 ∧ (gT).1 ((sx1049).1 0) = (Int32.toInt 59) ∧ RelM V1063 L1043 (bq) (gn) (gT) (nx (sx1049) 1) (gl)) ∨ (1 ≤ (V1063 0 8).toInt ∧ (gT).1 ((sx1049).1 0) ≠ (Int32.toInt 59) ∧ (V1063 0 8).toInt = 1 + 16 * (gT).2.2 ((sx1049).1 0)) := t1062
                                rcases t1062 with ⟨q1065, h1066, rl1067⟩ | ⟨q1065, h1066, rl1067⟩
                                · skip
                                  have kd1068 : gT.1 (sx1049.1 0) = 59 := h1066.trans (by decide)
                                  have hr1069 : ∀ k, Rc gT (Crun gs (Imember :: k)) (Crun (nx sx1049 1) (Imember :: k)) := fun k => Rc.go1 (hr1053 k) (tk_y kd1068)
                                  have ps1070 : (nx sx1049 1).1 0 = sx1049.1 0 + 1 := rfl
                                  have fz1071 := RelM.rg rl1067
                                  have r1072 : 0 ≤ ((V1063 0 8)).toInt ∧ ((V1063 0 8)).toInt ≤ 70000 := hMV1063 0 8
                                  have pq1073 : (V1063 0 48).toInt = ((V1042 0 48)).toInt := congrArg Int32.toInt ((ajV1063 0 48 rfl).trans (up2_o hV1056 (by decide)))
                                  have ps1074 : gs.1 0 + 1 ≤ (nx gs 1).1 0 := ((keepS.n1 1)).1
                                  have ps1075 : (nx gs 1).1 0 + 1 ≤ mx1004.2.1 0 := (kp1009).1
                                  have ps1076 : (sT mx1004.2 (mx1004.1 :: (nx gs 1).2.2.2)).1 0 = mx1004.2.1 0 := rfl
                                  have ps1077 : (sT mx1004.2 (mx1004.1 :: (nx gs 1).2.2.2)).1 0 + 1 ≤ sx1049.1 0 := (kp1052).1
                                  have ps1078 : sx1049.1 0 + 1 ≤ (nx sx1049 1).1 0 := ((keepS.n1 1)).1
                                  have k34 : (Int32.toNatClampNeg z1030) = 20 * gc + mx1004.1 := by have h9 := i_clamp (x := z1030) rfl (by omega); omega
                                  have cs1079 : 0 ≤ (V1063 34 (20 * gc + mx1004.1)).toInt := by have h9 : V1063 34 (Int32.toNatClampNeg z1030) = z1034 := ((ajV1063 34 (Int32.toNatClampNeg z1030) rfl).trans (up2_s hV1056)); rw [k34] at h9; rw [h9]; omega
                                  exact W.vret hx hb hr (fun t ht hW => ⟨⟨(V1063, L1043), rfl, ⟨hMV1063, agV1063, alL1043, (Imp.mk (fun hp => have hp : (V1063 0 8).toInt = 0 := hp; (show (V1063 0 48).toInt ≤ 2 * (V1063 0 7).toInt from by first | omega | ((try (have i_t1037 := Imp.go t1037 (by omega))); omega)))), (show (V1063 0 48).toInt ≤ 8120 from by first | omega | ((try (have i_t1037 := Imp.go t1037 (by omega))); omega)), (Or.inl ⟨W0 rl1067, (nx sx1049 1), hr1069, rl1067, (by omega), (OWm.mt (m := 1) ow (keepS.le (keepS.tr (keepS.rf : keepS gs 0 gs) (keepS.n1 1)) (by decide)) (Nat.le_refl _) kp1009 (MTX.le mt1010).1 (MTX.le mt1010).2 (keepS.le (keepS.tr (keepS.tr (keepS.rf : keepS (sT mx1004.2 (mx1004.1 :: (nx gs 1).2.2.2)) 0 (sT mx1004.2 (mx1004.1 :: (nx gs 1).2.2.2))) kp1052) (keepS.n1 1)) (by decide)) (show (mx1004.2.2.1 3).length ≤ ((nx sx1049 1).2.1 3).length from by have h9 := Rc.ml (h1050 []); exact h9) (show V1063 27 gc = V 27 gc from ((ajV1063 27 _ rfl).trans ((up2_o hV1056 (by decide)).trans ((ajV1042 27 _ rfl).trans ((ajV1001 27 _ rfl).trans ((ajV983 27 _ rfl).trans ((ajV893 27 _ rfl).trans ((ajV608 27 _ rfl).trans rfl)))))))) (show V1063 32 gc = V 32 gc from ((ajV1063 32 _ rfl).trans ((up2_o hV1056 (by decide)).trans ((ajV1042 32 _ rfl).trans ((ajV1001 32 _ rfl).trans ((ajV983 32 _ rfl).trans ((ajV893 32 _ rfl).trans ((ajV608 32 _ rfl).trans rfl)))))))) (show V1063 33 gc = V 33 gc from ((ajV1063 33 _ rfl).trans ((up2_o hV1056 (by decide)).trans ((ajV1042 33 _ rfl).trans ((ajV1001 33 _ rfl).trans ((ajV983 33 _ rfl).trans ((ajV893 33 _ rfl).trans ((ajV608 33 _ rfl).trans rfl)))))))) cs1079 (fun f hf hne => ((ajV1063 34 _ rfl).trans ((up2_k hV1056 (by omega)).trans ((ajV1042 34 _ rfl).trans ((ajV1001 34 _ rfl).trans ((ajV983 34 _ rfl).trans ((ajV893 34 _ rfl).trans ((ajV608 34 _ rfl).trans rfl))))))))), ((((keepS.n1 1)).2.2.1 2 (by decide)).trans (((kp1052).2.2.1 2 (by decide)).trans ((rfl : (sT mx1004.2 (mx1004.1 :: (nx gs 1).2.2.2)).2.1 2 = mx1004.2.2.1 2).trans (((kp1009).2.2.1 2 (by decide)).trans ((((keepS.n1 1)).2.2.1 2 (by decide)).trans (rfl : gs.2.1 2 = gs.2.1 2)))))), ((congrArg (fun q9 => q9.1) ((keepS.n1 1)).2.2.2).trans ((congrArg (fun q9 => q9.1) (kp1052).2.2.2).trans ((rfl : (sT mx1004.2 (mx1004.1 :: (nx gs 1).2.2.2)).2.2.1 = mx1004.2.2.2.1).trans ((congrArg (fun q9 => q9.1) (kp1009).2.2.2).trans ((congrArg (fun q9 => q9.1) ((keepS.n1 1)).2.2.2).trans (rfl : gs.2.2.1 = gs.2.2.1))))))⟩)⟩, by rw [ht]; exact hP, va_K.moved hW.alike hK, hD⟩, hS.F ht⟩) hS.2.2 dX12_member_193
                                · skip
                                  have kd1080 : gT.1 (sx1049.1 0) ≠ 59 := fun h9 => h1066 (h9.trans (by decide))
                                  have hb1081 : ∀ k, Rc gT (Crun gs (Imember :: k)) (Cbad (V1063 0 8).toInt) := fun k => Rc.go1 (hr1053 k) ((tk_n kd1080).trans (fl_eq rfl rl1067))
                                  have r1082 : 0 ≤ ((V1063 0 8)).toInt ∧ ((V1063 0 8)).toInt ≤ 70000 := hMV1063 0 8
                                  have pq1083 : (V1063 0 48).toInt = ((V1042 0 48)).toInt := congrArg Int32.toInt ((ajV1063 0 48 rfl).trans (up2_o hV1056 (by decide)))
                                  exact W.vret hx hb hr (fun t ht hW => ⟨⟨(V1063, L1043), rfl, ⟨hMV1063, agV1063, alL1043, (Imp.mk (fun hp => have hp : (V1063 0 8).toInt = 0 := hp; (show (V1063 0 48).toInt ≤ 2 * (V1063 0 7).toInt from by first | omega | ((try (have i_t1037 := Imp.go t1037 (by omega))); omega)))), (show (V1063 0 48).toInt ≤ 8120 from by first | omega | ((try (have i_t1037 := Imp.go t1037 (by omega))); omega)), (Or.inr ⟨(show 1 ≤ (V1063 0 8).toInt from by omega), hb1081⟩)⟩, by rw [ht]; exact hP, va_K.moved hW.alike hK, hD⟩, hS.F ht⟩) hS.2.2 dX12_member_193
                              · skip
                                have hb1084 : ∀ k, Rc gT (Crun gs (Imember :: k)) (Cbad (V1042 0 8).toInt) := fun k => (hr1026 k).tr (h1050 (Itake 59 :: Imember :: k))
                                refine va_iast (D := D) (i := z1030) (x := z1034) hx hb hK hP hD hS 27 26 rfl rfl (i_in (a := z1030.toInt) rfl (by first | omega | ((try (have i_t1037 := Imp.go t1037 (by omega))); omega))) dX12_member_178 (fun H locs hP hD hS => ?_)
                                obtain ⟨V1085, hV1085⟩ : ∃ z, z = up2 V1042 34 (Int32.toNatClampNeg z1030) z1034 := ⟨_, rfl⟩
                                have hP : va_P D vwCl (mw ad kk ks.1 V1085 L1043) H := by rw [hV1085]; exact hP
                                have hD : va_D A (mw ad kk ks.1 V1085 L1043) := by rw [hV1085]; exact hD
                                have hMV1085 : rgd bM V1085 := hMV1042.put hV1085 (i_full _)
                                have agV1085 : agr [(0, 7), (0, 8), (0, 48), (0, 50)] [27, 28, 29, 30, 31, 32, 33, 34, 35, 36, 37, 38, 45, 46, 47] V V1085 := agV1042.up hV1085 rfl
                                refine lv_goto (tgt := 187) hx hb dX12_member_179 (by decide) ?_
                                refine lv_aload_n hx hb dX12_member_187 rfl (lv_at hl 1 rfl) ?_
                                refine lv_bipush (v := 59) hx hb dX12_member_188 (by decide) ?_
                                have r1086 : Int32.toInt 59 = 59 := by decide
                                have pq1087 : (V1085 0 8).toInt = ((V1042 0 8)).toInt := congrArg Int32.toInt (up2_o hV1085 (by decide))
                                refine gA_void (gA_runV (As := [.int 59]) (rest := []) (ci := 12) (q0 := 0) hx hb hml hown hg hP hD hK hS hA hnw hgk (s_takeSignB l D ks H.size ad kk V1085 L1043 59 hMV1085 (show 1 ≤ (V1085 0 8).toInt from by first | omega | ((try (have i_t1037 := Imp.go t1037 (by omega))); omega))) w2075 w2077 w96 w172 w2078 rfl rfl hdV_yX12_takeSign ⟨Nat.le_of_ble_eq_true rfl, Nat.le_of_ble_eq_true rfl⟩ rfl hl.1 rfl (Nat.le_of_ble_eq_true rfl) dX12_member_190 ⟨Nat.le_of_ble_eq_true rfl, Nat.le_of_ble_eq_true rfl⟩) hP hD hK hS hA (fun u1089 H locs w1090 hP hD hK hS => ?_)
                                obtain ⟨V1092, L1093⟩ := u1089
                                obtain ⟨hMV1092, ajV1092, axL1093, t1091⟩ := w1090
                                have axL1093 : L1043 = L1093 := Eq.symm axL1093
                                subst axL1093
                                have hP : va_P D vwCl (mw ad kk ks.1 V1092 L1043) H := hP
                                have hD : va_D A (mw ad kk ks.1 V1092 L1043) := hD
                                have hMV1092 : rgd bM V1092 := hMV1092
                                have ajV1092 : agr [(0, 7), (0, 8)] [] V1085 V1092 := ajV1092
                                have agV1092 : agr [(0, 7), (0, 8), (0, 48), (0, 50)] [27, 28, 29, 30, 31, 32, 33, 34, 35, 36, 37, 38, 45, 46, 47] V V1092 := agV1085.tr ajV1092 (by decide) (by decide)
                                have t1091 : (V1092 0 8).toInt = (V1085 0 8).toInt := t1091
                                have r1094 : 0 ≤ ((V1092 0 8)).toInt ∧ ((V1092 0 8)).toInt ≤ 70000 := hMV1092 0 8
                                have pq1095 : (V1092 0 48).toInt = ((V1042 0 48)).toInt := congrArg Int32.toInt ((ajV1092 0 48 rfl).trans (up2_o hV1085 (by decide)))
                                exact W.vret hx hb hr (fun t ht hW => ⟨⟨(V1092, L1043), rfl, ⟨hMV1092, agV1092, alL1043, (Imp.mk (fun hp => have hp : (V1092 0 8).toInt = 0 := hp; (show (V1092 0 48).toInt ≤ 2 * (V1092 0 7).toInt from by first | omega | ((try (have i_t1037 := Imp.go t1037 (by omega))); omega)))), (show (V1092 0 48).toInt ≤ 8120 from by first | omega | ((try (have i_t1037 := Imp.go t1037 (by omega))); omega)), (Or.inr ⟨(show 1 ≤ (V1092 0 8).toInt from by omega), (fun k => by rw [show (V1092 0 8).toInt = (V1042 0 8).toInt from by omega]; exact hb1084 k)⟩)⟩, by rw [ht]; exact hP, va_K.moved hW.alike hK, hD⟩, hS.F ht⟩) hS.2.2 dX12_member_193
                          · skip
                            have f1096 : 0 ≤ ((V 34 (Int32.toNatClampNeg z1018))).toInt := b_nlt rfl (by decide) c1021
                            refine lv_aload_n hx hb dX12_member_142 rfl (lv_at hl 1 rfl) ?_
                            refine lv_dup hx hb dX12_member_143 rfl ?_
                            refine va_get (D := D) (ci := 12) (v := .int (V1001 0 7)) (C := RX12) (T := TX12) (N := 100) hx hb hg inX12 hown hK hP 0 rfl rfl 7 (by decide) (hg _ w1713) (fun _ h9 => h9) rfl dX12_member_144 ?_
                            refine lv_iconst (v := 1) hx hb dX12_member_147 (by decide) ?_
                            refine lv_isub hx hb dX12_member_148 ?_
                            refine lv_topi (fun z1097 ez1097 => ?_)
                            have hz1097 : z1097.toInt = ((V1001 0 7)).toInt - 1 := i_sub ez1097 rfl (by decide) (by omega)
                            refine va_put (D := D) (ci := 12) (v := .int z1097) (ty := tyX12 7) (C := RX12) (T := TX12) (N := 100) hx hb hg inX12 tyX12 tyX12_ok nmX12 hown hK hP hD hS 0 rfl rfl 7 (by decide) (hg _ w1713) (fun _ h9 => h9) rfl (tyX12_ok 7 (by decide)) rfl rfl (Nat.le_of_ble_eq_true rfl) dX12_member_149 (fun H locs hP hD hS => ?_)
                            obtain ⟨V1098, hV1098⟩ : ∃ z, z = up2 V1001 0 7 z1097 := ⟨_, rfl⟩
                            have hP : va_P D vwCl (mw ad kk ks.1 V1098 L1002) H := by rw [hV1098]; exact hP
                            have hD : va_D A (mw ad kk ks.1 V1098 L1002) := by rw [hV1098]; exact hD
                            have hMV1098 : rgd bM V1098 := hMV1001.put hV1098 (i_full _)
                            have agV1098 : agr [(0, 7), (0, 8), (0, 48), (0, 50)] [27, 28, 29, 30, 31, 32, 33, 34, 35, 36, 37, 38, 45, 46, 47] V V1098 := agV1001.up hV1098 rfl
                            have tx := MTX.told mt1010 (by rw [oS]; exact ow5.mp (by omega)) (by rw [oS, oL]; exact ow.2.2.2.2.2)
                            have rl1099 : RelM V1098 L1002 bq gn gT (nx gs 1) gl := RelM.v8 (by rw [← tx.2]; exact rl1006) hV1098 (by omega)
                            have fz1100 := RelM.rg rl1099
                            have pq1101 : (V1098 0 8).toInt = ((V1001 0 8)).toInt := congrArg Int32.toInt (up2_k hV1098 (by decide))
                            have pq1102 : (V1098 0 7).toInt = z1097.toInt := congrArg Int32.toInt (up2_s hV1098)
                            have mn3 : ∀ k, mst gT (Crun (nx gs 1) (ImethN :: k)) = fl gT (nx gs 1) 3 := fun k => mthN_3 (mth_k3 h1005) tx.1 _
                            refine lv_aload_n hx hb dX12_member_152 rfl (lv_at hl 1 rfl) ?_
                            refine lv_iconst (v := 3) hx hb dX12_member_153 (by decide) ?_
                            have r1103 : Int32.toInt 3 = 3 := by decide
                            refine gA_void (gA_runV (As := [.int 3]) (rest := []) (ci := 12) (q0 := 0) hx hb hml hown hg hP hD hK hS hA hnw hgk (s_wrongA l D ks H.size ad kk V1098 L1002 3 (bq) (gn) (gT) ((nx gs 1)) (gl) hMV1098 (by decide) rl1099) w2035 w2037 w86 w172 w2038 rfl rfl hdV_yX12_wrong ⟨Nat.le_of_ble_eq_true rfl, Nat.le_of_ble_eq_true rfl⟩ rfl hl.1 rfl (Nat.le_of_ble_eq_true rfl) dX12_member_154 ⟨Nat.le_of_ble_eq_true rfl, Nat.le_of_ble_eq_true rfl⟩) hP hD hK hS hA (fun u1105 H locs w1106 hP hD hK hS => ?_)
                            obtain ⟨V1109, L1110⟩ := u1105
                            obtain ⟨hMV1109, ajV1109, axL1110, t1107, t1108⟩ := w1106
                            have axL1110 : L1002 = L1110 := Eq.symm axL1110
                            subst axL1110
                            have hP : va_P D vwCl (mw ad kk ks.1 V1109 L1002) H := hP
                            have hD : va_D A (mw ad kk ks.1 V1109 L1002) := hD
                            have hMV1109 : rgd bM V1109 := hMV1109
                            have ajV1109 : agr [(0, 8)] [] V1098 V1109 := ajV1109
                            have agV1109 : agr [(0, 7), (0, 8), (0, 48), (0, 50)] [27, 28, 29, 30, 31, 32, 33, 34, 35, 36, 37, 38, 45, 46, 47] V V1109 := agV1098.tr ajV1109 (by decide) (by decide)
                            have t1107 : 1 ≤ (V1109 0 8).toInt := t1107
                            have t1108 : (V1109 0 8).toInt = (Int32.toInt 3) + 16 * (gT).2.2 (((nx gs 1)).1 0) := t1108
                            have r1111 : 0 ≤ ((V1109 0 8)).toInt ∧ ((V1109 0 8)).toInt ≤ 70000 := hMV1109 0 8
                            have hb1112 : ∀ k, Rc gT (Crun gs (Imember :: k)) (Cbad (V1109 0 8).toInt) := fun k => Rc.go1 (hr990 k) ((mn3 _).trans (fl_eq rfl (show (V1109 0 8).toInt = 3 + 16 * gT.2.2 ((nx gs 1).1 0) from by omega)))
                            refine lv_aload_n hx hb dX12_member_157 rfl (lv_at hl 1 rfl) ?_
                            refine va_get (D := D) (ci := 12) (v := .int (V1109 0 8)) (C := RX12) (T := TX12) (N := 100) hx hb hg inX12 hown hK hP 0 rfl rfl 8 (by decide) (hg _ w1714) (fun _ h9 => h9) rfl dX12_member_158 ?_
                            refine lv_if_ne (tgt := 179) hx hb dX12_member_161 (by decide) (fun c1113 => ?_) (fun c1113 => ?_)
                            · skip
                              have f1114 : ((V1109 0 8)).toInt ≠ 0 := b_neq rfl (by decide) c1113
                              refine lv_goto (tgt := 187) hx hb dX12_member_179 (by decide) ?_
                              refine lv_aload_n hx hb dX12_member_187 rfl (lv_at hl 1 rfl) ?_
                              refine lv_bipush (v := 59) hx hb dX12_member_188 (by decide) ?_
                              have r1115 : Int32.toInt 59 = 59 := by decide
                              refine gA_void (gA_runV (As := [.int 59]) (rest := []) (ci := 12) (q0 := 0) hx hb hml hown hg hP hD hK hS hA hnw hgk (s_takeSignB l D ks H.size ad kk V1109 L1002 59 hMV1109 (show 1 ≤ (V1109 0 8).toInt from by omega)) w2075 w2077 w96 w172 w2078 rfl rfl hdV_yX12_takeSign ⟨Nat.le_of_ble_eq_true rfl, Nat.le_of_ble_eq_true rfl⟩ rfl hl.1 rfl (Nat.le_of_ble_eq_true rfl) dX12_member_190 ⟨Nat.le_of_ble_eq_true rfl, Nat.le_of_ble_eq_true rfl⟩) hP hD hK hS hA (fun u1117 H locs w1118 hP hD hK hS => ?_)
                              obtain ⟨V1120, L1121⟩ := u1117
                              obtain ⟨hMV1120, ajV1120, axL1121, t1119⟩ := w1118
                              have axL1121 : L1002 = L1121 := Eq.symm axL1121
                              subst axL1121
                              have hP : va_P D vwCl (mw ad kk ks.1 V1120 L1002) H := hP
                              have hD : va_D A (mw ad kk ks.1 V1120 L1002) := hD
                              have hMV1120 : rgd bM V1120 := hMV1120
                              have ajV1120 : agr [(0, 7), (0, 8)] [] V1109 V1120 := ajV1120
                              have agV1120 : agr [(0, 7), (0, 8), (0, 48), (0, 50)] [27, 28, 29, 30, 31, 32, 33, 34, 35, 36, 37, 38, 45, 46, 47] V V1120 := agV1109.tr ajV1120 (by decide) (by decide)
                              have t1119 : (V1120 0 8).toInt = (V1109 0 8).toInt := t1119
                              have r1122 : 0 ≤ ((V1120 0 8)).toInt ∧ ((V1120 0 8)).toInt ≤ 70000 := hMV1120 0 8
                              have pq1123 : (V1120 0 48).toInt = ((V 0 48)).toInt := congrArg Int32.toInt ((ajV1120 0 48 rfl).trans ((ajV1109 0 48 rfl).trans ((up2_k hV1098 (by decide)).trans ((ajV1001 0 48 rfl).trans ((ajV983 0 48 rfl).trans ((ajV893 0 48 rfl).trans (ajV608 0 48 rfl)))))))
                              exact W.vret hx hb hr (fun t ht hW => ⟨⟨(V1120, L1002), rfl, ⟨hMV1120, agV1120, alL1002, (Imp.mk (fun hp => have hp : (V1120 0 8).toInt = 0 := hp; (show (V1120 0 48).toInt ≤ 2 * (V1120 0 7).toInt from by omega))), (show (V1120 0 48).toInt ≤ 8120 from by omega), (Or.inr ⟨(show 1 ≤ (V1120 0 8).toInt from by omega), (fun k => by rw [show (V1120 0 8).toInt = (V1109 0 8).toInt from by omega]; exact hb1112 k)⟩)⟩, by rw [ht]; exact hP, va_K.moved hW.alike hK, hD⟩, hS.F ht⟩) hS.2.2 dX12_member_193
                            · skip
                              have f1124 : ((V1109 0 8)).toInt = 0 := b_eq rfl (by decide) c1113
                              exfalso; omega
                      · skip
                        have hb1125 : ∀ k, Rc gT (Crun gs (Imember :: k)) (Cbad (V1001 0 8).toInt) := fun k => Rc.go1 (hr990 k) (mn_b (Km_mthN h1005))
                        have r1126 : 0 ≤ ((V1001 0 8)).toInt ∧ ((V1001 0 8)).toInt ≤ 70000 := hMV1001 0 8
                        refine lv_istore_n (lv' := [(2, .int z997), (0, .ref (ad 0)), (1, .int p0)]) hx hb dX12_member_120 rfl hl (by decide) rfl (fun ls hl => ?_)
                        refine lv_aload_n hx hb dX12_member_121 rfl (lv_at hl 1 rfl) ?_
                        refine va_get (D := D) (ci := 12) (v := .int (V1001 0 8)) (C := RX12) (T := TX12) (N := 100) hx hb hg inX12 hown hK hP 0 rfl rfl 8 (by decide) (hg _ w1714) (fun _ h9 => h9) rfl dX12_member_122 ?_
                        refine lv_if_ne (tgt := 157) hx hb dX12_member_125 (by decide) (fun c1127 => ?_) (fun c1127 => ?_)
                        · skip
                          have f1128 : ((V1001 0 8)).toInt ≠ 0 := b_neq rfl (by decide) c1127
                          refine lv_aload_n hx hb dX12_member_157 rfl (lv_at hl 1 rfl) ?_
                          refine va_get (D := D) (ci := 12) (v := .int (V1001 0 8)) (C := RX12) (T := TX12) (N := 100) hx hb hg inX12 hown hK hP 0 rfl rfl 8 (by decide) (hg _ w1714) (fun _ h9 => h9) rfl dX12_member_158 ?_
                          refine lv_if_ne (tgt := 179) hx hb dX12_member_161 (by decide) (fun c1129 => ?_) (fun c1129 => ?_)
                          · skip
                            have f1130 : ((V1001 0 8)).toInt ≠ 0 := b_neq rfl (by decide) c1129
                            refine lv_goto (tgt := 187) hx hb dX12_member_179 (by decide) ?_
                            refine lv_aload_n hx hb dX12_member_187 rfl (lv_at hl 1 rfl) ?_
                            refine lv_bipush (v := 59) hx hb dX12_member_188 (by decide) ?_
                            have r1131 : Int32.toInt 59 = 59 := by decide
                            refine gA_void (gA_runV (As := [.int 59]) (rest := []) (ci := 12) (q0 := 0) hx hb hml hown hg hP hD hK hS hA hnw hgk (s_takeSignB l D ks H.size ad kk V1001 L1002 59 hMV1001 (show 1 ≤ (V1001 0 8).toInt from by omega)) w2075 w2077 w96 w172 w2078 rfl rfl hdV_yX12_takeSign ⟨Nat.le_of_ble_eq_true rfl, Nat.le_of_ble_eq_true rfl⟩ rfl hl.1 rfl (Nat.le_of_ble_eq_true rfl) dX12_member_190 ⟨Nat.le_of_ble_eq_true rfl, Nat.le_of_ble_eq_true rfl⟩) hP hD hK hS hA (fun u1133 H locs w1134 hP hD hK hS => ?_)
                            obtain ⟨V1136, L1137⟩ := u1133
                            obtain ⟨hMV1136, ajV1136, axL1137, t1135⟩ := w1134
                            have axL1137 : L1002 = L1137 := Eq.symm axL1137
                            subst axL1137
                            have hP : va_P D vwCl (mw ad kk ks.1 V1136 L1002) H := hP
                            have hD : va_D A (mw ad kk ks.1 V1136 L1002) := hD
                            have hMV1136 : rgd bM V1136 := hMV1136
                            have ajV1136 : agr [(0, 7), (0, 8)] [] V1001 V1136 := ajV1136
                            have agV1136 : agr [(0, 7), (0, 8), (0, 48), (0, 50)] [27, 28, 29, 30, 31, 32, 33, 34, 35, 36, 37, 38, 45, 46, 47] V V1136 := agV1001.tr ajV1136 (by decide) (by decide)
                            have t1135 : (V1136 0 8).toInt = (V1001 0 8).toInt := t1135
                            have r1138 : 0 ≤ ((V1136 0 8)).toInt ∧ ((V1136 0 8)).toInt ≤ 70000 := hMV1136 0 8
                            have pq1139 : (V1136 0 48).toInt = ((V 0 48)).toInt := congrArg Int32.toInt ((ajV1136 0 48 rfl).trans ((ajV1001 0 48 rfl).trans ((ajV983 0 48 rfl).trans ((ajV893 0 48 rfl).trans (ajV608 0 48 rfl)))))
                            exact W.vret hx hb hr (fun t ht hW => ⟨⟨(V1136, L1002), rfl, ⟨hMV1136, agV1136, alL1002, (Imp.mk (fun hp => have hp : (V1136 0 8).toInt = 0 := hp; (show (V1136 0 48).toInt ≤ 2 * (V1136 0 7).toInt from by omega))), (show (V1136 0 48).toInt ≤ 8120 from by omega), (Or.inr ⟨(show 1 ≤ (V1136 0 8).toInt from by omega), (fun k => by rw [show (V1136 0 8).toInt = (V1001 0 8).toInt from by omega]; exact hb1125 k)⟩)⟩, by rw [ht]; exact hP, va_K.moved hW.alike hK, hD⟩, hS.F ht⟩) hS.2.2 dX12_member_193
                          · skip
                            have f1140 : ((V1001 0 8)).toInt = 0 := b_eq rfl (by decide) c1129
                            exfalso; omega
                        · skip
                          have f1141 : ((V1001 0 8)).toInt = 0 := b_eq rfl (by decide) c1127
                          exfalso; omega
                  · skip
                    have kd1142 : gT.1 (gs.1 0) ≠ 142 := fun h9 => h986 (h9.trans (by decide))
                    have fz1143 := RelM.rg rl987
                    have pq1144 : (V983 0 8).toInt = ((V 0 8)).toInt := congrArg Int32.toInt ((ajV983 0 8 rfl).trans ((ajV893 0 8 rfl).trans (ajV608 0 8 rfl)))
                    refine lv_if_eq (tgt := 182) hx hb dX12_member_105 (by decide) (fun c1145 => ?_) (fun c1145 => ?_)
                    · skip
                      have f1146 : z979.toInt = 0 := b_eq rfl (by decide) c1145
                      refine lv_aload_n hx hb dX12_member_182 rfl (lv_at hl 0 rfl) ?_
                      refine lv_iconst (v := 1) hx hb dX12_member_183 (by decide) ?_
                      have r1147 : Int32.toInt 1 = 1 := by decide
                      refine gA_void (gA_runV (As := [.int 1]) (rest := []) (ci := 12) (q0 := 0) hx hb hml hown hg hP hD hK hS hA hnw hgk (s_wrongA l D ks H.size ad kk V983 L 1 (bq) (gn) (gT) (gs) (gl) hMV983 (by decide) rl987) w2035 w2037 w86 w172 w2038 rfl rfl hdV_yX12_wrong ⟨Nat.le_of_ble_eq_true rfl, Nat.le_of_ble_eq_true rfl⟩ rfl hl.1 rfl (Nat.le_of_ble_eq_true rfl) dX12_member_184 ⟨Nat.le_of_ble_eq_true rfl, Nat.le_of_ble_eq_true rfl⟩) hP hD hK hS hA (fun u1149 H locs w1150 hP hD hK hS => ?_)
                      obtain ⟨V1153, L1154⟩ := u1149
                      obtain ⟨hMV1153, ajV1153, axL1154, t1151, t1152⟩ := w1150
                      have axL1154 : L = L1154 := Eq.symm axL1154
                      subst axL1154
                      have hP : va_P D vwCl (mw ad kk ks.1 V1153 L) H := hP
                      have hD : va_D A (mw ad kk ks.1 V1153 L) := hD
                      have hMV1153 : rgd bM V1153 := hMV1153
                      have ajV1153 : agr [(0, 8)] [] V983 V1153 := ajV1153
                      have agV1153 : agr [(0, 7), (0, 8), (0, 48), (0, 50)] [27, 28, 29, 30, 31, 32, 33, 34, 35, 36, 37, 38, 45, 46, 47] V V1153 := agV983.tr ajV1153 (by decide) (by decide)
                      have t1151 : 1 ≤ (V1153 0 8).toInt := t1151
                      have t1152 : (V1153 0 8).toInt = (Int32.toInt 1) + 16 * (gT).2.2 ((gs).1 0) := t1152
                      have r1155 : 0 ≤ ((V1153 0 8)).toInt ∧ ((V1153 0 8)).toInt ≤ 70000 := hMV1153 0 8
                      have hr1156 : ∀ k, Rc gT (Crun gs (Imember :: k)) (Crun gs (Imember :: k)) := fun k => Rc.rf
                      have hb1157 : ∀ k, Rc gT (Crun gs (Imember :: k)) (Cbad (V1153 0 8).toInt) := fun k => Rc.go1 (hr1156 k) ((mb_f kn125 kd119 (Or.inl kd689) (Or.inl kd973) kd1142).trans (fl_eq rfl (show (V1153 0 8).toInt = 1 + 16 * gT.2.2 (gs.1 0) from by omega)))
                      refine lv_aload_n hx hb dX12_member_187 rfl (lv_at hl 0 rfl) ?_
                      refine lv_bipush (v := 59) hx hb dX12_member_188 (by decide) ?_
                      have r1158 : Int32.toInt 59 = 59 := by decide
                      refine gA_void (gA_runV (As := [.int 59]) (rest := []) (ci := 12) (q0 := 0) hx hb hml hown hg hP hD hK hS hA hnw hgk (s_takeSignB l D ks H.size ad kk V1153 L 59 hMV1153 (show 1 ≤ (V1153 0 8).toInt from by omega)) w2075 w2077 w96 w172 w2078 rfl rfl hdV_yX12_takeSign ⟨Nat.le_of_ble_eq_true rfl, Nat.le_of_ble_eq_true rfl⟩ rfl hl.1 rfl (Nat.le_of_ble_eq_true rfl) dX12_member_190 ⟨Nat.le_of_ble_eq_true rfl, Nat.le_of_ble_eq_true rfl⟩) hP hD hK hS hA (fun u1160 H locs w1161 hP hD hK hS => ?_)
                      obtain ⟨V1163, L1164⟩ := u1160
                      obtain ⟨hMV1163, ajV1163, axL1164, t1162⟩ := w1161
                      have axL1164 : L = L1164 := Eq.symm axL1164
                      subst axL1164
                      have hP : va_P D vwCl (mw ad kk ks.1 V1163 L) H := hP
                      have hD : va_D A (mw ad kk ks.1 V1163 L) := hD
                      have hMV1163 : rgd bM V1163 := hMV1163
                      have ajV1163 : agr [(0, 7), (0, 8)] [] V1153 V1163 := ajV1163
                      have agV1163 : agr [(0, 7), (0, 8), (0, 48), (0, 50)] [27, 28, 29, 30, 31, 32, 33, 34, 35, 36, 37, 38, 45, 46, 47] V V1163 := agV1153.tr ajV1163 (by decide) (by decide)
                      have t1162 : (V1163 0 8).toInt = (V1153 0 8).toInt := t1162
                      have r1165 : 0 ≤ ((V1163 0 8)).toInt ∧ ((V1163 0 8)).toInt ≤ 70000 := hMV1163 0 8
                      have pq1166 : (V1163 0 48).toInt = ((V 0 48)).toInt := congrArg Int32.toInt ((ajV1163 0 48 rfl).trans ((ajV1153 0 48 rfl).trans ((ajV983 0 48 rfl).trans ((ajV893 0 48 rfl).trans (ajV608 0 48 rfl)))))
                      exact W.vret hx hb hr (fun t ht hW => ⟨⟨(V1163, L), rfl, ⟨hMV1163, agV1163, alL, (Imp.mk (fun hp => have hp : (V1163 0 8).toInt = 0 := hp; (show (V1163 0 48).toInt ≤ 2 * (V1163 0 7).toInt from by omega))), (show (V1163 0 48).toInt ≤ 8120 from by omega), (Or.inr ⟨(show 1 ≤ (V1163 0 8).toInt from by omega), (fun k => by rw [show (V1163 0 8).toInt = (V1153 0 8).toInt from by omega]; exact hb1157 k)⟩)⟩, by rw [ht]; exact hP, va_K.moved hW.alike hK, hD⟩, hS.F ht⟩) hS.2.2 dX12_member_193
                    · skip
                      have f1167 : z979.toInt ≠ 0 := b_neq rfl (by decide) c1145
                      exfalso; omega
                · skip
                  have f1168 : z889.toInt ≠ 0 := b_neq rfl (by decide) c976
                  exfalso; omega
          · skip
            have f1169 : z604.toInt ≠ 0 := b_neq rfl (by decide) c693
            exfalso; omega
    · skip
      have f1170 : z5.toInt ≠ 0 := b_neq rfl (by decide) c120
      exfalso; omega
