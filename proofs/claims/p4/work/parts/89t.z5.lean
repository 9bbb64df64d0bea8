/-! the methods' table never shrinks -/
def GL (N : Nat) : Cf → Prop
  | .inl c => N ≤ (c.1.2.1 3).length
  | .inr _ => True
section GLs
variable {N : Nat} {T : Tk} {s : St}
theorem GL.ub (f : Nat → List Int64) (t : Nat) (w : Int64) (h : N ≤ (f 3).length) : N ≤ (upB f t w 3).length := by
  unfold upB
  split
  · rw [List.length_append]; exact Nat.le_trans h (Nat.le_add_right _ _)
  · exact h
theorem GL.i2 {p : Prop} [Decidable p] {a b : Cf} (ha : GL N a) (hb : GL N b) : GL N (if p then a else b) := by
  split
  · exact ha
  · exact hb
theorem GL.lk {l : List Int64} {k : Nat → Cf} (h : ∀ f, GL N (k f)) : GL N (look T s l k) := by
  unfold look
  split
  · exact trivial
  · split
    · exact trivial
    · exact h _
theorem GL.nw {k : Int64 → Cf} (h : ∀ f, GL N (k f)) : GL N (newN T s k) := by
  unfold newN
  split
  · exact trivial
  · split
    · exact trivial
    · exact h _
theorem GL.nb {j : Nat} {k : Nat × St → Cf} (hs : N ≤ (s.2.1 3).length) (h : ∀ x : Nat × St, N ≤ (x.2.2.1 3).length → GL N (k x)) : GL N (nbrW T s j k) := by
  unfold nbrW
  split
  · exact h _ hs
  · split
    · exact trivial
    · exact h _ (GL.ub _ _ _ hs)
theorem GL.mw {j : Nat} {k : Nat × St → Cf} (hs : N ≤ (s.2.1 3).length) (h : ∀ x : Nat × St, N ≤ (x.2.2.1 3).length → GL N (k x)) : GL N (mthW T s j k) := by
  unfold mthW
  split
  · exact trivial
  · exact GL.nb hs h
theorem GL.mn {k : Nat × St → Cf} (hs : N ≤ (s.2.1 3).length) (h : ∀ x : Nat × St, N ≤ (x.2.2.1 3).length → GL N (k x)) : GL N (mthN T s k) := by
  unfold mthN
  split
  · exact trivial
  · exact GL.mw hs h
theorem GL.it {k : List It} (h : N ≤ (s.2.1 3).length) : (i : It) → GL N (itW T s k i)
  | (0, _, _, _, _, _) => GL.i2 h trivial
  | (1, _, _, _, _, _) => h
  | (2, _, _, _, _, _) => GL.i2 h h
  | (3, _, _, _, _, _) => h
  | (4, _, _, _, _, _) => GL.i2 h h
  | (5, _, _, _, _, _) => h
  | (6, _, _, _, _, _) => GL.i2 h h
  | (7, _, _, _, _, _) => GL.i2 trivial (GL.i2 trivial (by unfold partW; exact GL.i2 h (GL.i2 h (GL.i2 h (GL.i2 h (GL.i2 h (GL.i2 h (GL.i2 h h))))))))
  | (8, _, _, _, _, _) => GL.i2 trivial (GL.i2 trivial h)
  | (9, _, _, _, _, _) => GL.lk (fun _ => h)
  | (10, _, _, _, _, _) => GL.mw h (fun _ q => q)
  | (11, _, _, _, _, _) => GL.mw h (fun _ q => q)
  | (12, _, _, _, _, _) => by
    show GL N (stmtW T s k)
    unfold stmtW
    exact GL.i2 trivial (GL.i2 (GL.i2 trivial h) (GL.i2 (GL.i2 trivial h) (GL.i2 (GL.i2 trivial h) (GL.i2 (GL.i2 trivial h) trivial))))
  | (13, _, _, _, _, _) => GL.nw (k := fun w => Crun (nx s 1) (Ilike w :: k)) (fun _ => h)
  | (14, _, _, _, _, _) => GL.lk (fun _ => GL.i2 trivial (GL.i2 trivial h))
  | (15, _, _, _, w, _) => GL.ub s.2.1 0 w h
  | (16, _, _, _, _, _) => GL.nw (k := fun w => Crun (nx s 1) (Inum 0 999999999 :: Itake 59 :: IaddSe w :: Istmt :: k)) (fun _ => h)
  | (17, _, _, _, w, _) => GL.ub s.2.1 1 w h
  | (18, _, _, _, _, _) => GL.nw (k := fun w => Crun (nx s 1) (Itake 132 :: Itypes 0 [] :: Iscope w :: k)) (fun _ => h)
  | (19, _, _, _, _, _) => GL.i2 trivial h
  | (20, _, _, _, _, _) => GL.i2 h h
  | (21, _, _, _, _, _) => GL.i2 h h
  | (22, _, _, _, _, _) => GL.i2 h h
  | (23, _, _, _, w, _) => GL.ub s.2.1 2 w h
  | (24, _, _, _, _, _) => by
    show GL N (memberW T s k)
    unfold memberW
    exact GL.i2 h (GL.i2 (GL.i2 trivial h) (GL.i2 (GL.i2 trivial h) (GL.i2 (GL.i2 trivial h) (GL.i2 h trivial))))
  | (25, _, _, _, _, _) => GL.lk (fun _ => GL.i2 h h)
  | (26, _, _, _, _, _) => h
  | (27, _, _, _, _, _) => GL.mn h (fun _ q => q)
  | (28, _, _, _, _, _) => GL.lk (fun _ => h)
  | (29, _, _, _, _, _) => GL.mw h (fun _ q => q)
  | (30, _, _, _, _, _) => GL.i2 trivial (GL.i2 trivial h)
  | (31, _, _, _, _, _) => h
  | (32, _, _, _, _, _) => GL.i2 h h
  | (33, _, _, _, _, _) => GL.i2 h h
  | (34, _, _, _, _, _) => GL.i2 h (GL.i2 h h)
  | (_ + 35, _, _, _, _, _) => h
theorem GL.st {c : Cf} (h : GL N c) : GL N (mst T c) := by
  cases c with
  | inr c => exact trivial
  | inl c =>
    obtain ⟨s, k⟩ := c
    cases k with
    | nil => exact h
    | cons i k => exact GL.it (s := s) h i
theorem GL.run (n : Nat) : ∀ {c : Cf}, GL N c → GL N (mrun T n c) := by
  induction n with
  | zero => exact fun h => h
  | succ n ih => exact fun h => ih (GL.st h)
end GLs
theorem Rc.ml {T : Tk} {s s' : St} {k k' : List It} (h : Rc T (Crun s k) (Crun s' k')) : (s.2.1 3).length ≤ (s'.2.1 3).length := by
  obtain ⟨n, e⟩ := h
  have z : GL (s.2.1 3).length (mrun T n (Crun s k)) := GL.run n (Nat.le_refl _)
  rw [e] at z
  exact z
/-! members of the reference -/
theorem nar_01 {z : Int32} (h : z.toInt = 0 ∨ z.toInt = 1) : (vp_nar .boolean z).toInt = z.toInt := by
  rcases h with h | h
  · have e : z = 0 := Int32.toInt_inj.mp h
    subst e
    decide
  · have e : z = 1 := Int32.toInt_inj.mp h
    subst e
    decide
theorem mb_f {T : Tk} {s : St} {k : List It} (h1 : T.1 (s.1 0) ≠ 125) (h2 : T.1 (s.1 0) ≠ 137) (h3 : T.1 (s.1 0) ≠ 140 ∨ s.1 2 = 1) (h4 : T.1 (s.1 0) ≠ 141 ∨ s.1 3 = 1) (h5 : T.1 (s.1 0) ≠ 142) : mst T (Crun s (Imember :: k)) = fl T s 1 := by
  by_cases c : T.1 (s.1 0) = 140
  · exact mb_140f c (h3.resolve_left (fun q => q c))
  · by_cases d : T.1 (s.1 0) = 141
    · exact mb_141f d (h4.resolve_left (fun q => q d))
    · exact mb_x h1 h2 c d h5
theorem mth_k3 {T : Tk} {s : St} {j : Nat} {x : Nat × St} (h : ∀ kk, mthW T s j kk = kk x) : T.1 (s.1 0) = 3 := by
  by_cases c : T.1 (s.1 0) = 3
  · exact c
  · have z := (mth_1 (j := j) c (fun _ => Cdone s)).symm.trans (h _)
    unfold fl at z
    exact absurd z (fun e => by cases e)
theorem MTX.told {T : Tk} {s : St} {x : Nat × St} (m : MTX T s 3 x) (t : x.1 ∈ s.2.2.2) (l : ∀ f ∈ s.2.2.2, f < (s.2.1 3).length) : mTold s (T.2.1 (s.1 0)) = true ∧ x.2 = nx s 1 := by
  rcases m with ⟨a, b⟩ | ⟨a, b, c⟩
  · exact ⟨(mTold_s a).trans (List.contains_iff_mem.mpr t), b⟩
  · have z := l _ t
    omega
theorem MTX.new {T : Tk} {s : St} {x : Nat × St} (m : MTX T s 3 x) (h : ∀ kk, mthW T s 3 kk = kk x) (t : x.1 ∉ s.2.2.2) (kk : Nat × St → Cf) : mthN T s kk = kk x := by
  have hn : mTold s (T.2.1 (s.1 0)) = false := by
    rcases m with ⟨a, b⟩ | ⟨a, b, c⟩
    · rw [mTold_s a]
      exact Bool.eq_false_iff.mpr (fun q => t (List.contains_iff_mem.mp q))
    · exact mTold_n a
  exact (mthN_y (fun q => by rw [hn] at q; exact absurd q.2 (by decide)) kk).trans (h kk)
theorem MTX.le {T : Tk} {s : St} {x : Nat × St} (m : MTX T s 3 x) : (s.2.1 3).length ≤ (x.2.2.1 3).length ∧ x.1 < (x.2.2.1 3).length := by
  rcases m with ⟨a, b⟩ | ⟨a, b, c⟩
  · rw [b]
    refine ⟨Nat.le_refl _, ?_⟩
    unfold fndI at a
    rw [List.findIdx?_eq_some_iff_getElem] at a
    exact a.1
  · have e : (x.2.2.1 3).length = (s.2.1 3).length + 1 := by
      rw [c]
      show ((if 3 = 3 then s.2.1 3 ++ [T.2.1 (s.1 0)] else s.2.1 3)).length = _
      rw [if_pos rfl, List.length_append]
      rfl
    omega
theorem RelM.tl {V : Vf} {L : Lf} {q n : Nat} {T : Tk} {s : St} {l2 : List Int64} {l : List Nat} (h : RelM V L q n T s l2) : RelM V L q n T (sT s l) l2 := h
theorem EM.o {V : Vf} {o : Nat} {s : St} (h : OWm V o s) (e51 : (V 0 51).toInt = (o : Int)) (e52 : (V 0 52).toInt = 0) : EM V s := by
  have k : Int32.toNatClampNeg (V 0 51) = o := by
    have := i_clamp (x := V 0 51) rfl (by omega)
    omega
  have z := h.2.2.2.1
  refine ⟨⟨fun _ => z, fun _ => by omega⟩, ⟨fun q => by omega, fun q => by omega⟩, fun _ => ?_⟩
  rw [k]
  exact h.1
theorem EM.o2 {V : Vf} {o : Nat} {s : St} (c27 : (V 27 o).toInt = ((s.1 1 : Nat) : Int)) (z : s.1 4 = 0) (e51 : (V 0 51).toInt = (o : Int)) (e52 : (V 0 52).toInt = 0) : EM V s := by
  have k : Int32.toNatClampNeg (V 0 51) = o := by
    have := i_clamp (x := V 0 51) rfl (by omega)
    omega
  refine ⟨⟨fun _ => z, fun _ => by omega⟩, ⟨fun q => by omega, fun q => by omega⟩, fun _ => ?_⟩
  rw [k]
  exact c27
section OWs
variable {V W : Vf} {o m : Nat} {s s' : St}
theorem OWm.nd (h : OWm V o s) (k : keepS s m s') (l : (s.2.1 3).length ≤ (s'.2.1 3).length) (e27 : (W 27 o).toInt = (V 27 o).toInt + 1) (e32 : W 32 o = V 32 o) (e33 : W 33 o = V 33 o) (e34 : ∀ f, f < 20 → W 34 (20 * o + f) = V 34 (20 * o + f)) : OWm W o (sN s' 1 (s'.1 1 + 1)) := by
  have k1 := k.2.1 1 (by decide)
  have k2 := k.2.1 2 (by decide)
  have k3 := k.2.1 3 (by decide)
  have k4 := k.2.1 4 (by decide)
  refine ⟨?_, ?_, ?_, ?_, ?_, ?_⟩
  · show (W 27 o).toInt = ((s'.1 1 + 1 : Nat) : Int)
    rw [e27, h.1, k1]
    omega
  · show (W 32 o).toInt < 0 ↔ s'.1 2 ≠ 1
    rw [e32, k2]
    exact h.2.1
  · show (W 33 o).toInt < 0 ↔ s'.1 3 ≠ 1
    rw [e33, k3]
    exact h.2.2.1
  · show s'.1 4 = 0
    rw [k4]
    exact h.2.2.2.1
  · intro f hf
    show _ ↔ f ∈ s'.2.2.2
    rw [e34 f hf, k.2.2.2]
    exact h.2.2.2.2.1 f hf
  · show ∀ f ∈ s'.2.2.2, f < (s'.2.1 3).length
    rw [k.2.2.2]
    exact fun f hf => Nat.lt_of_lt_of_le (h.2.2.2.2.2 f hf) l
theorem OWm.op (h : OWm V o s) (k : keepS (nx (sN s 2 1) 1) m s') (l : (s.2.1 3).length ≤ (s'.2.1 3).length) (e27 : W 27 o = V 27 o) (c32 : 0 ≤ (W 32 o).toInt) (e33 : W 33 o = V 33 o) (e34 : ∀ f, f < 20 → W 34 (20 * o + f) = V 34 (20 * o + f)) : OWm W o s' := by
  have k1 : s'.1 1 = s.1 1 := k.2.1 1 (by decide)
  have k2 : s'.1 2 = 1 := k.2.1 2 (by decide)
  have k3 : s'.1 3 = s.1 3 := k.2.1 3 (by decide)
  have k4 : s'.1 4 = s.1 4 := k.2.1 4 (by decide)
  have kt : s'.2.2 = s.2.2 := k.2.2.2
  refine ⟨by rw [e27, k1]; exact h.1, ⟨fun q => absurd q (by omega), fun q => absurd k2 q⟩, by rw [e33, k3]; exact h.2.2.1, by rw [k4]; exact h.2.2.2.1, fun f hf => by rw [e34 f hf, kt]; exact h.2.2.2.2.1 f hf, by rw [kt]; exact fun f hf => Nat.lt_of_lt_of_le (h.2.2.2.2.2 f hf) l⟩
theorem OWm.cl (h : OWm V o s) (k : keepS (nx (sN s 3 1) 1) m s') (l : (s.2.1 3).length ≤ (s'.2.1 3).length) (e27 : W 27 o = V 27 o) (e32 : W 32 o = V 32 o) (c33 : 0 ≤ (W 33 o).toInt) (e34 : ∀ f, f < 20 → W 34 (20 * o + f) = V 34 (20 * o + f)) : OWm W o s' := by
  have k1 : s'.1 1 = s.1 1 := k.2.1 1 (by decide)
  have k2 : s'.1 2 = s.1 2 := k.2.1 2 (by decide)
  have k3 : s'.1 3 = 1 := k.2.1 3 (by decide)
  have k4 : s'.1 4 = s.1 4 := k.2.1 4 (by decide)
  have kt : s'.2.2 = s.2.2 := k.2.2.2
  refine ⟨by rw [e27, k1]; exact h.1, by rw [e32, k2]; exact h.2.1, ⟨fun q => absurd q (by omega), fun q => absurd k3 q⟩, by rw [k4]; exact h.2.2.2.1, fun f hf => by rw [e34 f hf, kt]; exact h.2.2.2.2.1 f hf, by rw [kt]; exact fun f hf => Nat.lt_of_lt_of_le (h.2.2.2.2.2 f hf) l⟩
theorem OWm.mt {x : Nat × St} {a : St} (h : OWm V o s) (ka : keepS s m a) (la : (s.2.1 3).length ≤ (a.2.1 3).length) (kx : keepS a 1 x.2) (lx : (a.2.1 3).length ≤ (x.2.2.1 3).length) (hx : x.1 < (x.2.2.1 3).length) (k : keepS (sT x.2 (x.1 :: a.2.2.2)) m s') (l : (x.2.2.1 3).length ≤ (s'.2.1 3).length) (e27 : W 27 o = V 27 o) (e32 : W 32 o = V 32 o) (e33 : W 33 o = V 33 o) (c34 : 0 ≤ (W 34 (20 * o + x.1)).toInt) (e34 : ∀ f, f < 20 → f ≠ x.1 → W 34 (20 * o + f) = V 34 (20 * o + f)) : OWm W o s' := by
  have kk : ∀ i, 1 ≤ i → s'.1 i = s.1 i := fun i hi => ((k.2.1 i hi).trans (kx.2.1 i hi)).trans (ka.2.1 i hi)
  have kt : s'.2.2.2 = x.1 :: s.2.2.2 := by
    have z : s'.2.2.2 = x.1 :: a.2.2.2 := congrArg (fun q => q.2) k.2.2.2
    have z2 : a.2.2.2 = s.2.2.2 := congrArg (fun q => q.2) ka.2.2.2
    rw [z, z2]
  refine ⟨by rw [e27, kk 1 (by decide)]; exact h.1, by rw [e32, kk 2 (by decide)]; exact h.2.1, by rw [e33, kk 3 (by decide)]; exact h.2.2.1, by rw [kk 4 (by decide)]; exact h.2.2.2.1, fun f hf => ?_, fun f hf => ?_⟩
  · rw [kt, List.mem_cons]
    by_cases c : f = x.1
    · rw [c]
      exact ⟨fun _ => Or.inl rfl, fun _ => c34⟩
    · rw [e34 f hf c, h.2.2.2.2.1 f hf]
      exact ⟨fun q => Or.inr q, fun q => q.elim (fun z => absurd z c) id⟩
  · rw [kt, List.mem_cons] at hf
    rcases hf with hf | hf
    · omega
    · have := h.2.2.2.2.2 f hf
      omega
end OWs


abbrev r_s_takeNeedB : Room := { frames := 0, cells := 0, slots := 0, locals := 0 }
abbrev q_s_takeNeedB (D : va_G) (ks : KS) (ad : Nat → Nat) (kk : Nat → ClassId) (V : Vf) (L : Lf) (p0 : Int32) (A : Nat → Prop) : Array Value → State → Outcome → State → Prop := va_Qv (fun (u : Vf × Lf) => rgd bM u.1 ∧ agr [(0, 7), (0, 8)] [27, 28, 29, 30, 31, 35, 36, 37, 38] V u.1 ∧ agL [27, 28, 29, 30, 31, 35, 36, 37, 38] L u.2 ∧ ((u.1 0 8).toInt = (V 0 8).toInt) ∧ (NoV 35 V u.1) ∧ (NoV 37 V u.1) ∧ (NoL 36 L u.2) ∧ (NoL 38 L u.2)) (fun u t => gq D A (mw ad kk ks.1 u.1 u.2) (mty kk) t) A
set_option maxHeartbeats 4000000 in
set_option maxRecDepth 100000 in
theorem s_takeNeedB (l : Launch) (D : va_G) (ks : KS) (sz : Nat) (ad : Nat → Nat) (kk : Nat → ClassId) (V : Vf) (L : Lf) (p0 : Int32) (hMV : rgd bM V) (rg_p0 : 0 ≤ p0.toInt ∧ p0.toInt ≤ 47) (bf : 1 ≤ (V 0 8).toInt)  : Met l yX12_takeNeed (Cond.code yX12_takeNeed cX12_takeNeed 3 none :: GW) r_s_takeNeedB (va_Pc [.ref (ad 0), .int p0] (gp D ks (mw ad kk ks.1 V L) (mty kk) sz)) (q_s_takeNeedB D ks ad kk V L p0 (va_A (mw ad kk ks.1 V L) sz)) 0 0 (va_A (mw ad kk ks.1 V L) sz) := by
  refine g_met (q_s_takeNeedB D ks ad kk V L p0) (by decide) (Nat.le_of_ble_eq_true rfl) ?_
  intro p e s m below meth c A ls H locs hx hb hr hml hown hg hlocks hin hnw hgk hP hK hD hS hA hl
  have hown : s.vm.findClass RX12 = some m.cls := hown
  have hl : lv_has ls 3 [(0, .ref (ad 0)), (1, .int p0)] := hl
  have hP : va_P D vwCl (mw ad kk ks.1 V L) H := hP
  have hD : va_D A (mw ad kk ks.1 V L) := hD
  have hK : va_K D vwCl (mty kk) s := hK
  have agV : agr [(0, 7), (0, 8)] [27, 28, 29, 30, 31, 35, 36, 37, 38] V V := agr.rf
  have alL : agL [27, 28, 29, 30, 31, 35, 36, 37, 38] L L := agL.rf
  have rf_p0 := i_full p0
  have r1 : 0 ≤ ((V 0 8)).toInt ∧ ((V 0 8)).toInt ≤ 70000 := hMV 0 8
  refine lv_aload_n hx hb dX12_takeNeed_0 rfl (lv_at hl 0 rfl) ?_
  refine va_get (D := D) (ci := 12) (v := .int (V 0 8)) (C := RX12) (T := TX12) (N := 100) hx hb hg inX12 hown hK hP 0 rfl rfl 8 (by decide) (hg _ w1714) (fun _ h9 => h9) rfl dX12_takeNeed_1 ?_
  refine lv_if_le (tgt := 8) hx hb dX12_takeNeed_4 (by decide) (fun c2 => ?_) (fun c2 => ?_)
  · skip
    have f3 : ((V 0 8)).toInt ≤ 0 := b_le rfl (by decide) c2
    exfalso; omega
  · skip
    have f4 : 0 < ((V 0 8)).toInt := b_nle rfl (by decide) c2
    have rw5 : NoV 35 V V := (fun k => rfl)
    have rw6 : NoV 37 V V := (fun k => rfl)
    have rw7 : NoL 36 L L := (fun k => rfl)
    have rw8 : NoL 38 L L := (fun k => rfl)
    exact W.vret hx hb hr (fun t ht hW => ⟨⟨(V, L), rfl, ⟨hMV, agV, alL, (show (V 0 8).toInt = (V 0 8).toInt from by omega), rw5, rw6, rw7, rw8⟩, by rw [ht]; exact hP, va_K.moved hW.alike hK, hD⟩, hS.F ht⟩) hS.2.2 dX12_takeNeed_7
abbrev r_s_takeNeedA : Room := { frames := 3, cells := 0, slots := 0, locals := 71 }
abbrev q_s_takeNeedA (D : va_G) (ks : KS) (ad : Nat → Nat) (kk : Nat → ClassId) (V : Vf) (L : Lf) (p0 : Int32) (bq : Nat) (gn : Nat) (gT : Tk) (gs : St) (gl : List Int64) (gc : Nat) (A : Nat → Prop) : Array Value → State → Outcome → State → Prop := va_Qv (fun (u : Vf × Lf) => rgd bM u.1 ∧ agr [(0, 7), (0, 8)] [27, 28, 29, 30, 31, 35, 36, 37, 38] V u.1 ∧ agL [27, 28, 29, 30, 31, 35, 36, 37, 38] L u.2 ∧ ((u.1 27 gc).toInt = (V 27 gc).toInt + 1) ∧ (RdM gT gs (fun k => IneedK :: k) (fun k => Itake 59 :: IaddNeed :: Imember :: k) (u.1 0 8).toInt (fun s9 => RelM u.1 u.2 bq gn gT s9 gl ∧ keepS gs 1 s9)) ∧ (RoV 35 bq V u.1) ∧ (RoV 37 bq V u.1) ∧ (RoL 36 20 bq L u.2) ∧ (RoL 38 20 bq L u.2)) (fun u t => gq D A (mw ad kk ks.1 u.1 u.2) (mty kk) t) A
set_option maxHeartbeats 4000000 in
set_option maxRecDepth 100000 in
theorem s_takeNeedA (l : Launch) (D : va_G) (ks : KS) (sz : Nat) (ad : Nat → Nat) (kk : Nat → ClassId) (V : Vf) (L : Lf) (p0 : Int32) (bq : Nat) (gn : Nat) (gT : Tk) (gs : St) (gl : List Int64) (gc : Nat) (hMV : rgd bM V) (rg_p0 : 0 ≤ p0.toInt ∧ p0.toInt ≤ 47) (rel : RelM V L bq gn gT gs gl) (pgc : p0.toInt = (gc : Int)) (gc48 : gc < 48) (n7 : (V 27 gc).toInt ≤ 7)  : Met l yX12_takeNeed (Cond.code yX12_takeNeed cX12_takeNeed 3 none :: GW) r_s_takeNeedA (va_Pc [.ref (ad 0), .int p0] (gp D ks (mw ad kk ks.1 V L) (mty kk) sz)) (q_s_takeNeedA D ks ad kk V L p0 bq gn gT gs gl gc (va_A (mw ad kk ks.1 V L) sz)) 0 0 (va_A (mw ad kk ks.1 V L) sz) := by
  refine g_met (q_s_takeNeedA D ks ad kk V L p0 bq gn gT gs gl gc) (by decide) (Nat.le_of_ble_eq_true rfl) ?_
  intro p e s m below meth c A ls H locs hx hb hr hml hown hg hlocks hin hnw hgk hP hK hD hS hA hl
  have hown : s.vm.findClass RX12 = some m.cls := hown
  have hl : lv_has ls 3 [(0, .ref (ad 0)), (1, .int p0)] := hl
  have hP : va_P D vwCl (mw ad kk ks.1 V L) H := hP
  have hD : va_D A (mw ad kk ks.1 V L) := hD
  have hK : va_K D vwCl (mty kk) s := hK
  have agV : agr [(0, 7), (0, 8)] [27, 28, 29, 30, 31, 35, 36, 37, 38] V V := agr.rf
  have alL : agL [27, 28, 29, 30, 31, 35, 36, 37, 38] L L := agL.rf
  have rf_p0 := i_full p0
  have r1 : 0 ≤ ((V 27 gc)).toInt ∧ ((V 27 gc)).toInt ≤ 8 := hMV 27 gc
  have rg0 := RelM.rg rel
  have cl0 := RelM.cl rel
  have cq0 := RelM.cq rel
  have kgc : Int32.toNatClampNeg p0 = gc := by have h9 := i_clamp (x := p0) rfl (by omega); omega
  have q27 : (V 27 (Int32.toNatClampNeg p0)).toInt = (V 27 gc).toInt := by rw [kgc]
  have q32 : (V 32 (Int32.toNatClampNeg p0)).toInt = (V 32 gc).toInt := by rw [kgc]
  have q33 : (V 33 (Int32.toNatClampNeg p0)).toInt = (V 33 gc).toInt := by rw [kgc]
  refine lv_aload_n hx hb dX12_takeNeed_0 rfl (lv_at hl 0 rfl) ?_
  refine va_get (D := D) (ci := 12) (v := .int (V 0 8)) (C := RX12) (T := TX12) (N := 100) hx hb hg inX12 hown hK hP 0 rfl rfl 8 (by decide) (hg _ w1714) (fun _ h9 => h9) rfl dX12_takeNeed_1 ?_
  have r2 : 0 ≤ ((V 0 8)).toInt ∧ ((V 0 8)).toInt ≤ 70000 := hMV 0 8
  refine lv_if_le (tgt := 8) hx hb dX12_takeNeed_4 (by decide) (fun c3 => ?_) (fun c3 => ?_)
  · skip
    have f4 : ((V 0 8)).toInt ≤ 0 := b_le rfl (by decide) c3
    refine lv_bipush (v := 8) hx hb dX12_takeNeed_8 (by decide) ?_
    refine lv_iload_n hx hb dX12_takeNeed_10 rfl (lv_at hl 1 rfl) ?_
    refine lv_imul hx hb dX12_takeNeed_11 ?_
    refine lv_topi (fun z5 ez5 => ?_)
    have hz5 : z5.toInt = 8 * p0.toInt := i_mul ez5 (by decide) rfl (by omega)
    refine lv_aload_n hx hb dX12_takeNeed_12 rfl (lv_at hl 0 rfl) ?_
    refine va_get (D := D) (ci := 12) (v := .ref (ad 27)) (C := RX12) (T := TX12) (N := 100) hx hb hg inX12 hown hK hP 0 rfl rfl 27 (by decide) (hg _ w1733) (fun _ h9 => h9) rfl dX12_takeNeed_13 ?_
    refine lv_iload_n hx hb dX12_takeNeed_16 rfl (lv_at hl 1 rfl) ?_
    refine va_iald (D := D) (i := p0) hx hb hK hP 20 19 rfl rfl (i_in (a := p0.toInt) rfl (by omega)) dX12_takeNeed_17 ?_
    have r6 : 0 ≤ ((V 27 (Int32.toNatClampNeg p0))).toInt ∧ ((V 27 (Int32.toNatClampNeg p0))).toInt ≤ 8 := hMV 27 (Int32.toNatClampNeg p0)
    refine lv_iadd hx hb dX12_takeNeed_18 ?_
    refine lv_topi (fun z7 ez7 => ?_)
    have hz7 : z7.toInt = z5.toInt + ((V 27 (Int32.toNatClampNeg p0))).toInt := i_add ez7 rfl rfl (by omega)
    refine lv_istore_n (lv' := [(2, .int z7), (0, .ref (ad 0)), (1, .int p0)]) hx hb dX12_takeNeed_19 rfl hl (by decide) rfl (fun ls hl => ?_)
    refine lv_aload_n hx hb dX12_takeNeed_20 rfl (lv_at hl 1 rfl) ?_
    refine va_get (D := D) (ci := 12) (v := .ref (ad 29)) (C := RX12) (T := TX12) (N := 100) hx hb hg inX12 hown hK hP 0 rfl rfl 29 (by decide) (hg _ w1735) (fun _ h9 => h9) rfl dX12_takeNeed_21 ?_
    refine lv_iload_n hx hb dX12_takeNeed_24 rfl (lv_at hl 0 rfl) ?_
    refine lv_aload_n hx hb dX12_takeNeed_25 rfl (lv_at hl 1 rfl) ?_
    refine lv_bipush (v := 10) hx hb dX12_takeNeed_26 (by decide) ?_
    have r8 : Int32.toInt 10 = 10 := by decide
    refine gA_int (gA_runV (As := [.int 10]) (rest := [.int z7, .ref (ad 29)]) (ci := 12) (q0 := 0) hx hb hml hown hg hP hD hK hS hA hnw hgk (s_hasWordA l D ks H.size ad kk V L 10 (bq) (gn) (gT) (gs) (gl) hMV (by decide) rel) w2051 w2053 w90 w172 w2054 rfl rfl hdV_yX12_hasWord ⟨Nat.le_of_ble_eq_true rfl, Nat.le_of_ble_eq_true rfl⟩ rfl hl.1 rfl (Nat.le_of_ble_eq_true rfl) dX12_takeNeed_28 ⟨Nat.le_of_ble_eq_true rfl, Nat.le_of_ble_eq_true rfl⟩) hP hD hK hS hA (fun z9 u10 H locs w11 hP hD hK hS => ?_)
    obtain ⟨V13, L14⟩ := u10
    obtain ⟨hMV13, ajV13, axL14, rgz9, t12⟩ := w11
    have axL14 : L = L14 := Eq.symm axL14
    subst axL14
    have hP : va_P D vwCl (mw ad kk ks.1 V13 L) H := hP
    have hD : va_D A (mw ad kk ks.1 V13 L) := hD
    have hMV13 : rgd bM V13 := hMV13
    have ajV13 : agr [(0, 7)] [] V V13 := ajV13
    have agV13 : agr [(0, 7), (0, 8)] [27, 28, 29, 30, 31, 35, 36, 37, 38] V V13 := agV.tr ajV13 (by decide) (by decide)
    have rgz9 : 0 ≤ z9.toInt ∧ z9.toInt ≤ 1 := rgz9
    have t12 : (z9.toInt = 1 ∧ (gT).1 ((gs).1 0) = 128 + (Int32.toInt 10) ∧ RelM V13 L (bq) (gn) (gT) (nx (gs) 1) (gl)) ∨ (z9.toInt = 0 ∧ (gT).1 ((gs).1 0) ≠ 128 + (Int32.toInt 10) ∧ RelM V13 L (bq) (gn) (gT) (gs) (gl)) := t12
    rcases t12 with ⟨q15, h16, rl17⟩ | ⟨q15, h16, rl17⟩
    · skip
      have kd18 : gT.1 (gs.1 0) = 138 := h16.trans (by decide)
      have hr19 : ∀ k, Rc gT (Crun gs (IneedK :: k)) (Crun gs (IneedK :: k)) := fun k => Rc.rf
      have hr20 : ∀ k, Rc gT (Crun gs (IneedK :: k)) (Crun (nx gs 1) (IneedT 0 :: k)) := fun k => Rc.go1 (hr19 k) (needK_l kd18)
      have ps21 : (nx gs 1).1 0 = gs.1 0 + 1 := rfl
      have fz22 := RelM.rg rl17
      have pq23 : (V13 0 8).toInt = ((V 0 8)).toInt := congrArg Int32.toInt (ajV13 0 8 rfl)
      refine va_zast (D := D) (i := z7) (x := z9) hx hb hK hP hD hS 22 21 rfl rfl (i_in (a := z7.toInt) rfl (by omega)) dX12_takeNeed_31 (fun H locs hP hD hS => ?_)
      obtain ⟨V24, hV24⟩ : ∃ z, z = up2 V13 29 (Int32.toNatClampNeg z7) (vp_nar .boolean z9) := ⟨_, rfl⟩
      have hP : va_P D vwCl (mw ad kk ks.1 V24 L) H := by rw [hV24]; exact hP
      have hD : va_D A (mw ad kk ks.1 V24 L) := by rw [hV24]; exact hD
      have hMV24 : rgd bM V24 := hMV13.put hV24 (nar_b _)
      have agV24 : agr [(0, 7), (0, 8)] [27, 28, 29, 30, 31, 35, 36, 37, 38] V V24 := agV13.up hV24 rfl
      refine lv_aload_n hx hb dX12_takeNeed_32 rfl (lv_at hl 1 rfl) ?_
      refine va_get (D := D) (ci := 12) (v := .ref (ad 30)) (C := RX12) (T := TX12) (N := 100) hx hb hg inX12 hown hK hP 0 rfl rfl 30 (by decide) (hg _ w1736) (fun _ h9 => h9) rfl dX12_takeNeed_33 ?_
      refine lv_iload_n hx hb dX12_takeNeed_36 rfl (lv_at hl 0 rfl) ?_
      refine lv_aload_n hx hb dX12_takeNeed_37 rfl (lv_at hl 1 rfl) ?_
      refine va_get (D := D) (ci := 12) (v := .ref (ad 29)) (C := RX12) (T := TX12) (N := 100) hx hb hg inX12 hown hK hP 0 rfl rfl 29 (by decide) (hg _ w1735) (fun _ h9 => h9) rfl dX12_takeNeed_38 ?_
      refine lv_iload_n hx hb dX12_takeNeed_41 rfl (lv_at hl 0 rfl) ?_
      refine va_zald (D := D) (i := z7) hx hb hK hP 22 21 rfl rfl (i_in (a := z7.toInt) rfl (by omega)) dX12_takeNeed_42 ?_
      refine g_top (v := (vp_nar .boolean z9)) (up2_s hV24) ?_
      have nr25 : (vp_nar .boolean z9).toInt = z9.toInt := nar_01 (by omega)
      refine lv_if_ne (tgt := 59) hx hb dX12_takeNeed_43 (by decide) (fun c26 => ?_) (fun c26 => ?_)
      · skip
        have f27 : ((vp_nar .boolean z9)).toInt ≠ 0 := b_neq rfl (by decide) c26
        refine lv_iconst (v := 0) hx hb dX12_takeNeed_59 (by decide) ?_
        refine va_zast (D := D) (i := z7) (x := 0) hx hb hK hP hD hS 23 22 rfl rfl (i_in (a := z7.toInt) rfl (by omega)) dX12_takeNeed_60 (fun H locs hP hD hS => ?_)
        obtain ⟨V28, hV28⟩ : ∃ z, z = up2 V24 30 (Int32.toNatClampNeg z7) (vp_nar .boolean 0) := ⟨_, rfl⟩
        have hP : va_P D vwCl (mw ad kk ks.1 V28 L) H := by rw [hV28]; exact hP
        have hD : va_D A (mw ad kk ks.1 V28 L) := by rw [hV28]; exact hD
        have hMV28 : rgd bM V28 := hMV24.put hV28 (nar_b _)
        have agV28 : agr [(0, 7), (0, 8)] [27, 28, 29, 30, 31, 35, 36, 37, 38] V V28 := agV24.up hV28 rfl
        refine lv_aload_n hx hb dX12_takeNeed_61 rfl (lv_at hl 1 rfl) ?_
        refine va_get (D := D) (ci := 12) (v := .ref (ad 28)) (C := RX12) (T := TX12) (N := 100) hx hb hg inX12 hown hK hP 0 rfl rfl 28 (by decide) (hg _ w1734) (fun _ h9 => h9) rfl dX12_takeNeed_62 ?_
        refine lv_iload_n hx hb dX12_takeNeed_65 rfl (lv_at hl 0 rfl) ?_
        refine lv_aload_n hx hb dX12_takeNeed_66 rfl (lv_at hl 1 rfl) ?_
        have rl29 : RelM V28 L bq gn gT (nx gs 1) gl := RelM.ag rl17 (show agr [] [29, 30] V13 V28 from (agr.up (agr.up agr.rf hV24 rfl) hV28 rfl)) (by decide) (show agL [] L L from agL.rf) (by decide)
        refine gA_int (gA_runV (As := []) (rest := [.int z7, .ref (ad 28)]) (ci := 12) (q0 := 0) hx hb hml hown hg hP hD hK hS hA hnw hgk (s_takeTypeA l D ks H.size ad kk V28 L (bq) (gn) (gT) ((nx gs 1)) (gl) hMV28 rl29) w2059 w2061 w92 w172 w2062 rfl rfl hdV_yX12_takeType ⟨Nat.le_of_ble_eq_true rfl, Nat.le_of_ble_eq_true rfl⟩ rfl hl.1 rfl (Nat.le_of_ble_eq_true rfl) dX12_takeNeed_67 ⟨Nat.le_of_ble_eq_true rfl, Nat.le_of_ble_eq_true rfl⟩) hP hD hK hS hA (fun z30 u31 H locs w32 hP hD hK hS => ?_)
        obtain ⟨V34, L35⟩ := u31
        obtain ⟨hMV34, ajV34, axL35, rgz30, t33⟩ := w32
        have axL35 : L = L35 := Eq.symm axL35
        subst axL35
        have hP : va_P D vwCl (mw ad kk ks.1 V34 L) H := hP
        have hD : va_D A (mw ad kk ks.1 V34 L) := hD
        have hMV34 : rgd bM V34 := hMV34
        have ajV34 : agr [(0, 7), (0, 8)] [] V28 V34 := ajV34
        have agV34 : agr [(0, 7), (0, 8)] [27, 28, 29, 30, 31, 35, 36, 37, 38] V V34 := agV28.tr ajV34 (by decide) (by decide)
        have rgz30 : (-1) ≤ z30.toInt ∧ z30.toInt ≤ 23 := rgz30
        have t33 : KmN (look (gT) ((nx gs 1)) (((nx gs 1)).2.1 0)) (V34 0 8).toInt (fun f9 => RelM V34 L (bq) (gn) (gT) (nx ((nx gs 1)) 1) (gl) ∧ z30.toInt = ((f9 : Nat) : Int) ∧ f9 < 24) := t33
        rcases t33 with ⟨q36, fx37, h38, rl39, hf40, hb41⟩ | ⟨q36, h38⟩
        · skip
          have hr42 : ∀ k, Rc gT (Crun gs (IneedK :: k)) (Crun (nx (nx gs 1) 1) (Icalled :: Itake 59 :: IaddNeed :: Imember :: k)) := fun k => Rc.go1 (hr20 k) (nd_0 h38)
          have ps43 : (nx (nx gs 1) 1).1 0 = (nx gs 1).1 0 + 1 := rfl
          have fz44 := RelM.rg rl39
          have r45 : 0 ≤ ((V34 0 8)).toInt ∧ ((V34 0 8)).toInt ≤ 70000 := hMV34 0 8
          refine va_iast (D := D) (i := z7) (x := z30) hx hb hK hP hD hS 21 20 rfl rfl (i_in (a := z7.toInt) rfl (by omega)) dX12_takeNeed_70 (fun H locs hP hD hS => ?_)
          obtain ⟨V46, hV46⟩ : ∃ z, z = up2 V34 28 (Int32.toNatClampNeg z7) z30 := ⟨_, rfl⟩
          have hP : va_P D vwCl (mw ad kk ks.1 V46 L) H := by rw [hV46]; exact hP
          have hD : va_D A (mw ad kk ks.1 V46 L) := by rw [hV46]; exact hD
          have hMV46 : rgd bM V46 := hMV34.put hV46 (show (-1) ≤ z30.toInt ∧ z30.toInt ≤ 23 from by omega)
          have agV46 : agr [(0, 7), (0, 8)] [27, 28, 29, 30, 31, 35, 36, 37, 38] V V46 := agV34.up hV46 rfl
          refine lv_aload_n hx hb dX12_takeNeed_71 rfl (lv_at hl 1 rfl) ?_
          refine va_get (D := D) (ci := 12) (v := .ref (ad 31)) (C := RX12) (T := TX12) (N := 100) hx hb hg inX12 hown hK hP 0 rfl rfl 31 (by decide) (hg _ w1737) (fun _ h9 => h9) rfl dX12_takeNeed_72 ?_
          refine lv_iload_n hx hb dX12_takeNeed_75 rfl (lv_at hl 0 rfl) ?_
          refine lv_aload_n hx hb dX12_takeNeed_76 rfl (lv_at hl 1 rfl) ?_
          refine va_get (D := D) (ci := 12) (v := .ref (ad 30)) (C := RX12) (T := TX12) (N := 100) hx hb hg inX12 hown hK hP 0 rfl rfl 30 (by decide) (hg _ w1736) (fun _ h9 => h9) rfl dX12_takeNeed_77 ?_
          refine lv_iload_n hx hb dX12_takeNeed_80 rfl (lv_at hl 0 rfl) ?_
          refine va_zald (D := D) (i := z7) hx hb hK hP 23 22 rfl rfl (i_in (a := z7.toInt) rfl (by omega)) dX12_takeNeed_81 ?_
          refine g_top (v := (vp_nar .boolean 0)) ((up2_o hV46 (by decide)).trans ((ajV34 30 (Int32.toNatClampNeg z7) rfl).trans (up2_s hV28))) ?_
          have nr47 : (vp_nar .boolean 0).toInt = 0 := by decide
          refine lv_if_ne (tgt := 108) hx hb dX12_takeNeed_82 (by decide) (fun c48 => ?_) (fun c48 => ?_)
          · skip
            have f49 : ((vp_nar .boolean 0)).toInt ≠ 0 := b_neq rfl (by decide) c48
            exfalso; omega
          · skip
            have f50 : ((vp_nar .boolean 0)).toInt = 0 := b_eq rfl (by decide) c48
            refine lv_aload_n hx hb dX12_takeNeed_85 rfl (lv_at hl 1 rfl) ?_
            refine lv_iconst (v := 5) hx hb dX12_takeNeed_86 (by decide) ?_
            have rl51 : RelM V46 L bq gn gT (nx (nx gs 1) 1) gl := RelM.ag rl39 (show agr [] [28] V34 V46 from (agr.up agr.rf hV46 rfl)) (by decide) (show agL [] L L from agL.rf) (by decide)
            have r52 : Int32.toInt 5 = 5 := by decide
            refine gA_int (gA_runV (As := [.int 5]) (rest := [.int z7, .ref (ad 31)]) (ci := 12) (q0 := 0) hx hb hml hown hg hP hD hK hS hA hnw hgk (s_hasWordA l D ks H.size ad kk V46 L 5 (bq) (gn) (gT) ((nx (nx gs 1) 1)) (gl) hMV46 (by decide) rl51) w2051 w2053 w90 w172 w2054 rfl rfl hdV_yX12_hasWord ⟨Nat.le_of_ble_eq_true rfl, Nat.le_of_ble_eq_true rfl⟩ rfl hl.1 rfl (Nat.le_of_ble_eq_true rfl) dX12_takeNeed_87 ⟨Nat.le_of_ble_eq_true rfl, Nat.le_of_ble_eq_true rfl⟩) hP hD hK hS hA (fun z53 u54 H locs w55 hP hD hK hS => ?_)
            obtain ⟨V57, L58⟩ := u54
            obtain ⟨hMV57, ajV57, axL58, rgz53, t56⟩ := w55
            have axL58 : L = L58 := Eq.symm axL58
            subst axL58
            have hP : va_P D vwCl (mw ad kk ks.1 V57 L) H := hP
            have hD : va_D A (mw ad kk ks.1 V57 L) := hD
            have hMV57 : rgd bM V57 := hMV57
            have ajV57 : agr [(0, 7)] [] V46 V57 := ajV57
            have agV57 : agr [(0, 7), (0, 8)] [27, 28, 29, 30, 31, 35, 36, 37, 38] V V57 := agV46.tr ajV57 (by decide) (by decide)
            have rgz53 : 0 ≤ z53.toInt ∧ z53.toInt ≤ 1 := rgz53
            have t56 : (z53.toInt = 1 ∧ (gT).1 (((nx (nx gs 1) 1)).1 0) = 128 + (Int32.toInt 5) ∧ RelM V57 L (bq) (gn) (gT) (nx ((nx (nx gs 1) 1)) 1) (gl)) ∨ (z53.toInt = 0 ∧ (gT).1 (((nx (nx gs 1) 1)).1 0) ≠ 128 + (Int32.toInt 5) ∧ RelM V57 L (bq) (gn) (gT) ((nx (nx gs 1) 1)) (gl)) := t56
            rcases t56 with ⟨q59, h60, rl61⟩ | ⟨q59, h60, rl61⟩
            · skip
              have kd62 : gT.1 ((nx (nx gs 1) 1).1 0) = 133 := h60.trans (by decide)
              have hr63 : ∀ k, Rc gT (Crun gs (IneedK :: k)) (Crun (nx (nx (nx gs 1) 1) 1) (Iword :: Itake 59 :: IaddNeed :: Imember :: k)) := fun k => Rc.go1 (hr42 k) (called_y  kd62)
              have ps64 : (nx (nx (nx gs 1) 1) 1).1 0 = (nx (nx gs 1) 1).1 0 + 1 := rfl
              have fz65 := RelM.rg rl61
              have pq66 : (V57 0 8).toInt = ((V34 0 8)).toInt := congrArg Int32.toInt ((ajV57 0 8 rfl).trans (up2_o hV46 (by decide)))
              refine lv_if_eq (tgt := 108) hx hb dX12_takeNeed_90 (by decide) (fun c67 => ?_) (fun c67 => ?_)
              · skip
                have f68 : z53.toInt = 0 := b_eq rfl (by decide) c67
                exfalso; omega
              · skip
                have f69 : z53.toInt ≠ 0 := b_neq rfl (by decide) c67
                refine lv_aload_n hx hb dX12_takeNeed_93 rfl (lv_at hl 1 rfl) ?_
                refine lv_aload_n hx hb dX12_takeNeed_94 rfl (lv_at hl 1 rfl) ?_
                refine va_get (D := D) (ci := 12) (v := .ref (ad 38)) (C := RX12) (T := TX12) (N := 100) hx hb hg inX12 hown hK hP 0 rfl rfl 38 (by decide) (hg _ w1744) (fun _ h9 => h9) rfl dX12_takeNeed_95 ?_
                refine lv_aload_n hx hb dX12_takeNeed_98 rfl (lv_at hl 1 rfl) ?_
                refine va_get (D := D) (ci := 12) (v := .ref (ad 37)) (C := RX12) (T := TX12) (N := 100) hx hb hg inX12 hown hK hP 0 rfl rfl 37 (by decide) (hg _ w1743) (fun _ h9 => h9) rfl dX12_takeNeed_99 ?_
                refine gA_int (gA_runV (As := [.ref (ad 38), .ref (ad 37)]) (rest := [.int z7, .ref (ad 31)]) (ci := 12) (q0 := 0) hx hb hml hown hg hP hD hK hS hA hnw hgk (s_takeWordOf4 l D ks H.size ad kk V57 L (bq) (gn) (gT) ((nx (nx (nx gs 1) 1) 1)) (gl) hMV57 rl61) w2100 w2102 w102 w172 w2103 rfl rfl hdV_yX12_takeWordOf ⟨Nat.le_of_ble_eq_true rfl, Nat.le_of_ble_eq_true rfl⟩ rfl hl.1 rfl (Nat.le_of_ble_eq_true rfl) dX12_takeNeed_102 ⟨Nat.le_of_ble_eq_true rfl, Nat.le_of_ble_eq_true rfl⟩) hP hD hK hS hA (fun z70 u71 H locs w72 hP hD hK hS => ?_)
                obtain ⟨V78, L79⟩ := u71
                obtain ⟨hMV78, ajV78, axL79, rgz70, t73, t74, t75, t76, t77⟩ := w72
                have alL79 : agL [27, 28, 29, 30, 31, 35, 36, 37, 38] L L79 := agL.tr alL axL79 (by decide)
                have hP : va_P D vwCl (mw ad kk ks.1 V78 L79) H := hP
                have hD : va_D A (mw ad kk ks.1 V78 L79) := hD
                have hMV78 : rgd bM V78 := hMV78
                have ajV78 : agr [(0, 7), (0, 8)] [35, 36, 37, 38] V57 V78 := ajV78
                have agV78 : agr [(0, 7), (0, 8)] [27, 28, 29, 30, 31, 35, 36, 37, 38] V V78 := agV57.tr ajV78 (by decide) (by decide)
                have rgz70 : (-1) ≤ z70.toInt ∧ z70.toInt ≤ 19 := rgz70
                have t73 : KmS (mthW (gT) ((nx (nx (nx gs 1) 1) 1)) 4) (V78 0 8).toInt (fun x9 => RelM V78 L79 (bq) (gn) (gT) x9.2 (gl) ∧ z70.toInt = ((x9.1 : Nat) : Int) ∧ x9.1 < 20 ∧ keepS ((nx (nx (nx gs 1) 1) 1)) 1 x9.2 ∧ MTX (gT) ((nx (nx (nx gs 1) 1) 1)) 4 x9) := t73
                have t74 : RoV 35 (bq) V57 V78 := t74
                have t75 : RoV 37 (bq) V57 V78 := t75
                have t76 : RoL 36 20 (bq) L L79 := t76
                have t77 : RoL 38 20 (bq) L L79 := t77
                rcases t73 with ⟨q80, mx81, h82, rl83, hf84, hb85, kp86, mt87⟩ | ⟨q80, h82⟩
                · skip
                  have ps88 := kp86.1
                  have hr89 : ∀ k, Rc gT (Crun gs (IneedK :: k)) (Crun mx81.2 (Itake 59 :: IaddNeed :: Imember :: k)) := fun k => Rc.go1 (hr63 k) (wo_y h82)
                  have fz90 := RelM.rg rl83
                  have r91 : 0 ≤ ((V78 0 8)).toInt ∧ ((V78 0 8)).toInt ≤ 70000 := hMV78 0 8
                  refine lv_goto (tgt := 109) hx hb dX12_takeNeed_105 (by decide) ?_
                  refine va_iast (D := D) (i := z7) (x := z70) hx hb hK hP hD hS 24 23 rfl rfl (i_in (a := z7.toInt) rfl (by omega)) dX12_takeNeed_109 (fun H locs hP hD hS => ?_)
                  obtain ⟨V92, hV92⟩ : ∃ z, z = up2 V78 31 (Int32.toNatClampNeg z7) z70 := ⟨_, rfl⟩
                  have hP : va_P D vwCl (mw ad kk ks.1 V92 L79) H := by rw [hV92]; exact hP
                  have hD : va_D A (mw ad kk ks.1 V92 L79) := by rw [hV92]; exact hD
                  have hMV92 : rgd bM V92 := hMV78.put hV92 (i_full _)
                  have agV92 : agr [(0, 7), (0, 8)] [27, 28, 29, 30, 31, 35, 36, 37, 38] V V92 := agV78.up hV92 rfl
                  refine lv_aload_n hx hb dX12_takeNeed_110 rfl (lv_at hl 1 rfl) ?_
                  refine va_get (D := D) (ci := 12) (v := .ref (ad 27)) (C := RX12) (T := TX12) (N := 100) hx hb hg inX12 hown hK hP 0 rfl rfl 27 (by decide) (hg _ w1733) (fun _ h9 => h9) rfl dX12_takeNeed_111 ?_
                  refine lv_iload_n hx hb dX12_takeNeed_114 rfl (lv_at hl 2 rfl) ?_
                  refine lv_dup2_11 hx hb dX12_takeNeed_115 rfl rfl ?_
                  refine va_iald (D := D) (i := p0) hx hb hK hP 20 19 rfl rfl (i_in (a := p0.toInt) rfl (by omega)) dX12_takeNeed_116 ?_
                  refine g_top (v := (V 27 (Int32.toNatClampNeg p0))) ((up2_o hV92 (by decide)).trans ((ajV78 27 (Int32.toNatClampNeg p0) rfl).trans ((ajV57 27 (Int32.toNatClampNeg p0) rfl).trans ((up2_o hV46 (by decide)).trans ((ajV34 27 (Int32.toNatClampNeg p0) rfl).trans ((up2_o hV28 (by decide)).trans ((up2_o hV24 (by decide)).trans (ajV13 27 (Int32.toNatClampNeg p0) rfl)))))))) ?_
                  refine lv_iconst (v := 1) hx hb dX12_takeNeed_117 (by decide) ?_
                  refine lv_iadd hx hb dX12_takeNeed_118 ?_
                  refine lv_topi (fun z93 ez93 => ?_)
                  have hz93 : z93.toInt = ((V 27 (Int32.toNatClampNeg p0))).toInt + 1 := i_add ez93 rfl (by decide) (by omega)
                  refine va_iast (D := D) (i := p0) (x := z93) hx hb hK hP hD hS 20 19 rfl rfl (i_in (a := p0.toInt) rfl (by omega)) dX12_takeNeed_119 (fun H locs hP hD hS => ?_)
                  obtain ⟨V94, hV94⟩ : ∃ z, z = up2 V92 27 (Int32.toNatClampNeg p0) z93 := ⟨_, rfl⟩
                  have hP : va_P D vwCl (mw ad kk ks.1 V94 L79) H := by rw [hV94]; exact hP
                  have hD : va_D A (mw ad kk ks.1 V94 L79) := by rw [hV94]; exact hD
                  have hMV94 : rgd bM V94 := hMV92.put hV94 (show 0 ≤ z93.toInt ∧ z93.toInt ≤ 8 from by omega)
                  have agV94 : agr [(0, 7), (0, 8)] [27, 28, 29, 30, 31, 35, 36, 37, 38] V V94 := agV92.up hV94 rfl
                  have pq95 : (V94 27 (Int32.toNatClampNeg p0)).toInt = z93.toInt := congrArg Int32.toInt (up2_s hV94)
                  have rl96 : RelM V94 L79 bq gn gT mx81.2 gl := RelM.ag rl83 (show agr [] [27, 31] V78 V94 from (agr.up (agr.up agr.rf hV92 rfl) hV94 rfl)) (by decide) (show agL [] L79 L79 from agL.rf) (by decide)
                  have rw97 : RoV 35 bq V V94 := (fun k hk => ((up2_o hV94 (by decide)).trans ((up2_o hV92 (by decide)).trans ((t74 k hk).trans ((ajV57 35 k rfl).trans ((up2_o hV46 (by decide)).trans ((ajV34 35 k rfl).trans ((up2_o hV28 (by decide)).trans ((up2_o hV24 (by decide)).trans ((ajV13 35 k rfl).trans rfl))))))))))
                  have rw98 : RoV 37 bq V V94 := (fun k hk => ((up2_o hV94 (by decide)).trans ((up2_o hV92 (by decide)).trans ((t75 k hk).trans ((ajV57 37 k rfl).trans ((up2_o hV46 (by decide)).trans ((ajV34 37 k rfl).trans ((up2_o hV28 (by decide)).trans ((up2_o hV24 (by decide)).trans ((ajV13 37 k rfl).trans rfl))))))))))
                  have rw99 : RoL 36 20 bq L L79 := (fun k hk => ((t76 k hk).trans rfl))
                  have rw100 : RoL 38 20 bq L L79 := (fun k hk => ((t77 k hk).trans rfl))
                  exact W.vret hx hb hr (fun t ht hW => ⟨⟨(V94, L79), rfl, ⟨hMV94, agV94, alL79, (show (V94 27 gc).toInt = (V 27 gc).toInt + 1 from by rw [← kgc]; omega), (Or.inl ⟨W0 rl96, mx81.2, hr89, rl96, keepS.le (keepS.tr (keepS.tr (keepS.tr (keepS.tr (keepS.rf : keepS gs 0 gs) (keepS.n1 1)) (keepS.n1 1)) (keepS.n1 1)) kp86) (by decide)⟩), rw97, rw98, rw99, rw100⟩, by rw [ht]; exact hP, va_K.moved hW.alike hK, hD⟩, hS.F ht⟩) hS.2.2 dX12_takeNeed_120
                · skip
                  have hb101 : ∀ k, Rc gT (Crun gs (IneedK :: k)) (Cbad (V78 0 8).toInt) := fun k => Rc.go1 (hr63 k) (wo_b h82)
                  have r102 : 0 ≤ ((V78 0 8)).toInt ∧ ((V78 0 8)).toInt ≤ 70000 := hMV78 0 8
                  refine lv_goto (tgt := 109) hx hb dX12_takeNeed_105 (by decide) ?_
                  refine va_iast (D := D) (i := z7) (x := z70) hx hb hK hP hD hS 24 23 rfl rfl (i_in (a := z7.toInt) rfl (by omega)) dX12_takeNeed_109 (fun H locs hP hD hS => ?_)
                  obtain ⟨V103, hV103⟩ : ∃ z, z = up2 V78 31 (Int32.toNatClampNeg z7) z70 := ⟨_, rfl⟩
                  have hP : va_P D vwCl (mw ad kk ks.1 V103 L79) H := by rw [hV103]; exact hP
                  have hD : va_D A (mw ad kk ks.1 V103 L79) := by rw [hV103]; exact hD
                  have hMV103 : rgd bM V103 := hMV78.put hV103 (i_full _)
                  have agV103 : agr [(0, 7), (0, 8)] [27, 28, 29, 30, 31, 35, 36, 37, 38] V V103 := agV78.up hV103 rfl
                  refine lv_aload_n hx hb dX12_takeNeed_110 rfl (lv_at hl 1 rfl) ?_
                  refine va_get (D := D) (ci := 12) (v := .ref (ad 27)) (C := RX12) (T := TX12) (N := 100) hx hb hg inX12 hown hK hP 0 rfl rfl 27 (by decide) (hg _ w1733) (fun _ h9 => h9) rfl dX12_takeNeed_111 ?_
                  refine lv_iload_n hx hb dX12_takeNeed_114 rfl (lv_at hl 2 rfl) ?_
                  refine lv_dup2_11 hx hb dX12_takeNeed_115 rfl rfl ?_
                  refine va_iald (D := D) (i := p0) hx hb hK hP 20 19 rfl rfl (i_in (a := p0.toInt) rfl (by omega)) dX12_takeNeed_116 ?_
                  refine g_top (v := (V 27 (Int32.toNatClampNeg p0))) ((up2_o hV103 (by decide)).trans ((ajV78 27 (Int32.toNatClampNeg p0) rfl).trans ((ajV57 27 (Int32.toNatClampNeg p0) rfl).trans ((up2_o hV46 (by decide)).trans ((ajV34 27 (Int32.toNatClampNeg p0) rfl).trans ((up2_o hV28 (by decide)).trans ((up2_o hV24 (by decide)).trans (ajV13 27 (Int32.toNatClampNeg p0) rfl)))))))) ?_
                  refine lv_iconst (v := 1) hx hb dX12_takeNeed_117 (by decide) ?_
                  refine lv_iadd hx hb dX12_takeNeed_118 ?_
                  refine lv_topi (fun z104 ez104 => ?_)
                  have hz104 : z104.toInt = ((V 27 (Int32.toNatClampNeg p0))).toInt + 1 := i_add ez104 rfl (by decide) (by omega)
                  refine va_iast (D := D) (i := p0) (x := z104) hx hb hK hP hD hS 20 19 rfl rfl (i_in (a := p0.toInt) rfl (by omega)) dX12_takeNeed_119 (fun H locs hP hD hS => ?_)
                  obtain ⟨V105, hV105⟩ : ∃ z, z = up2 V103 27 (Int32.toNatClampNeg p0) z104 := ⟨_, rfl⟩
                  have hP : va_P D vwCl (mw ad kk ks.1 V105 L79) H := by rw [hV105]; exact hP
                  have hD : va_D A (mw ad kk ks.1 V105 L79) := by rw [hV105]; exact hD
                  have hMV105 : rgd bM V105 := hMV103.put hV105 (show 0 ≤ z104.toInt ∧ z104.toInt ≤ 8 from by omega)
                  have agV105 : agr [(0, 7), (0, 8)] [27, 28, 29, 30, 31, 35, 36, 37, 38] V V105 := agV103.up hV105 rfl
                  have pq106 : (V105 27 (Int32.toNatClampNeg p0)).toInt = z104.toInt := congrArg Int32.toInt (up2_s hV105)
                  have pq107 : (V105 0 8).toInt = ((V78 0 8)).toInt := congrArg Int32.toInt ((up2_o hV105 (by decide)).trans (up2_o hV103 (by decide)))
                  have rw108 : RoV 35 bq V V105 := (fun k hk => ((up2_o hV105 (by decide)).trans ((up2_o hV103 (by decide)).trans ((t74 k hk).trans ((ajV57 35 k rfl).trans ((up2_o hV46 (by decide)).trans ((ajV34 35 k rfl).trans ((up2_o hV28 (by decide)).trans ((up2_o hV24 (by decide)).trans ((ajV13 35 k rfl).trans rfl))))))))))
                  have rw109 : RoV 37 bq V V105 := (fun k hk => ((up2_o hV105 (by decide)).trans ((up2_o hV103 (by decide)).trans ((t75 k hk).trans ((ajV57 37 k rfl).trans ((up2_o hV46 (by decide)).trans ((ajV34 37 k rfl).trans ((up2_o hV28 (by decide)).trans ((up2_o hV24 (by decide)).trans ((ajV13 37 k rfl).trans rfl))))))))))
                  have rw110 : RoL 36 20 bq L L79 := (fun k hk => ((t76 k hk).trans rfl))
                  have rw111 : RoL 38 20 bq L L79 := (fun k hk => ((t77 k hk).trans rfl))
                  exact W.vret hx hb hr (fun t ht hW => ⟨⟨(V105, L79), rfl, ⟨hMV105, agV105, alL79, (show (V105 27 gc).toInt = (V 27 gc).toInt + 1 from by rw [← kgc]; omega), (Or.inr ⟨(show 1 ≤ (V105 0 8).toInt from by omega), (fun k => by rw [show (V105 0 8).toInt = (V78 0 8).toInt from by omega]; exact hb101 k)⟩), rw108, rw109, rw110, rw111⟩, by rw [ht]; exact hP, va_K.moved hW.alike hK, hD⟩, hS.F ht⟩) hS.2.2 dX12_takeNeed_120
            · skip
              have kd112 : gT.1 ((nx (nx gs 1) 1).1 0) ≠ 133 := fun h9 => h60 (h9.trans (by decide))
              have fz113 := RelM.rg rl61
              have pq114 : (V57 0 8).toInt = ((V34 0 8)).toInt := congrArg Int32.toInt ((ajV57 0 8 rfl).trans (up2_o hV46 (by decide)))
              refine lv_if_eq (tgt := 108) hx hb dX12_takeNeed_90 (by decide) (fun c115 => ?_) (fun c115 => ?_)
              · skip
                have f116 : z53.toInt = 0 := b_eq rfl (by decide) c115
                refine lv_iconst (v := (-1)) hx hb dX12_takeNeed_108 (by decide) ?_
                refine va_iast (D := D) (i := z7) (x := (-1)) hx hb hK hP hD hS 24 23 rfl rfl (i_in (a := z7.toInt) rfl (by omega)) dX12_takeNeed_109 (fun H locs hP hD hS => ?_)
                obtain ⟨V117, hV117⟩ : ∃ z, z = up2 V57 31 (Int32.toNatClampNeg z7) (-1) := ⟨_, rfl⟩
                have hP : va_P D vwCl (mw ad kk ks.1 V117 L) H := by rw [hV117]; exact hP
                have hD : va_D A (mw ad kk ks.1 V117 L) := by rw [hV117]; exact hD
                have hMV117 : rgd bM V117 := hMV57.put hV117 (i_full _)
                have agV117 : agr [(0, 7), (0, 8)] [27, 28, 29, 30, 31, 35, 36, 37, 38] V V117 := agV57.up hV117 rfl
                refine lv_aload_n hx hb dX12_takeNeed_110 rfl (lv_at hl 1 rfl) ?_
                refine va_get (D := D) (ci := 12) (v := .ref (ad 27)) (C := RX12) (T := TX12) (N := 100) hx hb hg inX12 hown hK hP 0 rfl rfl 27 (by decide) (hg _ w1733) (fun _ h9 => h9) rfl dX12_takeNeed_111 ?_
                refine lv_iload_n hx hb dX12_takeNeed_114 rfl (lv_at hl 2 rfl) ?_
                refine lv_dup2_11 hx hb dX12_takeNeed_115 rfl rfl ?_
                refine va_iald (D := D) (i := p0) hx hb hK hP 20 19 rfl rfl (i_in (a := p0.toInt) rfl (by omega)) dX12_takeNeed_116 ?_
                refine g_top (v := (V 27 (Int32.toNatClampNeg p0))) ((up2_o hV117 (by decide)).trans ((ajV57 27 (Int32.toNatClampNeg p0) rfl).trans ((up2_o hV46 (by decide)).trans ((ajV34 27 (Int32.toNatClampNeg p0) rfl).trans ((up2_o hV28 (by decide)).trans ((up2_o hV24 (by decide)).trans (ajV13 27 (Int32.toNatClampNeg p0) rfl))))))) ?_
                refine lv_iconst (v := 1) hx hb dX12_takeNeed_117 (by decide) ?_
                refine lv_iadd hx hb dX12_takeNeed_118 ?_
                refine lv_topi (fun z118 ez118 => ?_)
                have hz118 : z118.toInt = ((V 27 (Int32.toNatClampNeg p0))).toInt + 1 := i_add ez118 rfl (by decide) (by omega)
                refine va_iast (D := D) (i := p0) (x := z118) hx hb hK hP hD hS 20 19 rfl rfl (i_in (a := p0.toInt) rfl (by omega)) dX12_takeNeed_119 (fun H locs hP hD hS => ?_)
                obtain ⟨V119, hV119⟩ : ∃ z, z = up2 V117 27 (Int32.toNatClampNeg p0) z118 := ⟨_, rfl⟩
                have hP : va_P D vwCl (mw ad kk ks.1 V119 L) H := by rw [hV119]; exact hP
                have hD : va_D A (mw ad kk ks.1 V119 L) := by rw [hV119]; exact hD
                have hMV119 : rgd bM V119 := hMV117.put hV119 (show 0 ≤ z118.toInt ∧ z118.toInt ≤ 8 from by omega)
                have agV119 : agr [(0, 7), (0, 8)] [27, 28, 29, 30, 31, 35, 36, 37, 38] V V119 := agV117.up hV119 rfl
                have pq120 : (V119 27 (Int32.toNatClampNeg p0)).toInt = z118.toInt := congrArg Int32.toInt (up2_s hV119)
                have hr121 : ∀ k, Rc gT (Crun gs (IneedK :: k)) (Crun (nx (nx gs 1) 1) (Itake 59 :: IaddNeed :: Imember :: k)) := fun k => Rc.go1 (hr42 k) (called_n  kd112)
                have rl122 : RelM V119 L bq gn gT (nx (nx gs 1) 1) gl := RelM.ag rl61 (show agr [] [27, 31] V57 V119 from (agr.up (agr.up agr.rf hV117 rfl) hV119 rfl)) (by decide) (show agL [] L L from agL.rf) (by decide)
                have rw123 : RoV 35 bq V V119 := (fun k hk => ((up2_o hV119 (by decide)).trans ((up2_o hV117 (by decide)).trans ((ajV57 35 k rfl).trans ((up2_o hV46 (by decide)).trans ((ajV34 35 k rfl).trans ((up2_o hV28 (by decide)).trans ((up2_o hV24 (by decide)).trans ((ajV13 35 k rfl).trans rfl)))))))))
                have rw124 : RoV 37 bq V V119 := (fun k hk => ((up2_o hV119 (by decide)).trans ((up2_o hV117 (by decide)).trans ((ajV57 37 k rfl).trans ((up2_o hV46 (by decide)).trans ((ajV34 37 k rfl).trans ((up2_o hV28 (by decide)).trans ((up2_o hV24 (by decide)).trans ((ajV13 37 k rfl).trans rfl)))))))))
                have rw125 : RoL 36 20 bq L L := (fun k hk => rfl)
                have rw126 : RoL 38 20 bq L L := (fun k hk => rfl)
                exact W.vret hx hb hr (fun t ht hW => ⟨⟨(V119, L), rfl, ⟨hMV119, agV119, alL, (show (V119 27 gc).toInt = (V 27 gc).toInt + 1 from by rw [← kgc]; omega), (Or.inl ⟨W0 rl122, (nx (nx gs 1) 1), hr121, rl122, keepS.le (keepS.tr (keepS.tr (keepS.rf : keepS gs 0 gs) (keepS.n1 1)) (keepS.n1 1)) (by decide)⟩), rw123, rw124, rw125, rw126⟩, by rw [ht]; exact hP, va_K.moved hW.alike hK, hD⟩, hS.F ht⟩) hS.2.2 dX12_takeNeed_120
              · skip
                have f127 : z53.toInt ≠ 0 := b_neq rfl (by decide) c115
                exfalso; omega
        · skip
          have hb128 : ∀ k, Rc gT (Crun gs (IneedK :: k)) (Cbad (V34 0 8).toInt) := fun k => Rc.go1 (hr20 k) (nd_b h38)
          have r129 : 0 ≤ ((V34 0 8)).toInt ∧ ((V34 0 8)).toInt ≤ 70000 := hMV34 0 8
          refine va_iast (D := D) (i := z7) (x := z30) hx hb hK hP hD hS 21 20 rfl rfl (i_in (a := z7.toInt) rfl (by omega)) dX12_takeNeed_70 (fun H locs hP hD hS => ?_)
          obtain ⟨V130, hV130⟩ : ∃ z, z = up2 V34 28 (Int32.toNatClampNeg z7) z30 := ⟨_, rfl⟩
          have hP : va_P D vwCl (mw ad kk ks.1 V130 L) H := by rw [hV130]; exact hP
          have hD : va_D A (mw ad kk ks.1 V130 L) := by rw [hV130]; exact hD
          have hMV130 : rgd bM V130 := hMV34.put hV130 (show (-1) ≤ z30.toInt ∧ z30.toInt ≤ 23 from by omega)
          have agV130 : agr [(0, 7), (0, 8)] [27, 28, 29, 30, 31, 35, 36, 37, 38] V V130 := agV34.up hV130 rfl
          refine lv_aload_n hx hb dX12_takeNeed_71 rfl (lv_at hl 1 rfl) ?_
          refine va_get (D := D) (ci := 12) (v := .ref (ad 31)) (C := RX12) (T := TX12) (N := 100) hx hb hg inX12 hown hK hP 0 rfl rfl 31 (by decide) (hg _ w1737) (fun _ h9 => h9) rfl dX12_takeNeed_72 ?_
          refine lv_iload_n hx hb dX12_takeNeed_75 rfl (lv_at hl 0 rfl) ?_
          refine lv_aload_n hx hb dX12_takeNeed_76 rfl (lv_at hl 1 rfl) ?_
          refine va_get (D := D) (ci := 12) (v := .ref (ad 30)) (C := RX12) (T := TX12) (N := 100) hx hb hg inX12 hown hK hP 0 rfl rfl 30 (by decide) (hg _ w1736) (fun _ h9 => h9) rfl dX12_takeNeed_77 ?_
          refine lv_iload_n hx hb dX12_takeNeed_80 rfl (lv_at hl 0 rfl) ?_
          refine va_zald (D := D) (i := z7) hx hb hK hP 23 22 rfl rfl (i_in (a := z7.toInt) rfl (by omega)) dX12_takeNeed_81 ?_
          refine g_top (v := (vp_nar .boolean 0)) ((up2_o hV130 (by decide)).trans ((ajV34 30 (Int32.toNatClampNeg z7) rfl).trans (up2_s hV28))) ?_
          have nr131 : (vp_nar .boolean 0).toInt = 0 := by decide
          refine lv_if_ne (tgt := 108) hx hb dX12_takeNeed_82 (by decide) (fun c132 => ?_) (fun c132 => ?_)
          · skip
            have f133 : ((vp_nar .boolean 0)).toInt ≠ 0 := b_neq rfl (by decide) c132
            exfalso; omega
          · skip
            have f134 : ((vp_nar .boolean 0)).toInt = 0 := b_eq rfl (by decide) c132
            refine lv_aload_n hx hb dX12_takeNeed_85 rfl (lv_at hl 1 rfl) ?_
            refine lv_iconst (v := 5) hx hb dX12_takeNeed_86 (by decide) ?_
            have r135 : Int32.toInt 5 = 5 := by decide
            have pq136 : (V130 0 8).toInt = ((V34 0 8)).toInt := congrArg Int32.toInt (up2_o hV130 (by decide))
            refine gA_int (gA_runV (As := [.int 5]) (rest := [.int z7, .ref (ad 31)]) (ci := 12) (q0 := 0) hx hb hml hown hg hP hD hK hS hA hnw hgk (s_hasWordB l D ks H.size ad kk V130 L 5 hMV130 (by decide) (show 1 ≤ (V130 0 8).toInt from by omega)) w2051 w2053 w90 w172 w2054 rfl rfl hdV_yX12_hasWord ⟨Nat.le_of_ble_eq_true rfl, Nat.le_of_ble_eq_true rfl⟩ rfl hl.1 rfl (Nat.le_of_ble_eq_true rfl) dX12_takeNeed_87 ⟨Nat.le_of_ble_eq_true rfl, Nat.le_of_ble_eq_true rfl⟩) hP hD hK hS hA (fun z137 u138 H locs w139 hP hD hK hS => ?_)
            obtain ⟨V141, L142⟩ := u138
            obtain ⟨hMV141, ajV141, axL142, rgz137, t140⟩ := w139
            have axL142 : L = L142 := Eq.symm axL142
            subst axL142
            have hP : va_P D vwCl (mw ad kk ks.1 V141 L) H := hP
            have hD : va_D A (mw ad kk ks.1 V141 L) := hD
            have hMV141 : rgd bM V141 := hMV141
            have ajV141 : agr [(0, 7)] [] V130 V141 := ajV141
            have agV141 : agr [(0, 7), (0, 8)] [27, 28, 29, 30, 31, 35, 36, 37, 38] V V141 := agV130.tr ajV141 (by decide) (by decide)
            have rgz137 : 0 ≤ z137.toInt ∧ z137.toInt ≤ 0 := rgz137
            have t140 : (V141 0 8).toInt = (V130 0 8).toInt := t140
            have pq143 : (V141 0 8).toInt = ((V34 0 8)).toInt := congrArg Int32.toInt ((ajV141 0 8 rfl).trans (up2_o hV130 (by decide)))
            refine lv_if_eq (tgt := 108) hx hb dX12_takeNeed_90 (by decide) (fun c144 => ?_) (fun c144 => ?_)
            · skip
              have f145 : z137.toInt = 0 := b_eq rfl (by decide) c144
              refine lv_iconst (v := (-1)) hx hb dX12_takeNeed_108 (by decide) ?_
              refine va_iast (D := D) (i := z7) (x := (-1)) hx hb hK hP hD hS 24 23 rfl rfl (i_in (a := z7.toInt) rfl (by omega)) dX12_takeNeed_109 (fun H locs hP hD hS => ?_)
              obtain ⟨V146, hV146⟩ : ∃ z, z = up2 V141 31 (Int32.toNatClampNeg z7) (-1) := ⟨_, rfl⟩
              have hP : va_P D vwCl (mw ad kk ks.1 V146 L) H := by rw [hV146]; exact hP
              have hD : va_D A (mw ad kk ks.1 V146 L) := by rw [hV146]; exact hD
              have hMV146 : rgd bM V146 := hMV141.put hV146 (i_full _)
              have agV146 : agr [(0, 7), (0, 8)] [27, 28, 29, 30, 31, 35, 36, 37, 38] V V146 := agV141.up hV146 rfl
              refine lv_aload_n hx hb dX12_takeNeed_110 rfl (lv_at hl 1 rfl) ?_
              refine va_get (D := D) (ci := 12) (v := .ref (ad 27)) (C := RX12) (T := TX12) (N := 100) hx hb hg inX12 hown hK hP 0 rfl rfl 27 (by decide) (hg _ w1733) (fun _ h9 => h9) rfl dX12_takeNeed_111 ?_
              refine lv_iload_n hx hb dX12_takeNeed_114 rfl (lv_at hl 2 rfl) ?_
              refine lv_dup2_11 hx hb dX12_takeNeed_115 rfl rfl ?_
              refine va_iald (D := D) (i := p0) hx hb hK hP 20 19 rfl rfl (i_in (a := p0.toInt) rfl (by omega)) dX12_takeNeed_116 ?_
              refine g_top (v := (V 27 (Int32.toNatClampNeg p0))) ((up2_o hV146 (by decide)).trans ((ajV141 27 (Int32.toNatClampNeg p0) rfl).trans ((up2_o hV130 (by decide)).trans ((ajV34 27 (Int32.toNatClampNeg p0) rfl).trans ((up2_o hV28 (by decide)).trans ((up2_o hV24 (by decide)).trans (ajV13 27 (Int32.toNatClampNeg p0) rfl))))))) ?_
              refine lv_iconst (v := 1) hx hb dX12_takeNeed_117 (by decide) ?_
              refine lv_iadd hx hb dX12_takeNeed_118 ?_
              refine lv_topi (fun z147 ez147 => ?_)
              have hz147 : z147.toInt = ((V 27 (Int32.toNatClampNeg p0))).toInt + 1 := i_add ez147 rfl (by decide) (by omega)
              refine va_iast (D := D) (i := p0) (x := z147) hx hb hK hP hD hS 20 19 rfl rfl (i_in (a := p0.toInt) rfl (by omega)) dX12_takeNeed_119 (fun H locs hP hD hS => ?_)
              obtain ⟨V148, hV148⟩ : ∃ z, z = up2 V146 27 (Int32.toNatClampNeg p0) z147 := ⟨_, rfl⟩
              have hP : va_P D vwCl (mw ad kk ks.1 V148 L) H := by rw [hV148]; exact hP
              have hD : va_D A (mw ad kk ks.1 V148 L) := by rw [hV148]; exact hD
              have hMV148 : rgd bM V148 := hMV146.put hV148 (show 0 ≤ z147.toInt ∧ z147.toInt ≤ 8 from by omega)
              have agV148 : agr [(0, 7), (0, 8)] [27, 28, 29, 30, 31, 35, 36, 37, 38] V V148 := agV146.up hV148 rfl
              have pq149 : (V148 27 (Int32.toNatClampNeg p0)).toInt = z147.toInt := congrArg Int32.toInt (up2_s hV148)
              have pq150 : (V148 0 8).toInt = ((V34 0 8)).toInt := congrArg Int32.toInt ((up2_o hV148 (by decide)).trans ((up2_o hV146 (by decide)).trans ((ajV141 0 8 rfl).trans (up2_o hV130 (by decide)))))
              have rw151 : RoV 35 bq V V148 := (fun k hk => ((up2_o hV148 (by decide)).trans ((up2_o hV146 (by decide)).trans ((ajV141 35 k rfl).trans ((up2_o hV130 (by decide)).trans ((ajV34 35 k rfl).trans ((up2_o hV28 (by decide)).trans ((up2_o hV24 (by decide)).trans ((ajV13 35 k rfl).trans rfl)))))))))
              have rw152 : RoV 37 bq V V148 := (fun k hk => ((up2_o hV148 (by decide)).trans ((up2_o hV146 (by decide)).trans ((ajV141 37 k rfl).trans ((up2_o hV130 (by decide)).trans ((ajV34 37 k rfl).trans ((up2_o hV28 (by decide)).trans ((up2_o hV24 (by decide)).trans ((ajV13 37 k rfl).trans rfl)))))))))
              have rw153 : RoL 36 20 bq L L := (fun k hk => rfl)
              have rw154 : RoL 38 20 bq L L := (fun k hk => rfl)
              exact W.vret hx hb hr (fun t ht hW => ⟨⟨(V148, L), rfl, ⟨hMV148, agV148, alL, (show (V148 27 gc).toInt = (V 27 gc).toInt + 1 from by rw [← kgc]; omega), (Or.inr ⟨(show 1 ≤ (V148 0 8).toInt from by omega), (fun k => by rw [show (V148 0 8).toInt = (V34 0 8).toInt from by omega]; exact hb128 k)⟩), rw151, rw152, rw153, rw154⟩, by rw [ht]; exact hP, va_K.moved hW.alike hK, hD⟩, hS.F ht⟩) hS.2.2 dX12_takeNeed_120
            · skip
              have f155 : z137.toInt ≠ 0 := b_neq rfl (by decide) c144
              exfalso; omega
      · skip
        have f156 : ((vp_nar .boolean z9)).toInt = 0 := b_eq rfl (by decide) c26
        exfalso; omega
    · skip
      have kd157 : gT.1 (gs.1 0) ≠ 138 := fun h9 => h16 (h9.trans (by decide))
      have fz158 := RelM.rg rl17
      have pq159 : (V13 0 8).toInt = ((V 0 8)).toInt := congrArg Int32.toInt (ajV13 0 8 rfl)
      refine va_zast (D := D) (i := z7) (x := z9) hx hb hK hP hD hS 22 21 rfl rfl (i_in (a := z7.toInt) rfl (by omega)) dX12_takeNeed_31 (fun H locs hP hD hS => ?_)
      obtain ⟨V160, hV160⟩ : ∃ z, z = up2 V13 29 (Int32.toNatClampNeg z7) (vp_nar .boolean z9) := ⟨_, rfl⟩
      have hP : va_P D vwCl (mw ad kk ks.1 V160 L) H := by rw [hV160]; exact hP
      have hD : va_D A (mw ad kk ks.1 V160 L) := by rw [hV160]; exact hD
      have hMV160 : rgd bM V160 := hMV13.put hV160 (nar_b _)
      have agV160 : agr [(0, 7), (0, 8)] [27, 28, 29, 30, 31, 35, 36, 37, 38] V V160 := agV13.up hV160 rfl
      refine lv_aload_n hx hb dX12_takeNeed_32 rfl (lv_at hl 1 rfl) ?_
      refine va_get (D := D) (ci := 12) (v := .ref (ad 30)) (C := RX12) (T := TX12) (N := 100) hx hb hg inX12 hown hK hP 0 rfl rfl 30 (by decide) (hg _ w1736) (fun _ h9 => h9) rfl dX12_takeNeed_33 ?_
      refine lv_iload_n hx hb dX12_takeNeed_36 rfl (lv_at hl 0 rfl) ?_
      refine lv_aload_n hx hb dX12_takeNeed_37 rfl (lv_at hl 1 rfl) ?_
      refine va_get (D := D) (ci := 12) (v := .ref (ad 29)) (C := RX12) (T := TX12) (N := 100) hx hb hg inX12 hown hK hP 0 rfl rfl 29 (by decide) (hg _ w1735) (fun _ h9 => h9) rfl dX12_takeNeed_38 ?_
      refine lv_iload_n hx hb dX12_takeNeed_41 rfl (lv_at hl 0 rfl) ?_
      refine va_zald (D := D) (i := z7) hx hb hK hP 22 21 rfl rfl (i_in (a := z7.toInt) rfl (by omega)) dX12_takeNeed_42 ?_
      refine g_top (v := (vp_nar .boolean z9)) (up2_s hV160) ?_
      have nr161 : (vp_nar .boolean z9).toInt = z9.toInt := nar_01 (by omega)
      refine lv_if_ne (tgt := 59) hx hb dX12_takeNeed_43 (by decide) (fun c162 => ?_) (fun c162 => ?_)
      · skip
        have f163 : ((vp_nar .boolean z9)).toInt ≠ 0 := b_neq rfl (by decide) c162
        exfalso; omega
      · skip
        have f164 : ((vp_nar .boolean z9)).toInt = 0 := b_eq rfl (by decide) c162
        refine lv_aload_n hx hb dX12_takeNeed_46 rfl (lv_at hl 1 rfl) ?_
        refine lv_bipush (v := 11) hx hb dX12_takeNeed_47 (by decide) ?_
        have rl165 : RelM V160 L bq gn gT gs gl := RelM.ag rl17 (show agr [] [29] V13 V160 from (agr.up agr.rf hV160 rfl)) (by decide) (show agL [] L L from agL.rf) (by decide)
        have r166 : Int32.toInt 11 = 11 := by decide
        refine gA_int (gA_runV (As := [.int 11]) (rest := [.int z7, .ref (ad 30)]) (ci := 12) (q0 := 0) hx hb hml hown hg hP hD hK hS hA hnw hgk (s_hasWordA l D ks H.size ad kk V160 L 11 (bq) (gn) (gT) (gs) (gl) hMV160 (by decide) rl165) w2051 w2053 w90 w172 w2054 rfl rfl hdV_yX12_hasWord ⟨Nat.le_of_ble_eq_true rfl, Nat.le_of_ble_eq_true rfl⟩ rfl hl.1 rfl (Nat.le_of_ble_eq_true rfl) dX12_takeNeed_49 ⟨Nat.le_of_ble_eq_true rfl, Nat.le_of_ble_eq_true rfl⟩) hP hD hK hS hA (fun z167 u168 H locs w169 hP hD hK hS => ?_)
        obtain ⟨V171, L172⟩ := u168
        obtain ⟨hMV171, ajV171, axL172, rgz167, t170⟩ := w169
        have axL172 : L = L172 := Eq.symm axL172
        subst axL172
        have hP : va_P D vwCl (mw ad kk ks.1 V171 L) H := hP
        have hD : va_D A (mw ad kk ks.1 V171 L) := hD
        have hMV171 : rgd bM V171 := hMV171
        have ajV171 : agr [(0, 7)] [] V160 V171 := ajV171
        have agV171 : agr [(0, 7), (0, 8)] [27, 28, 29, 30, 31, 35, 36, 37, 38] V V171 := agV160.tr ajV171 (by decide) (by decide)
        have rgz167 : 0 ≤ z167.toInt ∧ z167.toInt ≤ 1 := rgz167
        have t170 : (z167.toInt = 1 ∧ (gT).1 ((gs).1 0) = 128 + (Int32.toInt 11) ∧ RelM V171 L (bq) (gn) (gT) (nx (gs) 1) (gl)) ∨ (z167.toInt = 0 ∧ (gT).1 ((gs).1 0) ≠ 128 + (Int32.toInt 11) ∧ RelM V171 L (bq) (gn) (gT) (gs) (gl)) := t170
        rcases t170 with ⟨q173, h174, rl175⟩ | ⟨q173, h174, rl175⟩
        · skip
          have kd176 : gT.1 (gs.1 0) = 139 := h174.trans (by decide)
          have hr177 : ∀ k, Rc gT (Crun gs (IneedK :: k)) (Crun gs (IneedK :: k)) := fun k => Rc.rf
          have hr178 : ∀ k, Rc gT (Crun gs (IneedK :: k)) (Crun (nx gs 1) (IneedT 1 :: k)) := fun k => Rc.go1 (hr177 k) (needK_a kd176)
          have ps179 : (nx gs 1).1 0 = gs.1 0 + 1 := rfl
          have fz180 := RelM.rg rl175
          have pq181 : (V171 0 8).toInt = ((V 0 8)).toInt := congrArg Int32.toInt ((ajV171 0 8 rfl).trans ((up2_o hV160 (by decide)).trans (ajV13 0 8 rfl)))
          refine lv_if_eq (tgt := 59) hx hb dX12_takeNeed_52 (by decide) (fun c182 => ?_) (fun c182 => ?_)
          · skip
            have f183 : z167.toInt = 0 := b_eq rfl (by decide) c182
            exfalso; omega
          · skip
            have f184 : z167.toInt ≠ 0 := b_neq rfl (by decide) c182
            refine lv_iconst (v := 1) hx hb dX12_takeNeed_55 (by decide) ?_
            refine lv_goto (tgt := 60) hx hb dX12_takeNeed_56 (by decide) ?_
            refine va_zast (D := D) (i := z7) (x := 1) hx hb hK hP hD hS 23 22 rfl rfl (i_in (a := z7.toInt) rfl (by omega)) dX12_takeNeed_60 (fun H locs hP hD hS => ?_)
            obtain ⟨V185, hV185⟩ : ∃ z, z = up2 V171 30 (Int32.toNatClampNeg z7) (vp_nar .boolean 1) := ⟨_, rfl⟩
            have hP : va_P D vwCl (mw ad kk ks.1 V185 L) H := by rw [hV185]; exact hP
            have hD : va_D A (mw ad kk ks.1 V185 L) := by rw [hV185]; exact hD
            have hMV185 : rgd bM V185 := hMV171.put hV185 (nar_b _)
            have agV185 : agr [(0, 7), (0, 8)] [27, 28, 29, 30, 31, 35, 36, 37, 38] V V185 := agV171.up hV185 rfl
            refine lv_aload_n hx hb dX12_takeNeed_61 rfl (lv_at hl 1 rfl) ?_
            refine va_get (D := D) (ci := 12) (v := .ref (ad 28)) (C := RX12) (T := TX12) (N := 100) hx hb hg inX12 hown hK hP 0 rfl rfl 28 (by decide) (hg _ w1734) (fun _ h9 => h9) rfl dX12_takeNeed_62 ?_
            refine lv_iload_n hx hb dX12_takeNeed_65 rfl (lv_at hl 0 rfl) ?_
            refine lv_aload_n hx hb dX12_takeNeed_66 rfl (lv_at hl 1 rfl) ?_
            have rl186 : RelM V185 L bq gn gT (nx gs 1) gl := RelM.ag rl175 (show agr [] [30] V171 V185 from (agr.up agr.rf hV185 rfl)) (by decide) (show agL [] L L from agL.rf) (by decide)
            refine gA_int (gA_runV (As := []) (rest := [.int z7, .ref (ad 28)]) (ci := 12) (q0 := 0) hx hb hml hown hg hP hD hK hS hA hnw hgk (s_takeTypeA l D ks H.size ad kk V185 L (bq) (gn) (gT) ((nx gs 1)) (gl) hMV185 rl186) w2059 w2061 w92 w172 w2062 rfl rfl hdV_yX12_takeType ⟨Nat.le_of_ble_eq_true rfl, Nat.le_of_ble_eq_true rfl⟩ rfl hl.1 rfl (Nat.le_of_ble_eq_true rfl) dX12_takeNeed_67 ⟨Nat.le_of_ble_eq_true rfl, Nat.le_of_ble_eq_true rfl⟩) hP hD hK hS hA (fun z187 u188 H locs w189 hP hD hK hS => ?_)
            obtain ⟨V191, L192⟩ := u188
            obtain ⟨hMV191, ajV191, axL192, rgz187, t190⟩ := w189
            have axL192 : L = L192 := Eq.symm axL192
            subst axL192
            have hP : va_P D vwCl (mw ad kk ks.1 V191 L) H := hP
            have hD : va_D A (mw ad kk ks.1 V191 L) := hD
            have hMV191 : rgd bM V191 := hMV191
            have ajV191 : agr [(0, 7), (0, 8)] [] V185 V191 := ajV191
            have agV191 : agr [(0, 7), (0, 8)] [27, 28, 29, 30, 31, 35, 36, 37, 38] V V191 := agV185.tr ajV191 (by decide) (by decide)
            have rgz187 : (-1) ≤ z187.toInt ∧ z187.toInt ≤ 23 := rgz187
            have t190 : KmN (look (gT) ((nx gs 1)) (((nx gs 1)).2.1 0)) (V191 0 8).toInt (fun f9 => RelM V191 L (bq) (gn) (gT) (nx ((nx gs 1)) 1) (gl) ∧ z187.toInt = ((f9 : Nat) : Int) ∧ f9 < 24) := t190
            rcases t190 with ⟨q193, fx194, h195, rl196, hf197, hb198⟩ | ⟨q193, h195⟩
            · skip
              have hr199 : ∀ k, Rc gT (Crun gs (IneedK :: k)) (Crun (nx (nx gs 1) 1) (Itake 59 :: IaddNeed :: Imember :: k)) := fun k => Rc.go1 (hr178 k) (nd_1 h195)
              have ps200 : (nx (nx gs 1) 1).1 0 = (nx gs 1).1 0 + 1 := rfl
              have fz201 := RelM.rg rl196
              have r202 : 0 ≤ ((V191 0 8)).toInt ∧ ((V191 0 8)).toInt ≤ 70000 := hMV191 0 8
              refine va_iast (D := D) (i := z7) (x := z187) hx hb hK hP hD hS 21 20 rfl rfl (i_in (a := z7.toInt) rfl (by omega)) dX12_takeNeed_70 (fun H locs hP hD hS => ?_)
              obtain ⟨V203, hV203⟩ : ∃ z, z = up2 V191 28 (Int32.toNatClampNeg z7) z187 := ⟨_, rfl⟩
              have hP : va_P D vwCl (mw ad kk ks.1 V203 L) H := by rw [hV203]; exact hP
              have hD : va_D A (mw ad kk ks.1 V203 L) := by rw [hV203]; exact hD
              have hMV203 : rgd bM V203 := hMV191.put hV203 (show (-1) ≤ z187.toInt ∧ z187.toInt ≤ 23 from by omega)
              have agV203 : agr [(0, 7), (0, 8)] [27, 28, 29, 30, 31, 35, 36, 37, 38] V V203 := agV191.up hV203 rfl
              refine lv_aload_n hx hb dX12_takeNeed_71 rfl (lv_at hl 1 rfl) ?_
              refine va_get (D := D) (ci := 12) (v := .ref (ad 31)) (C := RX12) (T := TX12) (N := 100) hx hb hg inX12 hown hK hP 0 rfl rfl 31 (by decide) (hg _ w1737) (fun _ h9 => h9) rfl dX12_takeNeed_72 ?_
              refine lv_iload_n hx hb dX12_takeNeed_75 rfl (lv_at hl 0 rfl) ?_
              refine lv_aload_n hx hb dX12_takeNeed_76 rfl (lv_at hl 1 rfl) ?_
              refine va_get (D := D) (ci := 12) (v := .ref (ad 30)) (C := RX12) (T := TX12) (N := 100) hx hb hg inX12 hown hK hP 0 rfl rfl 30 (by decide) (hg _ w1736) (fun _ h9 => h9) rfl dX12_takeNeed_77 ?_
              refine lv_iload_n hx hb dX12_takeNeed_80 rfl (lv_at hl 0 rfl) ?_
              refine va_zald (D := D) (i := z7) hx hb hK hP 23 22 rfl rfl (i_in (a := z7.toInt) rfl (by omega)) dX12_takeNeed_81 ?_
              refine g_top (v := (vp_nar .boolean 1)) ((up2_o hV203 (by decide)).trans ((ajV191 30 (Int32.toNatClampNeg z7) rfl).trans (up2_s hV185))) ?_
              have nr204 : (vp_nar .boolean 1).toInt = 1 := by decide
              refine lv_if_ne (tgt := 108) hx hb dX12_takeNeed_82 (by decide) (fun c205 => ?_) (fun c205 => ?_)
              · skip
                have f206 : ((vp_nar .boolean 1)).toInt ≠ 0 := b_neq rfl (by decide) c205
                refine lv_iconst (v := (-1)) hx hb dX12_takeNeed_108 (by decide) ?_
                refine va_iast (D := D) (i := z7) (x := (-1)) hx hb hK hP hD hS 24 23 rfl rfl (i_in (a := z7.toInt) rfl (by omega)) dX12_takeNeed_109 (fun H locs hP hD hS => ?_)
                obtain ⟨V207, hV207⟩ : ∃ z, z = up2 V203 31 (Int32.toNatClampNeg z7) (-1) := ⟨_, rfl⟩
                have hP : va_P D vwCl (mw ad kk ks.1 V207 L) H := by rw [hV207]; exact hP
                have hD : va_D A (mw ad kk ks.1 V207 L) := by rw [hV207]; exact hD
                have hMV207 : rgd bM V207 := hMV203.put hV207 (i_full _)
                have agV207 : agr [(0, 7), (0, 8)] [27, 28, 29, 30, 31, 35, 36, 37, 38] V V207 := agV203.up hV207 rfl
                refine lv_aload_n hx hb dX12_takeNeed_110 rfl (lv_at hl 1 rfl) ?_
                refine va_get (D := D) (ci := 12) (v := .ref (ad 27)) (C := RX12) (T := TX12) (N := 100) hx hb hg inX12 hown hK hP 0 rfl rfl 27 (by decide) (hg _ w1733) (fun _ h9 => h9) rfl dX12_takeNeed_111 ?_
                refine lv_iload_n hx hb dX12_takeNeed_114 rfl (lv_at hl 2 rfl) ?_
                refine lv_dup2_11 hx hb dX12_takeNeed_115 rfl rfl ?_
                refine va_iald (D := D) (i := p0) hx hb hK hP 20 19 rfl rfl (i_in (a := p0.toInt) rfl (by omega)) dX12_takeNeed_116 ?_
                refine g_top (v := (V 27 (Int32.toNatClampNeg p0))) ((up2_o hV207 (by decide)).trans ((up2_o hV203 (by decide)).trans ((ajV191 27 (Int32.toNatClampNeg p0) rfl).trans ((up2_o hV185 (by decide)).trans ((ajV171 27 (Int32.toNatClampNeg p0) rfl).trans ((up2_o hV160 (by decide)).trans (ajV13 27 (Int32.toNatClampNeg p0) rfl))))))) ?_
                refine lv_iconst (v := 1) hx hb dX12_takeNeed_117 (by decide) ?_
                refine lv_iadd hx hb dX12_takeNeed_118 ?_
                refine lv_topi (fun z208 ez208 => ?_)
                have hz208 : z208.toInt = ((V 27 (Int32.toNatClampNeg p0))).toInt + 1 := i_add ez208 rfl (by decide) (by omega)
                refine va_iast (D := D) (i := p0) (x := z208) hx hb hK hP hD hS 20 19 rfl rfl (i_in (a := p0.toInt) rfl (by omega)) dX12_takeNeed_119 (fun H locs hP hD hS => ?_)
                obtain ⟨V209, hV209⟩ : ∃ z, z = up2 V207 27 (Int32.toNatClampNeg p0) z208 := ⟨_, rfl⟩
                have hP : va_P D vwCl (mw ad kk ks.1 V209 L) H := by rw [hV209]; exact hP
                have hD : va_D A (mw ad kk ks.1 V209 L) := by rw [hV209]; exact hD
                have hMV209 : rgd bM V209 := hMV207.put hV209 (show 0 ≤ z208.toInt ∧ z208.toInt ≤ 8 from by omega)
                have agV209 : agr [(0, 7), (0, 8)] [27, 28, 29, 30, 31, 35, 36, 37, 38] V V209 := agV207.up hV209 rfl
                have pq210 : (V209 27 (Int32.toNatClampNeg p0)).toInt = z208.toInt := congrArg Int32.toInt (up2_s hV209)
                have rl211 : RelM V209 L bq gn gT (nx (nx gs 1) 1) gl := RelM.ag rl196 (show agr [] [27, 28, 31] V191 V209 from (agr.up (agr.up (agr.up agr.rf hV203 rfl) hV207 rfl) hV209 rfl)) (by decide) (show agL [] L L from agL.rf) (by decide)
                have rw212 : RoV 35 bq V V209 := (fun k hk => ((up2_o hV209 (by decide)).trans ((up2_o hV207 (by decide)).trans ((up2_o hV203 (by decide)).trans ((ajV191 35 k rfl).trans ((up2_o hV185 (by decide)).trans ((ajV171 35 k rfl).trans ((up2_o hV160 (by decide)).trans ((ajV13 35 k rfl).trans rfl)))))))))
                have rw213 : RoV 37 bq V V209 := (fun k hk => ((up2_o hV209 (by decide)).trans ((up2_o hV207 (by decide)).trans ((up2_o hV203 (by decide)).trans ((ajV191 37 k rfl).trans ((up2_o hV185 (by decide)).trans ((ajV171 37 k rfl).trans ((up2_o hV160 (by decide)).trans ((ajV13 37 k rfl).trans rfl)))))))))
                have rw214 : RoL 36 20 bq L L := (fun k hk => rfl)
                have rw215 : RoL 38 20 bq L L := (fun k hk => rfl)
                exact W.vret hx hb hr (fun t ht hW => ⟨⟨(V209, L), rfl, ⟨hMV209, agV209, alL, (show (V209 27 gc).toInt = (V 27 gc).toInt + 1 from by rw [← kgc]; omega), (Or.inl ⟨W0 rl211, (nx (nx gs 1) 1), hr199, rl211, keepS.le (keepS.tr (keepS.tr (keepS.rf : keepS gs 0 gs) (keepS.n1 1)) (keepS.n1 1)) (by decide)⟩), rw212, rw213, rw214, rw215⟩, by rw [ht]; exact hP, va_K.moved hW.alike hK, hD⟩, hS.F ht⟩) hS.2.2 dX12_takeNeed_120
              · skip
                have f216 : ((vp_nar .boolean 1)).toInt = 0 := b_eq rfl (by decide) c205
                exfalso; omega
            · skip
              have hb217 : ∀ k, Rc gT (Crun gs (IneedK :: k)) (Cbad (V191 0 8).toInt) := fun k => Rc.go1 (hr178 k) (nd_b h195)
              have r218 : 0 ≤ ((V191 0 8)).toInt ∧ ((V191 0 8)).toInt ≤ 70000 := hMV191 0 8
              refine va_iast (D := D) (i := z7) (x := z187) hx hb hK hP hD hS 21 20 rfl rfl (i_in (a := z7.toInt) rfl (by omega)) dX12_takeNeed_70 (fun H locs hP hD hS => ?_)
              obtain ⟨V219, hV219⟩ : ∃ z, z = up2 V191 28 (Int32.toNatClampNeg z7) z187 := ⟨_, rfl⟩
              have hP : va_P D vwCl (mw ad kk ks.1 V219 L) H := by rw [hV219]; exact hP
              have hD : va_D A (mw ad kk ks.1 V219 L) := by rw [hV219]; exact hD
              have hMV219 : rgd bM V219 := hMV191.put hV219 (show (-1) ≤ z187.toInt ∧ z187.toInt ≤ 23 from by omega)
              have agV219 : agr [(0, 7), (0, 8)] [27, 28, 29, 30, 31, 35, 36, 37, 38] V V219 := agV191.up hV219 rfl
              refine lv_aload_n hx hb dX12_takeNeed_71 rfl (lv_at hl 1 rfl) ?_
              refine va_get (D := D) (ci := 12) (v := .ref (ad 31)) (C := RX12) (T := TX12) (N := 100) hx hb hg inX12 hown hK hP 0 rfl rfl 31 (by decide) (hg _ w1737) (fun _ h9 => h9) rfl dX12_takeNeed_72 ?_
              refine lv_iload_n hx hb dX12_takeNeed_75 rfl (lv_at hl 0 rfl) ?_
              refine lv_aload_n hx hb dX12_takeNeed_76 rfl (lv_at hl 1 rfl) ?_
              refine va_get (D := D) (ci := 12) (v := .ref (ad 30)) (C := RX12) (T := TX12) (N := 100) hx hb hg inX12 hown hK hP 0 rfl rfl 30 (by decide) (hg _ w1736) (fun _ h9 => h9) rfl dX12_takeNeed_77 ?_
              refine lv_iload_n hx hb dX12_takeNeed_80 rfl (lv_at hl 0 rfl) ?_
              refine va_zald (D := D) (i := z7) hx hb hK hP 23 22 rfl rfl (i_in (a := z7.toInt) rfl (by omega)) dX12_takeNeed_81 ?_
              refine g_top (v := (vp_nar .boolean 1)) ((up2_o hV219 (by decide)).trans ((ajV191 30 (Int32.toNatClampNeg z7) rfl).trans (up2_s hV185))) ?_
              have nr220 : (vp_nar .boolean 1).toInt = 1 := by decide
              refine lv_if_ne (tgt := 108) hx hb dX12_takeNeed_82 (by decide) (fun c221 => ?_) (fun c221 => ?_)
              · skip
                have f222 : ((vp_nar .boolean 1)).toInt ≠ 0 := b_neq rfl (by decide) c221
                refine lv_iconst (v := (-1)) hx hb dX12_takeNeed_108 (by decide) ?_
                refine va_iast (D := D) (i := z7) (x := (-1)) hx hb hK hP hD hS 24 23 rfl rfl (i_in (a := z7.toInt) rfl (by omega)) dX12_takeNeed_109 (fun H locs hP hD hS => ?_)
                obtain ⟨V223, hV223⟩ : ∃ z, z = up2 V219 31 (Int32.toNatClampNeg z7) (-1) := ⟨_, rfl⟩
                have hP : va_P D vwCl (mw ad kk ks.1 V223 L) H := by rw [hV223]; exact hP
                have hD : va_D A (mw ad kk ks.1 V223 L) := by rw [hV223]; exact hD
                have hMV223 : rgd bM V223 := hMV219.put hV223 (i_full _)
                have agV223 : agr [(0, 7), (0, 8)] [27, 28, 29, 30, 31, 35, 36, 37, 38] V V223 := agV219.up hV223 rfl
                refine lv_aload_n hx hb dX12_takeNeed_110 rfl (lv_at hl 1 rfl) ?_
                refine va_get (D := D) (ci := 12) (v := .ref (ad 27)) (C := RX12) (T := TX12) (N := 100) hx hb hg inX12 hown hK hP 0 rfl rfl 27 (by decide) (hg _ w1733) (fun _ h9 => h9) rfl dX12_takeNeed_111 ?_
                refine lv_iload_n hx hb dX12_takeNeed_114 rfl (lv_at hl 2 rfl) ?_
                refine lv_dup2_11 hx hb dX12_takeNeed_115 rfl rfl ?_
                refine va_iald (D := D) (i := p0) hx hb hK hP 20 19 rfl rfl (i_in (a := p0.toInt) rfl (by omega)) dX12_takeNeed_116 ?_
                refine g_top (v := (V 27 (Int32.toNatClampNeg p0))) ((up2_o hV223 (by decide)).trans ((up2_o hV219 (by decide)).trans ((ajV191 27 (Int32.toNatClampNeg p0) rfl).trans ((up2_o hV185 (by decide)).trans ((ajV171 27 (Int32.toNatClampNeg p0) rfl).trans ((up2_o hV160 (by decide)).trans (ajV13 27 (Int32.toNatClampNeg p0) rfl))))))) ?_
                refine lv_iconst (v := 1) hx hb dX12_takeNeed_117 (by decide) ?_
                refine lv_iadd hx hb dX12_takeNeed_118 ?_
                refine lv_topi (fun z224 ez224 => ?_)
                have hz224 : z224.toInt = ((V 27 (Int32.toNatClampNeg p0))).toInt + 1 := i_add ez224 rfl (by decide) (by omega)
                refine va_iast (D := D) (i := p0) (x := z224) hx hb hK hP hD hS 20 19 rfl rfl (i_in (a := p0.toInt) rfl (by omega)) dX12_takeNeed_119 (fun H locs hP hD hS => ?_)
                obtain ⟨V225, hV225⟩ : ∃ z, z = up2 V223 27 (Int32.toNatClampNeg p0) z224 := ⟨_, rfl⟩
                have hP : va_P D vwCl (mw ad kk ks.1 V225 L) H := by rw [hV225]; exact hP
                have hD : va_D A (mw ad kk ks.1 V225 L) := by rw [hV225]; exact hD
                have hMV225 : rgd bM V225 := hMV223.put hV225 (show 0 ≤ z224.toInt ∧ z224.toInt ≤ 8 from by omega)
                have agV225 : agr [(0, 7), (0, 8)] [27, 28, 29, 30, 31, 35, 36, 37, 38] V V225 := agV223.up hV225 rfl
                have pq226 : (V225 27 (Int32.toNatClampNeg p0)).toInt = z224.toInt := congrArg Int32.toInt (up2_s hV225)
                have pq227 : (V225 0 8).toInt = ((V191 0 8)).toInt := congrArg Int32.toInt ((up2_o hV225 (by decide)).trans ((up2_o hV223 (by decide)).trans (up2_o hV219 (by decide))))
                have rw228 : RoV 35 bq V V225 := (fun k hk => ((up2_o hV225 (by decide)).trans ((up2_o hV223 (by decide)).trans ((up2_o hV219 (by decide)).trans ((ajV191 35 k rfl).trans ((up2_o hV185 (by decide)).trans ((ajV171 35 k rfl).trans ((up2_o hV160 (by decide)).trans ((ajV13 35 k rfl).trans rfl)))))))))
                have rw229 : RoV 37 bq V V225 := (fun k hk => ((up2_o hV225 (by decide)).trans ((up2_o hV223 (by decide)).trans ((up2_o hV219 (by decide)).trans ((ajV191 37 k rfl).trans ((up2_o hV185 (by decide)).trans ((ajV171 37 k rfl).trans ((up2_o hV160 (by decide)).trans ((ajV13 37 k rfl).trans rfl)))))))))
                have rw230 : RoL 36 20 bq L L := (fun k hk => rfl)
                have rw231 : RoL 38 20 bq L L := (fun k hk => rfl)
                exact W.vret hx hb hr (fun t ht hW => ⟨⟨(V225, L), rfl, ⟨hMV225, agV225, alL, (show (V225 27 gc).toInt = (V 27 gc).toInt + 1 from by rw [← kgc]; omega), (Or.inr ⟨(show 1 ≤ (V225 0 8).toInt from by omega), (fun k => by rw [show (V225 0 8).toInt = (V191 0 8).toInt from by omega]; exact hb217 k)⟩), rw228, rw229, rw230, rw231⟩, by rw [ht]; exact hP, va_K.moved hW.alike hK, hD⟩, hS.F ht⟩) hS.2.2 dX12_takeNeed_120
              · skip
                have f232 : ((vp_nar .boolean 1)).toInt = 0 := b_eq rfl (by decide) c221
                exfalso; omega
        · skip
          have kd233 : gT.1 (gs.1 0) ≠ 139 := fun h9 => h174 (h9.trans (by decide))
          have fz234 := RelM.rg rl175
          have pq235 : (V171 0 8).toInt = ((V 0 8)).toInt := congrArg Int32.toInt ((ajV171 0 8 rfl).trans ((up2_o hV160 (by decide)).trans (ajV13 0 8 rfl)))
          refine lv_if_eq (tgt := 59) hx hb dX12_takeNeed_52 (by decide) (fun c236 => ?_) (fun c236 => ?_)
          · skip
            have f237 : z167.toInt = 0 := b_eq rfl (by decide) c236
            refine lv_iconst (v := 0) hx hb dX12_takeNeed_59 (by decide) ?_
            refine va_zast (D := D) (i := z7) (x := 0) hx hb hK hP hD hS 23 22 rfl rfl (i_in (a := z7.toInt) rfl (by omega)) dX12_takeNeed_60 (fun H locs hP hD hS => ?_)
            obtain ⟨V238, hV238⟩ : ∃ z, z = up2 V171 30 (Int32.toNatClampNeg z7) (vp_nar .boolean 0) := ⟨_, rfl⟩
            have hP : va_P D vwCl (mw ad kk ks.1 V238 L) H := by rw [hV238]; exact hP
            have hD : va_D A (mw ad kk ks.1 V238 L) := by rw [hV238]; exact hD
            have hMV238 : rgd bM V238 := hMV171.put hV238 (nar_b _)
            have agV238 : agr [(0, 7), (0, 8)] [27, 28, 29, 30, 31, 35, 36, 37, 38] V V238 := agV171.up hV238 rfl
            refine lv_aload_n hx hb dX12_takeNeed_61 rfl (lv_at hl 1 rfl) ?_
            refine va_get (D := D) (ci := 12) (v := .ref (ad 28)) (C := RX12) (T := TX12) (N := 100) hx hb hg inX12 hown hK hP 0 rfl rfl 28 (by decide) (hg _ w1734) (fun _ h9 => h9) rfl dX12_takeNeed_62 ?_
            refine lv_iload_n hx hb dX12_takeNeed_65 rfl (lv_at hl 0 rfl) ?_
            refine lv_aload_n hx hb dX12_takeNeed_66 rfl (lv_at hl 1 rfl) ?_
            have rl239 : RelM V238 L bq gn gT gs gl := RelM.ag rl175 (show agr [] [30] V171 V238 from (agr.up agr.rf hV238 rfl)) (by decide) (show agL [] L L from agL.rf) (by decide)
            have hr240 : ∀ k, Rc gT (Crun gs (IneedK :: k)) (Crun gs (IneedK :: k)) := fun k => Rc.rf
            have hr241 : ∀ k, Rc gT (Crun gs (IneedK :: k)) (Crun gs (IneedT 0 :: k)) := fun k => Rc.go1 (hr240 k) (needK_n kd157 kd233)
            refine gA_int (gA_runV (As := []) (rest := [.int z7, .ref (ad 28)]) (ci := 12) (q0 := 0) hx hb hml hown hg hP hD hK hS hA hnw hgk (s_takeTypeA l D ks H.size ad kk V238 L (bq) (gn) (gT) (gs) (gl) hMV238 rl239) w2059 w2061 w92 w172 w2062 rfl rfl hdV_yX12_takeType ⟨Nat.le_of_ble_eq_true rfl, Nat.le_of_ble_eq_true rfl⟩ rfl hl.1 rfl (Nat.le_of_ble_eq_true rfl) dX12_takeNeed_67 ⟨Nat.le_of_ble_eq_true rfl, Nat.le_of_ble_eq_true rfl⟩) hP hD hK hS hA (fun z242 u243 H locs w244 hP hD hK hS => ?_)
            obtain ⟨V246, L247⟩ := u243
            obtain ⟨hMV246, ajV246, axL247, rgz242, t245⟩ := w244
            have axL247 : L = L247 := Eq.symm axL247
            subst axL247
            have hP : va_P D vwCl (mw ad kk ks.1 V246 L) H := hP
            have hD : va_D A (mw ad kk ks.1 V246 L) := hD
            have hMV246 : rgd bM V246 := hMV246
            have ajV246 : agr [(0, 7), (0, 8)] [] V238 V246 := ajV246
            have agV246 : agr [(0, 7), (0, 8)] [27, 28, 29, 30, 31, 35, 36, 37, 38] V V246 := agV238.tr ajV246 (by decide) (by decide)
            have rgz242 : (-1) ≤ z242.toInt ∧ z242.toInt ≤ 23 := rgz242
            have t245 : KmN (look (gT) (gs) ((gs).2.1 0)) (V246 0 8).toInt (fun f9 => RelM V246 L (bq) (gn) (gT) (nx (gs) 1) (gl) ∧ z242.toInt = ((f9 : Nat) : Int) ∧ f9 < 24) := t245
            rcases t245 with ⟨q248, fx249, h250, rl251, hf252, hb253⟩ | ⟨q248, h250⟩
            · skip
              have hr254 : ∀ k, Rc gT (Crun gs (IneedK :: k)) (Crun (nx gs 1) (Icalled :: Itake 59 :: IaddNeed :: Imember :: k)) := fun k => Rc.go1 (hr241 k) (nd_0 h250)
              have ps255 : (nx gs 1).1 0 = gs.1 0 + 1 := rfl
              have fz256 := RelM.rg rl251
              have r257 : 0 ≤ ((V246 0 8)).toInt ∧ ((V246 0 8)).toInt ≤ 70000 := hMV246 0 8
              refine va_iast (D := D) (i := z7) (x := z242) hx hb hK hP hD hS 21 20 rfl rfl (i_in (a := z7.toInt) rfl (by omega)) dX12_takeNeed_70 (fun H locs hP hD hS => ?_)
              obtain ⟨V258, hV258⟩ : ∃ z, z = up2 V246 28 (Int32.toNatClampNeg z7) z242 := ⟨_, rfl⟩
              have hP : va_P D vwCl (mw ad kk ks.1 V258 L) H := by rw [hV258]; exact hP
              have hD : va_D A (mw ad kk ks.1 V258 L) := by rw [hV258]; exact hD
              have hMV258 : rgd bM V258 := hMV246.put hV258 (show (-1) ≤ z242.toInt ∧ z242.toInt ≤ 23 from by omega)
              have agV258 : agr [(0, 7), (0, 8)] [27, 28, 29, 30, 31, 35, 36, 37, 38] V V258 := agV246.up hV258 rfl
              refine lv_aload_n hx hb dX12_takeNeed_71 rfl (lv_at hl 1 rfl) ?_
              refine va_get (D := D) (ci := 12) (v := .ref (ad 31)) (C := RX12) (T := TX12) (N := 100) hx hb hg inX12 hown hK hP 0 rfl rfl 31 (by decide) (hg _ w1737) (fun _ h9 => h9) rfl dX12_takeNeed_72 ?_
              refine lv_iload_n hx hb dX12_takeNeed_75 rfl (lv_at hl 0 rfl) ?_
              refine lv_aload_n hx hb dX12_takeNeed_76 rfl (lv_at hl 1 rfl) ?_
              refine va_get (D := D) (ci := 12) (v := .ref (ad 30)) (C := RX12) (T := TX12) (N := 100) hx hb hg inX12 hown hK hP 0 rfl rfl 30 (by decide) (hg _ w1736) (fun _ h9 => h9) rfl dX12_takeNeed_77 ?_
              refine lv_iload_n hx hb dX12_takeNeed_80 rfl (lv_at hl 0 rfl) ?_
              refine va_zald (D := D) (i := z7) hx hb hK hP 23 22 rfl rfl (i_in (a := z7.toInt) rfl (by omega)) dX12_takeNeed_81 ?_
              refine g_top (v := (vp_nar .boolean 0)) ((up2_o hV258 (by decide)).trans ((ajV246 30 (Int32.toNatClampNeg z7) rfl).trans (up2_s hV238))) ?_
              have nr259 : (vp_nar .boolean 0).toInt = 0 := by decide
              refine lv_if_ne (tgt := 108) hx hb dX12_takeNeed_82 (by decide) (fun c260 => ?_) (fun c260 => ?_)
              · skip
                have f261 : ((vp_nar .boolean 0)).toInt ≠ 0 := b_neq rfl (by decide) c260
                exfalso; omega
              · skip
                have f262 : ((vp_nar .boolean 0)).toInt = 0 := b_eq rfl (by decide) c260
                refine lv_aload_n hx hb dX12_takeNeed_85 rfl (lv_at hl 1 rfl) ?_
                refine lv_iconst (v := 5) hx hb dX12_takeNeed_86 (by decide) ?_
                have rl263 : RelM V258 L bq gn gT (nx gs 1) gl := RelM.ag rl251 (show agr [] [28] V246 V258 from (agr.up agr.rf hV258 rfl)) (by decide) (show agL [] L L from agL.rf) (by decide)
                have r264 : Int32.toInt 5 = 5 := by decide
                refine gA_int (gA_runV (As := [.int 5]) (rest := [.int z7, .ref (ad 31)]) (ci := 12) (q0 := 0) hx hb hml hown hg hP hD hK hS hA hnw hgk (s_hasWordA l D ks H.size ad kk V258 L 5 (bq) (gn) (gT) ((nx gs 1)) (gl) hMV258 (by decide) rl263) w2051 w2053 w90 w172 w2054 rfl rfl hdV_yX12_hasWord ⟨Nat.le_of_ble_eq_true rfl, Nat.le_of_ble_eq_true rfl⟩ rfl hl.1 rfl (Nat.le_of_ble_eq_true rfl) dX12_takeNeed_87 ⟨Nat.le_of_ble_eq_true rfl, Nat.le_of_ble_eq_true rfl⟩) hP hD hK hS hA (fun z265 u266 H locs w267 hP hD hK hS => ?_)
                obtain ⟨V269, L270⟩ := u266
                obtain ⟨hMV269, ajV269, axL270, rgz265, t268⟩ := w267
                have axL270 : L = L270 := Eq.symm axL270
                subst axL270
                have hP : va_P D vwCl (mw ad kk ks.1 V269 L) H := hP
                have hD : va_D A (mw ad kk ks.1 V269 L) := hD
                have hMV269 : rgd bM V269 := hMV269
                have ajV269 : agr [(0, 7)] [] V258 V269 := ajV269
                have agV269 : agr [(0, 7), (0, 8)] [27, 28, 29, 30, 31, 35, 36, 37, 38] V V269 := agV258.tr ajV269 (by decide) (by decide)
                have rgz265 : 0 ≤ z265.toInt ∧ z265.toInt ≤ 1 := rgz265
                have t268 : (z265.toInt = 1 ∧ (gT).1 (((nx gs 1)).1 0) = 128 + (Int32.toInt 5) ∧ RelM V269 L (bq) (gn) (gT) (nx ((nx gs 1)) 1) (gl)) ∨ (z265.toInt = 0 ∧ (gT).1 (((nx gs 1)).1 0) ≠ 128 + (Int32.toInt 5) ∧ RelM V269 L (bq) (gn) (gT) ((nx gs 1)) (gl)) := t268
                rcases t268 with ⟨q271, h272, rl273⟩ | ⟨q271, h272, rl273⟩
                · skip
                  have kd274 : gT.1 ((nx gs 1).1 0) = 133 := h272.trans (by decide)
                  have hr275 : ∀ k, Rc gT (Crun gs (IneedK :: k)) (Crun (nx (nx gs 1) 1) (Iword :: Itake 59 :: IaddNeed :: Imember :: k)) := fun k => Rc.go1 (hr254 k) (called_y  kd274)
                  have ps276 : (nx (nx gs 1) 1).1 0 = (nx gs 1).1 0 + 1 := rfl
                  have fz277 := RelM.rg rl273
                  have pq278 : (V269 0 8).toInt = ((V246 0 8)).toInt := congrArg Int32.toInt ((ajV269 0 8 rfl).trans (up2_o hV258 (by decide)))
                  refine lv_if_eq (tgt := 108) hx hb dX12_takeNeed_90 (by decide) (fun c279 => ?_) (fun c279 => ?_)
                  · skip
                    have f280 : z265.toInt = 0 := b_eq rfl (by decide) c279
                    exfalso; omega
                  · skip
                    have f281 : z265.toInt ≠ 0 := b_neq rfl (by decide) c279
                    refine lv_aload_n hx hb dX12_takeNeed_93 rfl (lv_at hl 1 rfl) ?_
                    refine lv_aload_n hx hb dX12_takeNeed_94 rfl (lv_at hl 1 rfl) ?_
                    refine va_get (D := D) (ci := 12) (v := .ref (ad 38)) (C := RX12) (T := TX12) (N := 100) hx hb hg inX12 hown hK hP 0 rfl rfl 38 (by decide) (hg _ w1744) (fun _ h9 => h9) rfl dX12_takeNeed_95 ?_
                    refine lv_aload_n hx hb dX12_takeNeed_98 rfl (lv_at hl 1 rfl) ?_
                    refine va_get (D := D) (ci := 12) (v := .ref (ad 37)) (C := RX12) (T := TX12) (N := 100) hx hb hg inX12 hown hK hP 0 rfl rfl 37 (by decide) (hg _ w1743) (fun _ h9 => h9) rfl dX12_takeNeed_99 ?_
                    refine gA_int (gA_runV (As := [.ref (ad 38), .ref (ad 37)]) (rest := [.int z7, .ref (ad 31)]) (ci := 12) (q0 := 0) hx hb hml hown hg hP hD hK hS hA hnw hgk (s_takeWordOf4 l D ks H.size ad kk V269 L (bq) (gn) (gT) ((nx (nx gs 1) 1)) (gl) hMV269 rl273) w2100 w2102 w102 w172 w2103 rfl rfl hdV_yX12_takeWordOf ⟨Nat.le_of_ble_eq_true rfl, Nat.le_of_ble_eq_true rfl⟩ rfl hl.1 rfl (Nat.le_of_ble_eq_true rfl) dX12_takeNeed_102 ⟨Nat.le_of_ble_eq_true rfl, Nat.le_of_ble_eq_true rfl⟩) hP hD hK hS hA (fun z282 u283 H locs w284 hP hD hK hS => ?_)
                    obtain ⟨V290, L291⟩ := u283
                    obtain ⟨hMV290, ajV290, axL291, rgz282, t285, t286, t287, t288, t289⟩ := w284
                    have alL291 : agL [27, 28, 29, 30, 31, 35, 36, 37, 38] L L291 := agL.tr alL axL291 (by decide)
                    have hP : va_P D vwCl (mw ad kk ks.1 V290 L291) H := hP
                    have hD : va_D A (mw ad kk ks.1 V290 L291) := hD
                    have hMV290 : rgd bM V290 := hMV290
                    have ajV290 : agr [(0, 7), (0, 8)] [35, 36, 37, 38] V269 V290 := ajV290
                    have agV290 : agr [(0, 7), (0, 8)] [27, 28, 29, 30, 31, 35, 36, 37, 38] V V290 := agV269.tr ajV290 (by decide) (by decide)
                    have rgz282 : (-1) ≤ z282.toInt ∧ z282.toInt ≤ 19 := rgz282
                    have t285 : KmS (mthW (gT) ((nx (nx gs 1) 1)) 4) (V290 0 8).toInt (fun x9 => RelM V290 L291 (bq) (gn) (gT) x9.2 (gl) ∧ z282.toInt = ((x9.1 : Nat) : Int) ∧ x9.1 < 20 ∧ keepS ((nx (nx gs 1) 1)) 1 x9.2 ∧ MTX (gT) ((nx (nx gs 1) 1)) 4 x9) := t285
                    have t286 : RoV 35 (bq) V269 V290 := t286
                    have t287 : RoV 37 (bq) V269 V290 := t287
                    have t288 : RoL 36 20 (bq) L L291 := t288
                    have t289 : RoL 38 20 (bq) L L291 := t289
                    rcases t285 with ⟨q292, mx293, h294, rl295, hf296, hb297, kp298, mt299⟩ | ⟨q292, h294⟩
                    · skip
                      have ps300 := kp298.1
                      have hr301 : ∀ k, Rc gT (Crun gs (IneedK :: k)) (Crun mx293.2 (Itake 59 :: IaddNeed :: Imember :: k)) := fun k => Rc.go1 (hr275 k) (wo_y h294)
                      have fz302 := RelM.rg rl295
                      have r303 : 0 ≤ ((V290 0 8)).toInt ∧ ((V290 0 8)).toInt ≤ 70000 := hMV290 0 8
                      refine lv_goto (tgt := 109) hx hb dX12_takeNeed_105 (by decide) ?_
                      refine va_iast (D := D) (i := z7) (x := z282) hx hb hK hP hD hS 24 23 rfl rfl (i_in (a := z7.toInt) rfl (by omega)) dX12_takeNeed_109 (fun H locs hP hD hS => ?_)
                      obtain ⟨V304, hV304⟩ : ∃ z, z = up2 V290 31 (Int32.toNatClampNeg z7) z282 := ⟨_, rfl⟩
                      have hP : va_P D vwCl (mw ad kk ks.1 V304 L291) H := by rw [hV304]; exact hP
                      have hD : va_D A (mw ad kk ks.1 V304 L291) := by rw [hV304]; exact hD
                      have hMV304 : rgd bM V304 := hMV290.put hV304 (i_full _)
                      have agV304 : agr [(0, 7), (0, 8)] [27, 28, 29, 30, 31, 35, 36, 37, 38] V V304 := agV290.up hV304 rfl
                      refine lv_aload_n hx hb dX12_takeNeed_110 rfl (lv_at hl 1 rfl) ?_
                      refine va_get (D := D) (ci := 12) (v := .ref (ad 27)) (C := RX12) (T := TX12) (N := 100) hx hb hg inX12 hown hK hP 0 rfl rfl 27 (by decide) (hg _ w1733) (fun _ h9 => h9) rfl dX12_takeNeed_111 ?_
                      refine lv_iload_n hx hb dX12_takeNeed_114 rfl (lv_at hl 2 rfl) ?_
                      refine lv_dup2_11 hx hb dX12_takeNeed_115 rfl rfl ?_
                      refine va_iald (D := D) (i := p0) hx hb hK hP 20 19 rfl rfl (i_in (a := p0.toInt) rfl (by omega)) dX12_takeNeed_116 ?_
                      refine g_top (v := (V 27 (Int32.toNatClampNeg p0))) ((up2_o hV304 (by decide)).trans ((ajV290 27 (Int32.toNatClampNeg p0) rfl).trans ((ajV269 27 (Int32.toNatClampNeg p0) rfl).trans ((up2_o hV258 (by decide)).trans ((ajV246 27 (Int32.toNatClampNeg p0) rfl).trans ((up2_o hV238 (by decide)).trans ((ajV171 27 (Int32.toNatClampNeg p0) rfl).trans ((up2_o hV160 (by decide)).trans (ajV13 27 (Int32.toNatClampNeg p0) rfl))))))))) ?_
                      refine lv_iconst (v := 1) hx hb dX12_takeNeed_117 (by decide) ?_
                      refine lv_iadd hx hb dX12_takeNeed_118 ?_
                      refine lv_topi (fun z305 ez305 => ?_)
                      have hz305 : z305.toInt = ((V 27 (Int32.toNatClampNeg p0))).toInt + 1 := i_add ez305 rfl (by decide) (by omega)
                      refine va_iast (D := D) (i := p0) (x := z305) hx hb hK hP hD hS 20 19 rfl rfl (i_in (a := p0.toInt) rfl (by omega)) dX12_takeNeed_119 (fun H locs hP hD hS => ?_)
                      obtain ⟨V306, hV306⟩ : ∃ z, z = up2 V304 27 (Int32.toNatClampNeg p0) z305 := ⟨_, rfl⟩
                      have hP : va_P D vwCl (mw ad kk ks.1 V306 L291) H := by rw [hV306]; exact hP
                      have hD : va_D A (mw ad kk ks.1 V306 L291) := by rw [hV306]; exact hD
                      have hMV306 : rgd bM V306 := hMV304.put hV306 (show 0 ≤ z305.toInt ∧ z305.toInt ≤ 8 from by omega)
                      have agV306 : agr [(0, 7), (0, 8)] [27, 28, 29, 30, 31, 35, 36, 37, 38] V V306 := agV304.up hV306 rfl
                      have pq307 : (V306 27 (Int32.toNatClampNeg p0)).toInt = z305.toInt := congrArg Int32.toInt (up2_s hV306)
                      have rl308 : RelM V306 L291 bq gn gT mx293.2 gl := RelM.ag rl295 (show agr [] [27, 31] V290 V306 from (agr.up (agr.up agr.rf hV304 rfl) hV306 rfl)) (by decide) (show agL [] L291 L291 from agL.rf) (by decide)
                      have rw309 : RoV 35 bq V V306 := (fun k hk => ((up2_o hV306 (by decide)).trans ((up2_o hV304 (by decide)).trans ((t286 k hk).trans ((ajV269 35 k rfl).trans ((up2_o hV258 (by decide)).trans ((ajV246 35 k rfl).trans ((up2_o hV238 (by decide)).trans ((ajV171 35 k rfl).trans ((up2_o hV160 (by decide)).trans ((ajV13 35 k rfl).trans rfl)))))))))))
                      have rw310 : RoV 37 bq V V306 := (fun k hk => ((up2_o hV306 (by decide)).trans ((up2_o hV304 (by decide)).trans ((t287 k hk).trans ((ajV269 37 k rfl).trans ((up2_o hV258 (by decide)).trans ((ajV246 37 k rfl).trans ((up2_o hV238 (by decide)).trans ((ajV171 37 k rfl).trans ((up2_o hV160 (by decide)).trans ((ajV13 37 k rfl).trans rfl)))))))))))
                      have rw311 : RoL 36 20 bq L L291 := (fun k hk => ((t288 k hk).trans rfl))
                      have rw312 : RoL 38 20 bq L L291 := (fun k hk => ((t289 k hk).trans rfl))
                      exact W.vret hx hb hr (fun t ht hW => ⟨⟨(V306, L291), rfl, ⟨hMV306, agV306, alL291, (show (V306 27 gc).toInt = (V 27 gc).toInt + 1 from by rw [← kgc]; omega), (Or.inl ⟨W0 rl308, mx293.2, hr301, rl308, keepS.le (keepS.tr (keepS.tr (keepS.tr (keepS.rf : keepS gs 0 gs) (keepS.n1 1)) (keepS.n1 1)) kp298) (by decide)⟩), rw309, rw310, rw311, rw312⟩, by rw [ht]; exact hP, va_K.moved hW.alike hK, hD⟩, hS.F ht⟩) hS.2.2 dX12_takeNeed_120
                    · skip
                      have hb313 : ∀ k, Rc gT (Crun gs (IneedK :: k)) (Cbad (V290 0 8).toInt) := fun k => Rc.go1 (hr275 k) (wo_b h294)
                      have r314 : 0 ≤ ((V290 0 8)).toInt ∧ ((V290 0 8)).toInt ≤ 70000 := hMV290 0 8
                      refine lv_goto (tgt := 109) hx hb dX12_takeNeed_105 (by decide) ?_
                      refine va_iast (D := D) (i := z7) (x := z282) hx hb hK hP hD hS 24 23 rfl rfl (i_in (a := z7.toInt) rfl (by omega)) dX12_takeNeed_109 (fun H locs hP hD hS => ?_)
                      obtain ⟨V315, hV315⟩ : ∃ z, z = up2 V290 31 (Int32.toNatClampNeg z7) z282 := ⟨_, rfl⟩
                      have hP : va_P D vwCl (mw ad kk ks.1 V315 L291) H := by rw [hV315]; exact hP
                      have hD : va_D A (mw ad kk ks.1 V315 L291) := by rw [hV315]; exact hD
                      have hMV315 : rgd bM V315 := hMV290.put hV315 (i_full _)
                      have agV315 : agr [(0, 7), (0, 8)] [27, 28, 29, 30, 31, 35, 36, 37, 38] V V315 := agV290.up hV315 rfl
                      refine lv_aload_n hx hb dX12_takeNeed_110 rfl (lv_at hl 1 rfl) ?_
                      refine va_get (D := D) (ci := 12) (v := .ref (ad 27)) (C := RX12) (T := TX12) (N := 100) hx hb hg inX12 hown hK hP 0 rfl rfl 27 (by decide) (hg _ w1733) (fun _ h9 => h9) rfl dX12_takeNeed_111 ?_
                      refine lv_iload_n hx hb dX12_takeNeed_114 rfl (lv_at hl 2 rfl) ?_
                      refine lv_dup2_11 hx hb dX12_takeNeed_115 rfl rfl ?_
                      refine va_iald (D := D) (i := p0) hx hb hK hP 20 19 rfl rfl (i_in (a := p0.toInt) rfl (by omega)) dX12_takeNeed_116 ?_
                      refine g_top (v := (V 27 (Int32.toNatClampNeg p0))) ((up2_o hV315 (by decide)).trans ((ajV290 27 (Int32.toNatClampNeg p0) rfl).trans ((ajV269 27 (Int32.toNatClampNeg p0) rfl).trans ((up2_o hV258 (by decide)).trans ((ajV246 27 (Int32.toNatClampNeg p0) rfl).trans ((up2_o hV238 (by decide)).trans ((ajV171 27 (Int32.toNatClampNeg p0) rfl).trans ((up2_o hV160 (by decide)).trans (ajV13 27 (Int32.toNatClampNeg p0) rfl))))))))) ?_
                      refine lv_iconst (v := 1) hx hb dX12_takeNeed_117 (by decide) ?_
                      refine lv_iadd hx hb dX12_takeNeed_118 ?_
                      refine lv_topi (fun z316 ez316 => ?_)
                      have hz316 : z316.toInt = ((V 27 (Int32.toNatClampNeg p0))).toInt + 1 := i_add ez316 rfl (by decide) (by omega)
                      refine va_iast (D := D) (i := p0) (x := z316) hx hb hK hP hD hS 20 19 rfl rfl (i_in (a := p0.toInt) rfl (by omega)) dX12_takeNeed_119 (fun H locs hP hD hS => ?_)
                      obtain ⟨V317, hV317⟩ : ∃ z, z = up2 V315 27 (Int32.toNatClampNeg p0) z316 := ⟨_, rfl⟩
                      have hP : va_P D vwCl (mw ad kk ks.1 V317 L291) H := by rw [hV317]; exact hP
                      have hD : va_D A (mw ad kk ks.1 V317 L291) := by rw [hV317]; exact hD
                      have hMV317 : rgd bM V317 := hMV315.put hV317 (show 0 ≤ z316.toInt ∧ z316.toInt ≤ 8 from by omega)
                      have agV317 : agr [(0, 7), (0, 8)] [27, 28, 29, 30, 31, 35, 36, 37, 38] V V317 := agV315.up hV317 rfl
                      have pq318 : (V317 27 (Int32.toNatClampNeg p0)).toInt = z316.toInt := congrArg Int32.toInt (up2_s hV317)
                      have pq319 : (V317 0 8).toInt = ((V290 0 8)).toInt := congrArg Int32.toInt ((up2_o hV317 (by decide)).trans (up2_o hV315 (by decide)))
                      have rw320 : RoV 35 bq V V317 := (fun k hk => ((up2_o hV317 (by decide)).trans ((up2_o hV315 (by decide)).trans ((t286 k hk).trans ((ajV269 35 k rfl).trans ((up2_o hV258 (by decide)).trans ((ajV246 35 k rfl).trans ((up2_o hV238 (by decide)).trans ((ajV171 35 k rfl).trans ((up2_o hV160 (by decide)).trans ((ajV13 35 k rfl).trans rfl)))))))))))
                      have rw321 : RoV 37 bq V V317 := (fun k hk => ((up2_o hV317 (by decide)).trans ((up2_o hV315 (by decide)).trans ((t287 k hk).trans ((ajV269 37 k rfl).trans ((up2_o hV258 (by decide)).trans ((ajV246 37 k rfl).trans ((up2_o hV238 (by decide)).trans ((ajV171 37 k rfl).trans ((up2_o hV160 (by decide)).trans ((ajV13 37 k rfl).trans rfl)))))))))))
                      have rw322 : RoL 36 20 bq L L291 := (fun k hk => ((t288 k hk).trans rfl))
                      have rw323 : RoL 38 20 bq L L291 := (fun k hk => ((t289 k hk).trans rfl))
                      exact W.vret hx hb hr (fun t ht hW => ⟨⟨(V317, L291), rfl, ⟨hMV317, agV317, alL291, (show (V317 27 gc).toInt = (V 27 gc).toInt + 1 from by rw [← kgc]; omega), (Or.inr ⟨(show 1 ≤ (V317 0 8).toInt from by omega), (fun k => by rw [show (V317 0 8).toInt = (V290 0 8).toInt from by omega]; exact hb313 k)⟩), rw320, rw321, rw322, rw323⟩, by rw [ht]; exact hP, va_K.moved hW.alike hK, hD⟩, hS.F ht⟩) hS.2.2 dX12_takeNeed_120
                · skip
                  have kd324 : gT.1 ((nx gs 1).1 0) ≠ 133 := fun h9 => h272 (h9.trans (by decide))
                  have fz325 := RelM.rg rl273
                  have pq326 : (V269 0 8).toInt = ((V246 0 8)).toInt := congrArg Int32.toInt ((ajV269 0 8 rfl).trans (up2_o hV258 (by decide)))
                  refine lv_if_eq (tgt := 108) hx hb dX12_takeNeed_90 (by decide) (fun c327 => ?_) (fun c327 => ?_)
                  · skip
                    have f328 : z265.toInt = 0 := b_eq rfl (by decide) c327
                    refine lv_iconst (v := (-1)) hx hb dX12_takeNeed_108 (by decide) ?_
                    refine va_iast (D := D) (i := z7) (x := (-1)) hx hb hK hP hD hS 24 23 rfl rfl (i_in (a := z7.toInt) rfl (by omega)) dX12_takeNeed_109 (fun H locs hP hD hS => ?_)
                    obtain ⟨V329, hV329⟩ : ∃ z, z = up2 V269 31 (Int32.toNatClampNeg z7) (-1) := ⟨_, rfl⟩
                    have hP : va_P D vwCl (mw ad kk ks.1 V329 L) H := by rw [hV329]; exact hP
                    have hD : va_D A (mw ad kk ks.1 V329 L) := by rw [hV329]; exact hD
                    have hMV329 : rgd bM V329 := hMV269.put hV329 (i_full _)
                    have agV329 : agr [(0, 7), (0, 8)] [27, 28, 29, 30, 31, 35, 36, 37, 38] V V329 := agV269.up hV329 rfl
                    refine lv_aload_n hx hb dX12_takeNeed_110 rfl (lv_at hl 1 rfl) ?_
                    refine va_get (D := D) (ci := 12) (v := .ref (ad 27)) (C := RX12) (T := TX12) (N := 100) hx hb hg inX12 hown hK hP 0 rfl rfl 27 (by decide) (hg _ w1733) (fun _ h9 => h9) rfl dX12_takeNeed_111 ?_
                    refine lv_iload_n hx hb dX12_takeNeed_114 rfl (lv_at hl 2 rfl) ?_
                    refine lv_dup2_11 hx hb dX12_takeNeed_115 rfl rfl ?_
                    refine va_iald (D := D) (i := p0) hx hb hK hP 20 19 rfl rfl (i_in (a := p0.toInt) rfl (by omega)) dX12_takeNeed_116 ?_
                    refine g_top (v := (V 27 (Int32.toNatClampNeg p0))) ((up2_o hV329 (by decide)).trans ((ajV269 27 (Int32.toNatClampNeg p0) rfl).trans ((up2_o hV258 (by decide)).trans ((ajV246 27 (Int32.toNatClampNeg p0) rfl).trans ((up2_o hV238 (by decide)).trans ((ajV171 27 (Int32.toNatClampNeg p0) rfl).trans ((up2_o hV160 (by decide)).trans (ajV13 27 (Int32.toNatClampNeg p0) rfl)))))))) ?_
                    refine lv_iconst (v := 1) hx hb dX12_takeNeed_117 (by decide) ?_
                    refine lv_iadd hx hb dX12_takeNeed_118 ?_
                    refine lv_topi (fun z330 ez330 => ?_)
                    have hz330 : z330.toInt = ((V 27 (Int32.toNatClampNeg p0))).toInt + 1 := i_add ez330 rfl (by decide) (by omega)
                    refine va_iast (D := D) (i := p0) (x := z330) hx hb hK hP hD hS 20 19 rfl rfl (i_in (a := p0.toInt) rfl (by omega)) dX12_takeNeed_119 (fun H locs hP hD hS => ?_)
                    obtain ⟨V331, hV331⟩ : ∃ z, z = up2 V329 27 (Int32.toNatClampNeg p0) z330 := ⟨_, rfl⟩
                    have hP : va_P D vwCl (mw ad kk ks.1 V331 L) H := by rw [hV331]; exact hP
                    have hD : va_D A (mw ad kk ks.1 V331 L) := by rw [hV331]; exact hD
                    have hMV331 : rgd bM V331 := hMV329.put hV331 (show 0 ≤ z330.toInt ∧ z330.toInt ≤ 8 from by omega)
                    have agV331 : agr [(0, 7), (0, 8)] [27, 28, 29, 30, 31, 35, 36, 37, 38] V V331 := agV329.up hV331 rfl
                    have pq332 : (V331 27 (Int32.toNatClampNeg p0)).toInt = z330.toInt := congrArg Int32.toInt (up2_s hV331)
                    have hr333 : ∀ k, Rc gT (Crun gs (IneedK :: k)) (Crun (nx gs 1) (Itake 59 :: IaddNeed :: Imember :: k)) := fun k => Rc.go1 (hr254 k) (called_n  kd324)
                    have rl334 : RelM V331 L bq gn gT (nx gs 1) gl := RelM.ag rl273 (show agr [] [27, 31] V269 V331 from (agr.up (agr.up agr.rf hV329 rfl) hV331 rfl)) (by decide) (show agL [] L L from agL.rf) (by decide)
                    have rw335 : RoV 35 bq V V331 := (fun k hk => ((up2_o hV331 (by decide)).trans ((up2_o hV329 (by decide)).trans ((ajV269 35 k rfl).trans ((up2_o hV258 (by decide)).trans ((ajV246 35 k rfl).trans ((up2_o hV238 (by decide)).trans ((ajV171 35 k rfl).trans ((up2_o hV160 (by decide)).trans ((ajV13 35 k rfl).trans rfl))))))))))
                    have rw336 : RoV 37 bq V V331 := (fun k hk => ((up2_o hV331 (by decide)).trans ((up2_o hV329 (by decide)).trans ((ajV269 37 k rfl).trans ((up2_o hV258 (by decide)).trans ((ajV246 37 k rfl).trans ((up2_o hV238 (by decide)).trans ((ajV171 37 k rfl).trans ((up2_o hV160 (by decide)).trans ((ajV13 37 k rfl).trans rfl))))))))))
                    have rw337 : RoL 36 20 bq L L := (fun k hk => rfl)
                    have rw338 : RoL 38 20 bq L L := (fun k hk => rfl)
                    exact W.vret hx hb hr (fun t ht hW => ⟨⟨(V331, L), rfl, ⟨hMV331, agV331, alL, (show (V331 27 gc).toInt = (V 27 gc).toInt + 1 from by rw [← kgc]; omega), (Or.inl ⟨W0 rl334, (nx gs 1), hr333, rl334, keepS.le (keepS.tr (keepS.rf : keepS gs 0 gs) (keepS.n1 1)) (by decide)⟩), rw335, rw336, rw337, rw338⟩, by rw [ht]; exact hP, va_K.moved hW.alike hK, hD⟩, hS.F ht⟩) hS.2.2 dX12_takeNeed_120
                  · skip
                    have f339 : z265.toInt ≠ 0 := b_neq rfl (by decide) c327
                    exfalso; omega
            · skip
              have hb340 : ∀ k, Rc gT (Crun gs (IneedK :: k)) (Cbad (V246 0 8).toInt) := fun k => Rc.go1 (hr241 k) (nd_b h250)
              have r341 : 0 ≤ ((V246 0 8)).toInt ∧ ((V246 0 8)).toInt ≤ 70000 := hMV246 0 8
              refine va_iast (D := D) (i := z7) (x := z242) hx hb hK hP hD hS 21 20 rfl rfl (i_in (a := z7.toInt) rfl (by omega)) dX12_takeNeed_70 (fun H locs hP hD hS => ?_)
              obtain ⟨V342, hV342⟩ : ∃ z, z = up2 V246 28 (Int32.toNatClampNeg z7) z242 := ⟨_, rfl⟩
              have hP : va_P D vwCl (mw ad kk ks.1 V342 L) H := by rw [hV342]; exact hP
              have hD : va_D A (mw ad kk ks.1 V342 L) := by rw [hV342]; exact hD
              have hMV342 : rgd bM V342 := hMV246.put hV342 (show (-1) ≤ z242.toInt ∧ z242.toInt ≤ 23 from by omega)
              have agV342 : agr [(0, 7), (0, 8)] [27, 28, 29, 30, 31, 35, 36, 37, 38] V V342 := agV246.up hV342 rfl
              refine lv_aload_n hx hb dX12_takeNeed_71 rfl (lv_at hl 1 rfl) ?_
              refine va_get (D := D) (ci := 12) (v := .ref (ad 31)) (C := RX12) (T := TX12) (N := 100) hx hb hg inX12 hown hK hP 0 rfl rfl 31 (by decide) (hg _ w1737) (fun _ h9 => h9) rfl dX12_takeNeed_72 ?_
              refine lv_iload_n hx hb dX12_takeNeed_75 rfl (lv_at hl 0 rfl) ?_
              refine lv_aload_n hx hb dX12_takeNeed_76 rfl (lv_at hl 1 rfl) ?_
              refine va_get (D := D) (ci := 12) (v := .ref (ad 30)) (C := RX12) (T := TX12) (N := 100) hx hb hg inX12 hown hK hP 0 rfl rfl 30 (by decide) (hg _ w1736) (fun _ h9 => h9) rfl dX12_takeNeed_77 ?_
              refine lv_iload_n hx hb dX12_takeNeed_80 rfl (lv_at hl 0 rfl) ?_
              refine va_zald (D := D) (i := z7) hx hb hK hP 23 22 rfl rfl (i_in (a := z7.toInt) rfl (by omega)) dX12_takeNeed_81 ?_
              refine g_top (v := (vp_nar .boolean 0)) ((up2_o hV342 (by decide)).trans ((ajV246 30 (Int32.toNatClampNeg z7) rfl).trans (up2_s hV238))) ?_
              have nr343 : (vp_nar .boolean 0).toInt = 0 := by decide
              refine lv_if_ne (tgt := 108) hx hb dX12_takeNeed_82 (by decide) (fun c344 => ?_) (fun c344 => ?_)
              · skip
                have f345 : ((vp_nar .boolean 0)).toInt ≠ 0 := b_neq rfl (by decide) c344
                exfalso; omega
              · skip
                have f346 : ((vp_nar .boolean 0)).toInt = 0 := b_eq rfl (by decide) c344
                refine lv_aload_n hx hb dX12_takeNeed_85 rfl (lv_at hl 1 rfl) ?_
                refine lv_iconst (v := 5) hx hb dX12_takeNeed_86 (by decide) ?_
                have r347 : Int32.toInt 5 = 5 := by decide
                have pq348 : (V342 0 8).toInt = ((V246 0 8)).toInt := congrArg Int32.toInt (up2_o hV342 (by decide))
                refine gA_int (gA_runV (As := [.int 5]) (rest := [.int z7, .ref (ad 31)]) (ci := 12) (q0 := 0) hx hb hml hown hg hP hD hK hS hA hnw hgk (s_hasWordB l D ks H.size ad kk V342 L 5 hMV342 (by decide) (show 1 ≤ (V342 0 8).toInt from by omega)) w2051 w2053 w90 w172 w2054 rfl rfl hdV_yX12_hasWord ⟨Nat.le_of_ble_eq_true rfl, Nat.le_of_ble_eq_true rfl⟩ rfl hl.1 rfl (Nat.le_of_ble_eq_true rfl) dX12_takeNeed_87 ⟨Nat.le_of_ble_eq_true rfl, Nat.le_of_ble_eq_true rfl⟩) hP hD hK hS hA (fun z349 u350 H locs w351 hP hD hK hS => ?_)
                obtain ⟨V353, L354⟩ := u350
                obtain ⟨hMV353, ajV353, axL354, rgz349, t352⟩ := w351
                have axL354 : L = L354 := Eq.symm axL354
                subst axL354
                have hP : va_P D vwCl (mw ad kk ks.1 V353 L) H := hP
                have hD : va_D A (mw ad kk ks.1 V353 L) := hD
                have hMV353 : rgd bM V353 := hMV353
                have ajV353 : agr [(0, 7)] [] V342 V353 := ajV353
                have agV353 : agr [(0, 7), (0, 8)] [27, 28, 29, 30, 31, 35, 36, 37, 38] V V353 := agV342.tr ajV353 (by decide) (by decide)
                have rgz349 : 0 ≤ z349.toInt ∧ z349.toInt ≤ 0 := rgz349
                have t352 : (V353 0 8).toInt = (V342 0 8).toInt := t352
                have pq355 : (V353 0 8).toInt = ((V246 0 8)).toInt := congrArg Int32.toInt ((ajV353 0 8 rfl).trans (up2_o hV342 (by decide)))
                refine lv_if_eq (tgt := 108) hx hb dX12_takeNeed_90 (by decide) (fun c356 => ?_) (fun c356 => ?_)
                · skip
                  have f357 : z349.toInt = 0 := b_eq rfl (by decide) c356
                  refine lv_iconst (v := (-1)) hx hb dX12_takeNeed_108 (by decide) ?_
                  refine va_iast (D := D) (i := z7) (x := (-1)) hx hb hK hP hD hS 24 23 rfl rfl (i_in (a := z7.toInt) rfl (by omega)) dX12_takeNeed_109 (fun H locs hP hD hS => ?_)
                  obtain ⟨V358, hV358⟩ : ∃ z, z = up2 V353 31 (Int32.toNatClampNeg z7) (-1) := ⟨_, rfl⟩
                  have hP : va_P D vwCl (mw ad kk ks.1 V358 L) H := by rw [hV358]; exact hP
                  have hD : va_D A (mw ad kk ks.1 V358 L) := by rw [hV358]; exact hD
                  have hMV358 : rgd bM V358 := hMV353.put hV358 (i_full _)
                  have agV358 : agr [(0, 7), (0, 8)] [27, 28, 29, 30, 31, 35, 36, 37, 38] V V358 := agV353.up hV358 rfl
                  refine lv_aload_n hx hb dX12_takeNeed_110 rfl (lv_at hl 1 rfl) ?_
                  refine va_get (D := D) (ci := 12) (v := .ref (ad 27)) (C := RX12) (T := TX12) (N := 100) hx hb hg inX12 hown hK hP 0 rfl rfl 27 (by decide) (hg _ w1733) (fun _ h9 => h9) rfl dX12_takeNeed_111 ?_
                  refine lv_iload_n hx hb dX12_takeNeed_114 rfl (lv_at hl 2 rfl) ?_
                  refine lv_dup2_11 hx hb dX12_takeNeed_115 rfl rfl ?_
                  refine va_iald (D := D) (i := p0) hx hb hK hP 20 19 rfl rfl (i_in (a := p0.toInt) rfl (by omega)) dX12_takeNeed_116 ?_
                  refine g_top (v := (V 27 (Int32.toNatClampNeg p0))) ((up2_o hV358 (by decide)).trans ((ajV353 27 (Int32.toNatClampNeg p0) rfl).trans ((up2_o hV342 (by decide)).trans ((ajV246 27 (Int32.toNatClampNeg p0) rfl).trans ((up2_o hV238 (by decide)).trans ((ajV171 27 (Int32.toNatClampNeg p0) rfl).trans ((up2_o hV160 (by decide)).trans (ajV13 27 (Int32.toNatClampNeg p0) rfl)))))))) ?_
                  refine lv_iconst (v := 1) hx hb dX12_takeNeed_117 (by decide) ?_
                  refine lv_iadd hx hb dX12_takeNeed_118 ?_
                  refine lv_topi (fun z359 ez359 => ?_)
                  have hz359 : z359.toInt = ((V 27 (Int32.toNatClampNeg p0))).toInt + 1 := i_add ez359 rfl (by decide) (by omega)
                  refine va_iast (D := D) (i := p0) (x := z359) hx hb hK hP hD hS 20 19 rfl rfl (i_in (a := p0.toInt) rfl (by omega)) dX12_takeNeed_119 (fun H locs hP hD hS => ?_)
                  obtain ⟨V360, hV360⟩ : ∃ z, z = up2 V358 27 (Int32.toNatClampNeg p0) z359 := ⟨_, rfl⟩
                  have hP : va_P D vwCl (mw ad kk ks.1 V360 L) H := by rw [hV360]; exact hP
                  have hD : va_D A (mw ad kk ks.1 V360 L) := by rw [hV360]; exact hD
                  have hMV360 : rgd bM V360 := hMV358.put hV360 (show 0 ≤ z359.toInt ∧ z359.toInt ≤ 8 from by omega)
                  have agV360 : agr [(0, 7), (0, 8)] [27, 28, 29, 30, 31, 35, 36, 37, 38] V V360 := agV358.up hV360 rfl
                  have pq361 : (V360 27 (Int32.toNatClampNeg p0)).toInt = z359.toInt := congrArg Int32.toInt (up2_s hV360)
                  have pq362 : (V360 0 8).toInt = ((V246 0 8)).toInt := congrArg Int32.toInt ((up2_o hV360 (by decide)).trans ((up2_o hV358 (by decide)).trans ((ajV353 0 8 rfl).trans (up2_o hV342 (by decide)))))
                  have rw363 : RoV 35 bq V V360 := (fun k hk => ((up2_o hV360 (by decide)).trans ((up2_o hV358 (by decide)).trans ((ajV353 35 k rfl).trans ((up2_o hV342 (by decide)).trans ((ajV246 35 k rfl).trans ((up2_o hV238 (by decide)).trans ((ajV171 35 k rfl).trans ((up2_o hV160 (by decide)).trans ((ajV13 35 k rfl).trans rfl))))))))))
                  have rw364 : RoV 37 bq V V360 := (fun k hk => ((up2_o hV360 (by decide)).trans ((up2_o hV358 (by decide)).trans ((ajV353 37 k rfl).trans ((up2_o hV342 (by decide)).trans ((ajV246 37 k rfl).trans ((up2_o hV238 (by decide)).trans ((ajV171 37 k rfl).trans ((up2_o hV160 (by decide)).trans ((ajV13 37 k rfl).trans rfl))))))))))
                  have rw365 : RoL 36 20 bq L L := (fun k hk => rfl)
                  have rw366 : RoL 38 20 bq L L := (fun k hk => rfl)
                  exact W.vret hx hb hr (fun t ht hW => ⟨⟨(V360, L), rfl, ⟨hMV360, agV360, alL, (show (V360 27 gc).toInt = (V 27 gc).toInt + 1 from by rw [← kgc]; omega), (Or.inr ⟨(show 1 ≤ (V360 0 8).toInt from by omega), (fun k => by rw [show (V360 0 8).toInt = (V246 0 8).toInt from by omega]; exact hb340 k)⟩), rw363, rw364, rw365, rw366⟩, by rw [ht]; exact hP, va_K.moved hW.alike hK, hD⟩, hS.F ht⟩) hS.2.2 dX12_takeNeed_120
                · skip
                  have f367 : z349.toInt ≠ 0 := b_neq rfl (by decide) c356
                  exfalso; omega
          · skip
            have f368 : z167.toInt ≠ 0 := b_neq rfl (by decide) c236
            exfalso; omega
  · skip
    have f369 : 0 < ((V 0 8)).toInt := b_nle rfl (by decide) c3
    exfalso; omega
abbrev r_s_memberA : Room := { frames := 95, cells := 0, slots := 0, locals := 2864 }
abbrev q_s_memberA (D : va_G) (ks : KS) (ad : Nat → Nat) (kk : Nat → ClassId) (V : Vf) (L : Lf) (p0 : Int32) (bq : Nat) (gn : Nat) (gT : Tk) (gs : St) (gl : List Int64) (gc : Nat) (A : Nat → Prop) : Array Value → State → Outcome → State → Prop := va_Qv (fun (u : Vf × Lf) => rgd bM u.1 ∧ agr [(0, 7), (0, 8), (0, 48), (0, 50)] [27, 28, 29, 30, 31, 32, 33, 34, 35, 36, 37, 38, 45, 46, 47] V u.1 ∧ agL [27, 28, 29, 30, 31, 32, 33, 34, 35, 36, 37, 38, 45, 46, 47] L u.2 ∧ (Imp ((u.1 0 8).toInt = 0) ((u.1 0 48).toInt ≤ 2 * (u.1 0 7).toInt)) ∧ ((u.1 0 48).toInt ≤ 8120) ∧ (RdM gT gs (fun k => Imember :: k) (fun k => Imember :: k) (u.1 0 8).toInt (fun s9 => RelM u.1 u.2 bq gn gT s9 gl ∧ gs.1 0 + 1 ≤ s9.1 0 ∧ OWm u.1 gc s9 ∧ s9.2.1 2 = gs.2.1 2 ∧ s9.2.2.1 = gs.2.2.1)) ∧ (RoV 35 bq V u.1) ∧ (RoV 37 bq V u.1) ∧ (RoL 36 20 bq L u.2) ∧ (RoL 38 20 bq L u.2)) (fun u t => gq D A (mw ad kk ks.1 u.1 u.2) (mty kk) t) A
set_option maxHeartbeats 4000000 in
set_option maxRecDepth 100000 in
theorem s_memberA (l : Launch) (D : va_G) (ks : KS) (sz : Nat) (ad : Nat → Nat) (kk : Nat → ClassId) (V : Vf) (L : Lf) (p0 : Int32) (bq : Nat) (gn : Nat) (gT : Tk) (gs : St) (gl : List Int64) (gc : Nat) (hMV : rgd bM V) (rg_p0 : 0 ≤ p0.toInt ∧ p0.toInt ≤ 47) (rel : RelM V L bq gn gT gs gl) (pgc : p0.toInt = (gc : Int)) (gc48 : gc < 48) (ow : OWm V gc gs) (kn125 : gT.1 (gs.1 0) ≠ 125) (ic : (V 0 51).toInt = (gc : Int)) (ia : (V 0 52).toInt = 0) (cc : (V 0 48).toInt ≤ 2 * (V 0 7).toInt)  : Met l yX12_member (Cond.code yX12_member cX12_member 3 none :: GW) r_s_memberA (va_Pc [.ref (ad 0), .int p0] (gp D ks (mw ad kk ks.1 V L) (mty kk) sz)) (q_s_memberA D ks ad kk V L p0 bq gn gT gs gl gc (va_A (mw ad kk ks.1 V L) sz)) 0 0 (va_A (mw ad kk ks.1 V L) sz) := by
  refine g_met (q_s_memberA D ks ad kk V L p0 bq gn gT gs gl gc) (by decide) (Nat.le_of_ble_eq_true rfl) ?_
  intro p e s m below meth c A ls H locs hx hb hr hml hown hg hlocks hin hnw hgk hP hK hD hS hA hl
  have hown : s.vm.findClass RX12 = some m.cls := hown
  have hl : lv_has ls 3 [(0, .ref (ad 0)), (1, .int p0)] := hl
  have hP : va_P D vwCl (mw ad kk ks.1 V L) H := hP
  have hD : va_D A (mw ad kk ks.1 V L) := hD
  have hK : va_K D vwCl (mty kk) s := hK
  have agV : agr [(0, 7), (0, 8), (0, 48), (0, 50)] [27, 28, 29, 30, 31, 32, 33, 34, 35, 36, 37, 38, 45, 46, 47] V V := agr.rf
  have alL : agL [27, 28, 29, 30, 31, 32, 33, 34, 35, 36, 37, 38, 45, 46, 47] L L := agL.rf
  have rf_p0 := i_full p0
  have r1 : (-1) ≤ ((V 0 51)).toInt ∧ ((V 0 51)).toInt ≤ 47 := hMV 0 51
  have r2 : 0 ≤ ((V 0 52)).toInt ∧ ((V 0 52)).toInt ≤ 1 := hMV 0 52
  have r3 : 0 ≤ ((V 0 48)).toInt ∧ ((V 0 48)).toInt ≤ 10000 := hMV 0 48
  have rg0 := RelM.rg rel
  have cl0 := RelM.cl rel
  have cq0 := RelM.cq rel
  have kgc : Int32.toNatClampNeg p0 = gc := by have h9 := i_clamp (x := p0) rfl (by omega); omega
  have q27 : (V 27 (Int32.toNatClampNeg p0)).toInt = (V 27 gc).toInt := by rw [kgc]
  have q32 : (V 32 (Int32.toNatClampNeg p0)).toInt = (V 32 gc).toInt := by rw [kgc]
  have q33 : (V 33 (Int32.toNatClampNeg p0)).toInt = (V 33 gc).toInt := by rw [kgc]
  refine lv_aload_n hx hb dX12_member_0 rfl (lv_at hl 0 rfl) ?_
  refine lv_bipush (v := 9) hx hb dX12_member_1 (by decide) ?_
  have r4 : Int32.toInt 9 = 9 := by decide
  refine gA_int (gA_runV (As := [.int 9]) (rest := []) (ci := 12) (q0 := 0) hx hb hml hown hg hP hD hK hS hA hnw hgk (s_isWordA l D ks H.size ad kk V L 9 (bq) (gn) (gT) (gs) (gl) hMV (by decide) rel) w2023 w2025 w83 w172 w2026 rfl rfl hdV_yX12_isWord ⟨Nat.le_of_ble_eq_true rfl, Nat.le_of_ble_eq_true rfl⟩ rfl hl.1 rfl (Nat.le_of_ble_eq_true rfl) dX12_member_3 ⟨Nat.le_of_ble_eq_true rfl, Nat.le_of_ble_eq_true rfl⟩) hP hD hK hS hA (fun z5 u6 H locs w7 hP hD hK hS => ?_)
  obtain ⟨rgz5, t8⟩ := w7
  have rgz5 : 0 ≤ z5.toInt ∧ z5.toInt ≤ 1 := rgz5
  have t8 : (z5.toInt = 1 ∧ (gT).1 ((gs).1 0) = 128 + (Int32.toInt 9)) ∨ (z5.toInt = 0 ∧ (gT).1 ((gs).1 0) ≠ 128 + (Int32.toInt 9)) := t8
  rcases t8 with ⟨q9, h10⟩ | ⟨q9, h10⟩
  · skip
    have kd11 : gT.1 (gs.1 0) = 137 := h10.trans (by decide)
    refine lv_if_eq (tgt := 37) hx hb dX12_member_6 (by decide) (fun c12 => ?_) (fun c12 => ?_)
    · skip
      have f13 : z5.toInt = 0 := b_eq rfl (by decide) c12
      exfalso; omega
    · skip
      have f14 : z5.toInt ≠ 0 := b_neq rfl (by decide) c12
      refine lv_aload_n hx hb dX12_member_9 rfl (lv_at hl 0 rfl) ?_
      refine lv_aload_n hx hb dX12_member_10 rfl (lv_at hl 0 rfl) ?_
      refine va_get (D := D) (ci := 12) (v := .ref (ad 27)) (C := RX12) (T := TX12) (N := 100) hx hb hg inX12 hown hK hP 0 rfl rfl 27 (by decide) (hg _ w1733) (fun _ h9 => h9) rfl dX12_member_11 ?_
      refine lv_iload_n hx hb dX12_member_14 rfl (lv_at hl 1 rfl) ?_
      refine va_iald (D := D) (i := p0) hx hb hK hP 20 19 rfl rfl (i_in (a := p0.toInt) rfl (by omega)) dX12_member_15 ?_
      have r15 : 0 ≤ ((V 27 (Int32.toNatClampNeg p0))).toInt ∧ ((V 27 (Int32.toNatClampNeg p0))).toInt ≤ 8 := hMV 27 (Int32.toNatClampNeg p0)
      refine lv_bipush (v := 8) hx hb dX12_member_16 (by decide) ?_
      refine lv_icmp_ne (tgt := 25) hx hb dX12_member_18 (by decide) (fun c16 => ?_) (fun c16 => ?_)
      · skip
        have f17 : ((V 27 (Int32.toNatClampNeg p0))).toInt ≠ 8 := b_neq rfl (by decide) c16
        refine lv_iconst (v := 0) hx hb dX12_member_25 (by decide) ?_
        have r18 : Int32.toInt 0 = 0 := by decide
        refine gA_void (gA_runV (As := [.int 0]) (rest := []) (ci := 12) (q0 := 0) hx hb hml hown hg hP hD hK hS hA hnw hgk (s_beginsA l D ks H.size ad kk V L 0 (bq) (gn) (gT) (gs) (gl) hMV (by decide) rel (by rw [kd11]; decide)) w2031 w2033 w85 w172 w2034 rfl rfl hdV_yX12_begins ⟨Nat.le_of_ble_eq_true rfl, Nat.le_of_ble_eq_true rfl⟩ rfl hl.1 rfl (Nat.le_of_ble_eq_true rfl) dX12_member_26 ⟨Nat.le_of_ble_eq_true rfl, Nat.le_of_ble_eq_true rfl⟩) hP hD hK hS hA (fun u20 H locs w21 hP hD hK hS => ?_)
        obtain ⟨V23, L24⟩ := u20
        obtain ⟨hMV23, ajV23, axL24, t22⟩ := w21
        have axL24 : L = L24 := Eq.symm axL24
        subst axL24
        have hP : va_P D vwCl (mw ad kk ks.1 V23 L) H := hP
        have hD : va_D A (mw ad kk ks.1 V23 L) := hD
        have hMV23 : rgd bM V23 := hMV23
        have ajV23 : agr [(0, 7), (0, 8)] [] V V23 := ajV23
        have agV23 : agr [(0, 7), (0, 8), (0, 48), (0, 50)] [27, 28, 29, 30, 31, 32, 33, 34, 35, 36, 37, 38, 45, 46, 47] V V23 := agV.tr ajV23 (by decide) (by decide)
        have t22 : ((Int32.toInt 0) = 0 ∧ (V23 0 8).toInt = 0 ∧ RelM V23 L (bq) (gn) (gT) (nx (gs) 1) (gl)) ∨ ((Int32.toInt 0) = 1 ∧ 1 ≤ (V23 0 8).toInt ∧ (V23 0 8).toInt = 5 + 16 * (gT).2.2 ((gs).1 0)) := t22
        rcases t22 with ⟨q25, f26, rl27⟩ | ⟨q25, f26, rl27⟩
        · skip
          have hr28 : ∀ k, Rc gT (Crun gs (Imember :: k)) (Crun gs (Imember :: k)) := fun k => Rc.rf
          have hr29 : ∀ k, Rc gT (Crun gs (Imember :: k)) (Crun (nx gs 1) (IneedK :: k)) := fun k => Rc.go1 (hr28 k) (mb_137 kd11 (by have h9 := ow.1; omega))
          have ps30 : (nx gs 1).1 0 = gs.1 0 + 1 := rfl
          have fz31 := RelM.rg rl27
          have r32 : 0 ≤ ((V23 0 8)).toInt ∧ ((V23 0 8)).toInt ≤ 70000 := hMV23 0 8
          refine lv_aload_n hx hb dX12_member_29 rfl (lv_at hl 0 rfl) ?_
          refine lv_iload_n hx hb dX12_member_30 rfl (lv_at hl 1 rfl) ?_
          have pq33 : (V23 27 gc).toInt = ((V 27 gc)).toInt := congrArg Int32.toInt (ajV23 27 gc rfl)
          have r34 : 0 ≤ ((V 27 gc)).toInt ∧ ((V 27 gc)).toInt ≤ 8 := hMV 27 gc
          refine gA_void (gA_runV (As := [.int p0]) (rest := []) (ci := 12) (q0 := 0) hx hb hml hown hg hP hD hK hS hA hnw hgk (s_takeNeedA l D ks H.size ad kk V23 L p0 (bq) (gn) (gT) ((nx gs 1)) (gl) (gc) hMV23 (by omega) rl27 (show p0.toInt = ((gc) : Int) from by omega) (show (gc) < 48 from by omega) (show (V23 27 (gc)).toInt ≤ 7 from by omega)) w2108 w2110 w104 w172 w2111 rfl rfl hdV_yX12_takeNeed ⟨Nat.le_of_ble_eq_true rfl, Nat.le_of_ble_eq_true rfl⟩ rfl hl.1 rfl (Nat.le_of_ble_eq_true rfl) dX12_member_31 ⟨Nat.le_of_ble_eq_true rfl, Nat.le_of_ble_eq_true rfl⟩) hP hD hK hS hA (fun u36 H locs w37 hP hD hK hS => ?_)
          obtain ⟨V44, L45⟩ := u36
          obtain ⟨hMV44, ajV44, axL45, t38, t39, t40, t41, t42, t43⟩ := w37
          have alL45 : agL [27, 28, 29, 30, 31, 32, 33, 34, 35, 36, 37, 38, 45, 46, 47] L L45 := agL.tr alL axL45 (by decide)
          have hP : va_P D vwCl (mw ad kk ks.1 V44 L45) H := hP
          have hD : va_D A (mw ad kk ks.1 V44 L45) := hD
          have hMV44 : rgd bM V44 := hMV44
          have ajV44 : agr [(0, 7), (0, 8)] [27, 28, 29, 30, 31, 35, 36, 37, 38] V23 V44 := ajV44
          have agV44 : agr [(0, 7), (0, 8), (0, 48), (0, 50)] [27, 28, 29, 30, 31, 32, 33, 34, 35, 36, 37, 38, 45, 46, 47] V V44 := agV23.tr ajV44 (by decide) (by decide)
          have t38 : (V44 27 (gc)).toInt = (V23 27 (gc)).toInt + 1 := t38
          have t39 : RdM (gT) ((nx gs 1)) (fun k => IneedK :: k) (fun k => Itake 59 :: IaddNeed :: Imember :: k) (V44 0 8).toInt (fun s9 => RelM V44 L45 (bq) (gn) (gT) s9 (gl) ∧ keepS ((nx gs 1)) 1 s9) := t39
          have t40 : RoV 35 (bq) V23 V44 := t40
          have t41 : RoV 37 (bq) V23 V44 := t41
          have t42 : RoL 36 20 (bq) L L45 := t42
          have t43 : RoL 38 20 (bq) L L45 := t43
          rcases t39 with ⟨q46, sx47, h48, rl49, kp50⟩ | ⟨q46, h48⟩
          · skip
            have hr51 : ∀ k, Rc gT (Crun gs (Imember :: k)) (Crun sx47 (Itake 59 :: IaddNeed :: Imember :: k)) := fun k => (hr29 k).tr (h48 (k))
            have fz52 := RelM.rg rl49
            have r53 : 0 ≤ ((V44 0 8)).toInt ∧ ((V44 0 8)).toInt ≤ 70000 := hMV44 0 8
            have ps54 := (kp50).1
            refine lv_goto (tgt := 187) hx hb dX12_member_34 (by decide) ?_
            refine lv_aload_n hx hb dX12_member_187 rfl (lv_at hl 0 rfl) ?_
            refine lv_bipush (v := 59) hx hb dX12_member_188 (by decide) ?_
            have r55 : Int32.toInt 59 = 59 := by decide
            refine gA_void (gA_runV (As := [.int 59]) (rest := []) (ci := 12) (q0 := 0) hx hb hml hown hg hP hD hK hS hA hnw hgk (s_takeSignA l D ks H.size ad kk V44 L45 59 (bq) (gn) (gT) (sx47) (gl) hMV44 rl49 (sg_yes (j := 59) (by decide) (by decide) (by decide))) w2075 w2077 w96 w172 w2078 rfl rfl hdV_yX12_takeSign ⟨Nat.le_of_ble_eq_true rfl, Nat.le_of_ble_eq_true rfl⟩ rfl hl.1 rfl (Nat.le_of_ble_eq_true rfl) dX12_member_190 ⟨Nat.le_of_ble_eq_true rfl, Nat.le_of_ble_eq_true rfl⟩) hP hD hK hS hA (fun u57 H locs w58 hP hD hK hS => ?_)
            obtain ⟨V60, L61⟩ := u57
            obtain ⟨hMV60, ajV60, axL61, t59⟩ := w58
            have axL61 : L45 = L61 := Eq.symm axL61
            subst axL61
            have hP : va_P D vwCl (mw ad kk ks.1 V60 L45) H := hP
            have hD : va_D A (mw ad kk ks.1 V60 L45) := hD
            have hMV60 : rgd bM V60 := hMV60
            have ajV60 : agr [(0, 7), (0, 8)] [] V44 V60 := ajV60
            have agV60 : agr [(0, 7), (0, 8), (0, 48), (0, 50)] [27, 28, 29, 30, 31, 32, 33, 34, 35, 36, 37, 38, 45, 46, 47] V V60 := agV44.tr ajV60 (by decide) (by decide)
            have t59 : ((V60 0 8).toInt = 0 ∧ (gT).1 ((sx47).1 0) = (Int32.toInt 59) ∧ RelM V60 L45 (bq) (gn) (gT) (nx (sx47) 1) (gl)) ∨ (1 ≤ (V60 0 8).toInt ∧ (gT).1 ((sx47).1 0) ≠ (Int32.toInt 59) ∧ (V60 0 8).toInt = 1 + 16 * (gT).2.2 ((sx47).1 0)) := t59
            rcases t59 with ⟨q62, h63, rl64⟩ | ⟨q62, h63, rl64⟩
            · skip
              have kd65 : gT.1 (sx47.1 0) = 59 := h63.trans (by decide)
              have hr66 : ∀ k, Rc gT (Crun gs (Imember :: k)) (Crun (nx sx47 1) (IaddNeed :: Imember :: k)) := fun k => Rc.go1 (hr51 k) (tk_y kd65)
              have ps67 : (nx sx47 1).1 0 = sx47.1 0 + 1 := rfl
              have fz68 := RelM.rg rl64
              have r69 : 0 ≤ ((V60 0 8)).toInt ∧ ((V60 0 8)).toInt ≤ 70000 := hMV60 0 8
              have rl70 : RelM V60 L45 bq gn gT (sN (nx sx47 1) 1 ((nx sx47 1).1 1 + 1)) gl := rl64
              have hr71 : ∀ k, Rc gT (Crun gs (Imember :: k)) (Crun (sN (nx sx47 1) 1 ((nx sx47 1).1 1 + 1)) (Imember :: k)) := fun k => Rc.go1 (hr66 k) (m_addNeed)
              have ps72 : (sN (nx sx47 1) 1 ((nx sx47 1).1 1 + 1)).1 0 = (nx sx47 1).1 0 := rfl
              have pq73 : (V60 0 48).toInt = ((V 0 48)).toInt := congrArg Int32.toInt ((ajV60 0 48 rfl).trans ((ajV44 0 48 rfl).trans (ajV23 0 48 rfl)))
              have ps74 : gs.1 0 + 1 ≤ (nx gs 1).1 0 := ((keepS.n1 1)).1
              have ps75 : (nx gs 1).1 0 + 1 ≤ sx47.1 0 := (kp50).1
              have ps76 : sx47.1 0 + 1 ≤ (nx sx47 1).1 0 := ((keepS.n1 1)).1
              have ps77 : (sN (nx sx47 1) 1 ((nx sx47 1).1 1 + 1)).1 0 = (nx sx47 1).1 0 := rfl
              have rw78 : RoV 35 bq V V60 := (fun k hk => ((ajV60 35 k rfl).trans ((t40 k hk).trans ((ajV23 35 k rfl).trans rfl))))
              have rw79 : RoV 37 bq V V60 := (fun k hk => ((ajV60 37 k rfl).trans ((t41 k hk).trans ((ajV23 37 k rfl).trans rfl))))
              have rw80 : RoL 36 20 bq L L45 := (fun k hk => ((t42 k hk).trans rfl))
              have rw81 : RoL 38 20 bq L L45 := (fun k hk => ((t43 k hk).trans rfl))
              exact W.vret hx hb hr (fun t ht hW => ⟨⟨(V60, L45), rfl, ⟨hMV60, agV60, alL45, (Imp.mk (fun hp => have hp : (V60 0 8).toInt = 0 := hp; (show (V60 0 48).toInt ≤ 2 * (V60 0 7).toInt from by omega))), (show (V60 0 48).toInt ≤ 8120 from by omega), (Or.inl ⟨W0 rl70, (sN (nx sx47 1) 1 ((nx sx47 1).1 1 + 1)), hr71, rl70, (by omega), (OWm.nd ow (keepS.tr (keepS.tr (keepS.tr (keepS.rf : keepS gs 0 gs) (keepS.n1 1)) kp50) (keepS.n1 1)) (show (gs.2.1 3).length ≤ ((nx sx47 1).2.1 3).length from by have h9 := Rc.ml (hr71 []); exact h9) (show (V60 27 gc).toInt = (V 27 gc).toInt + 1 from by have h9 := t38; rw [show V23 27 gc = V 27 gc from ((ajV23 27 _ rfl).trans rfl)] at h9; rw [show V60 27 gc = V44 27 gc from ((ajV60 27 _ rfl).trans rfl)]; exact h9) (show V60 32 gc = V 32 gc from ((ajV60 32 _ rfl).trans ((ajV44 32 _ rfl).trans ((ajV23 32 _ rfl).trans rfl)))) (show V60 33 gc = V 33 gc from ((ajV60 33 _ rfl).trans ((ajV44 33 _ rfl).trans ((ajV23 33 _ rfl).trans rfl)))) (fun f hf => ((show agr [(0, 7), (0, 8)] [27, 28, 29, 30, 31, 35, 36, 37, 38] V V60 from (agr.tr (agr.tr (agr.tr agr.rf ajV23 (by decide) (by decide)) ajV44 (by decide) (by decide)) ajV60 (by decide) (by decide))) 34 _ rfl))), ((rfl : (sN (nx sx47 1) 1 ((nx sx47 1).1 1 + 1)).2.1 2 = (nx sx47 1).2.1 2).trans ((((keepS.n1 1)).2.2.1 2 (by decide)).trans (((kp50).2.2.1 2 (by decide)).trans ((((keepS.n1 1)).2.2.1 2 (by decide)).trans (rfl : gs.2.1 2 = gs.2.1 2))))), ((rfl : (sN (nx sx47 1) 1 ((nx sx47 1).1 1 + 1)).2.2.1 = (nx sx47 1).2.2.1).trans ((congrArg (fun q9 => q9.1) ((keepS.n1 1)).2.2.2).trans ((congrArg (fun q9 => q9.1) (kp50).2.2.2).trans ((congrArg (fun q9 => q9.1) ((keepS.n1 1)).2.2.2).trans (rfl : gs.2.2.1 = gs.2.2.1)))))⟩), rw78, rw79, rw80, rw81⟩, by rw [ht]; exact hP, va_K.moved hW.alike hK, hD⟩, hS.F ht⟩) hS.2.2 dX12_member_193
            · skip
              have kd82 : gT.1 (sx47.1 0) ≠ 59 := fun h9 => h63 (h9.trans (by decide))
              have hb83 : ∀ k, Rc gT (Crun gs (Imember :: k)) (Cbad (V60 0 8).toInt) := fun k => Rc.go1 (hr51 k) ((tk_n kd82).trans (fl_eq rfl rl64))
              have r84 : 0 ≤ ((V60 0 8)).toInt ∧ ((V60 0 8)).toInt ≤ 70000 := hMV60 0 8
              have pq85 : (V60 0 48).toInt = ((V 0 48)).toInt := congrArg Int32.toInt ((ajV60 0 48 rfl).trans ((ajV44 0 48 rfl).trans (ajV23 0 48 rfl)))
              have rw86 : RoV 35 bq V V60 := (fun k hk => ((ajV60 35 k rfl).trans ((t40 k hk).trans ((ajV23 35 k rfl).trans rfl))))
              have rw87 : RoV 37 bq V V60 := (fun k hk => ((ajV60 37 k rfl).trans ((t41 k hk).trans ((ajV23 37 k rfl).trans rfl))))
              have rw88 : RoL 36 20 bq L L45 := (fun k hk => ((t42 k hk).trans rfl))
              have rw89 : RoL 38 20 bq L L45 := (fun k hk => ((t43 k hk).trans rfl))
              exact W.vret hx hb hr (fun t ht hW => ⟨⟨(V60, L45), rfl, ⟨hMV60, agV60, alL45, (Imp.mk (fun hp => have hp : (V60 0 8).toInt = 0 := hp; (show (V60 0 48).toInt ≤ 2 * (V60 0 7).toInt from by omega))), (show (V60 0 48).toInt ≤ 8120 from by omega), (Or.inr ⟨(show 1 ≤ (V60 0 8).toInt from by omega), hb83⟩), rw86, rw87, rw88, rw89⟩, by rw [ht]; exact hP, va_K.moved hW.alike hK, hD⟩, hS.F ht⟩) hS.2.2 dX12_member_193
          · skip
            have hb90 : ∀ k, Rc gT (Crun gs (Imember :: k)) (Cbad (V44 0 8).toInt) := fun k => (hr29 k).tr (h48 (k))
            have r91 : 0 ≤ ((V44 0 8)).toInt ∧ ((V44 0 8)).toInt ≤ 70000 := hMV44 0 8
            refine lv_goto (tgt := 187) hx hb dX12_member_34 (by decide) ?_
            refine lv_aload_n hx hb dX12_member_187 rfl (lv_at hl 0 rfl) ?_
            refine lv_bipush (v := 59) hx hb dX12_member_188 (by decide) ?_
            have r92 : Int32.toInt 59 = 59 := by decide
            refine gA_void (gA_runV (As := [.int 59]) (rest := []) (ci := 12) (q0 := 0) hx hb hml hown hg hP hD hK hS hA hnw hgk (s_takeSignB l D ks H.size ad kk V44 L45 59 hMV44 (show 1 ≤ (V44 0 8).toInt from by omega)) w2075 w2077 w96 w172 w2078 rfl rfl hdV_yX12_takeSign ⟨Nat.le_of_ble_eq_true rfl, Nat.le_of_ble_eq_true rfl⟩ rfl hl.1 rfl (Nat.le_of_ble_eq_true rfl) dX12_member_190 ⟨Nat.le_of_ble_eq_true rfl, Nat.le_of_ble_eq_true rfl⟩) hP hD hK hS hA (fun u94 H locs w95 hP hD hK hS => ?_)
            obtain ⟨V97, L98⟩ := u94
            obtain ⟨hMV97, ajV97, axL98, t96⟩ := w95
            have axL98 : L45 = L98 := Eq.symm axL98
            subst axL98
            have hP : va_P D vwCl (mw ad kk ks.1 V97 L45) H := hP
            have hD : va_D A (mw ad kk ks.1 V97 L45) := hD
            have hMV97 : rgd bM V97 := hMV97
            have ajV97 : agr [(0, 7), (0, 8)] [] V44 V97 := ajV97
            have agV97 : agr [(0, 7), (0, 8), (0, 48), (0, 50)] [27, 28, 29, 30, 31, 32, 33, 34, 35, 36, 37, 38, 45, 46, 47] V V97 := agV44.tr ajV97 (by decide) (by decide)
            have t96 : (V97 0 8).toInt = (V44 0 8).toInt := t96
            have r99 : 0 ≤ ((V97 0 8)).toInt ∧ ((V97 0 8)).toInt ≤ 70000 := hMV97 0 8
            have pq100 : (V97 0 48).toInt = ((V 0 48)).toInt := congrArg Int32.toInt ((ajV97 0 48 rfl).trans ((ajV44 0 48 rfl).trans (ajV23 0 48 rfl)))
            have rw101 : RoV 35 bq V V97 := (fun k hk => ((ajV97 35 k rfl).trans ((t40 k hk).trans ((ajV23 35 k rfl).trans rfl))))
            have rw102 : RoV 37 bq V V97 := (fun k hk => ((ajV97 37 k rfl).trans ((t41 k hk).trans ((ajV23 37 k rfl).trans rfl))))
            have rw103 : RoL 36 20 bq L L45 := (fun k hk => ((t42 k hk).trans rfl))
            have rw104 : RoL 38 20 bq L L45 := (fun k hk => ((t43 k hk).trans rfl))
            exact W.vret hx hb hr (fun t ht hW => ⟨⟨(V97, L45), rfl, ⟨hMV97, agV97, alL45, (Imp.mk (fun hp => have hp : (V97 0 8).toInt = 0 := hp; (show (V97 0 48).toInt ≤ 2 * (V97 0 7).toInt from by omega))), (show (V97 0 48).toInt ≤ 8120 from by omega), (Or.inr ⟨(show 1 ≤ (V97 0 8).toInt from by omega), (fun k => by rw [show (V97 0 8).toInt = (V44 0 8).toInt from by omega]; exact hb90 k)⟩), rw101, rw102, rw103, rw104⟩, by rw [ht]; exact hP, va_K.moved hW.alike hK, hD⟩, hS.F ht⟩) hS.2.2 dX12_member_193
        · skip
          exfalso; omega
      · skip
        have f105 : ((V 27 (Int32.toNatClampNeg p0))).toInt = 8 := b_eq rfl (by decide) c16
        refine lv_iconst (v := 1) hx hb dX12_member_21 (by decide) ?_
        refine lv_goto (tgt := 26) hx hb dX12_member_22 (by decide) ?_
        have r106 : Int32.toInt 1 = 1 := by decide
        refine gA_void (gA_runV (As := [.int 1]) (rest := []) (ci := 12) (q0 := 0) hx hb hml hown hg hP hD hK hS hA hnw hgk (s_beginsA l D ks H.size ad kk V L 1 (bq) (gn) (gT) (gs) (gl) hMV (by decide) rel (by rw [kd11]; decide)) w2031 w2033 w85 w172 w2034 rfl rfl hdV_yX12_begins ⟨Nat.le_of_ble_eq_true rfl, Nat.le_of_ble_eq_true rfl⟩ rfl hl.1 rfl (Nat.le_of_ble_eq_true rfl) dX12_member_26 ⟨Nat.le_of_ble_eq_true rfl, Nat.le_of_ble_eq_true rfl⟩) hP hD hK hS hA (fun u108 H locs w109 hP hD hK hS => ?_)
        obtain ⟨V111, L112⟩ := u108
        obtain ⟨hMV111, ajV111, axL112, t110⟩ := w109
        have axL112 : L = L112 := Eq.symm axL112
        subst axL112
        have hP : va_P D vwCl (mw ad kk ks.1 V111 L) H := hP
        have hD : va_D A (mw ad kk ks.1 V111 L) := hD
        have hMV111 : rgd bM V111 := hMV111
        have ajV111 : agr [(0, 7), (0, 8)] [] V V111 := ajV111
        have agV111 : agr [(0, 7), (0, 8), (0, 48), (0, 50)] [27, 28, 29, 30, 31, 32, 33, 34, 35, 36, 37, 38, 45, 46, 47] V V111 := agV.tr ajV111 (by decide) (by decide)
        have t110 : ((Int32.toInt 1) = 0 ∧ (V111 0 8).toInt = 0 ∧ RelM V111 L (bq) (gn) (gT) (nx (gs) 1) (gl)) ∨ ((Int32.toInt 1) = 1 ∧ 1 ≤ (V111 0 8).toInt ∧ (V111 0 8).toInt = 5 + 16 * (gT).2.2 ((gs).1 0)) := t110
        rcases t110 with ⟨q113, f114, rl115⟩ | ⟨q113, f114, rl115⟩
        · skip
          exfalso; omega
        · skip
          have hr116 : ∀ k, Rc gT (Crun gs (Imember :: k)) (Crun gs (Imember :: k)) := fun k => Rc.rf
          have hb117 : ∀ k, Rc gT (Crun gs (Imember :: k)) (Cbad (V111 0 8).toInt) := fun k => Rc.go1 (hr116 k) ((mb_137f kd11 (by have h9 := ow.1; omega)).trans (fl_eq rfl rl115))
          have r118 : 0 ≤ ((V111 0 8)).toInt ∧ ((V111 0 8)).toInt ≤ 70000 := hMV111 0 8
          refine lv_aload_n hx hb dX12_member_29 rfl (lv_at hl 0 rfl) ?_
          refine lv_iload_n hx hb dX12_member_30 rfl (lv_at hl 1 rfl) ?_
          refine gA_void (gA_runV (As := [.int p0]) (rest := []) (ci := 12) (q0 := 0) hx hb hml hown hg hP hD hK hS hA hnw hgk (s_takeNeedB l D ks H.size ad kk V111 L p0 hMV111 (by omega) (show 1 ≤ (V111 0 8).toInt from by omega)) w2108 w2110 w104 w172 w2111 rfl rfl hdV_yX12_takeNeed ⟨Nat.le_of_ble_eq_true rfl, Nat.le_of_ble_eq_true rfl⟩ rfl hl.1 rfl (Nat.le_of_ble_eq_true rfl) dX12_member_31 ⟨Nat.le_of_ble_eq_true rfl, Nat.le_of_ble_eq_true rfl⟩) hP hD hK hS hA (fun u120 H locs w121 hP hD hK hS => ?_)
          obtain ⟨V127, L128⟩ := u120
          obtain ⟨hMV127, ajV127, axL128, t122, t123, t124, t125, t126⟩ := w121
          have alL128 : agL [27, 28, 29, 30, 31, 32, 33, 34, 35, 36, 37, 38, 45, 46, 47] L L128 := agL.tr alL axL128 (by decide)
          have hP : va_P D vwCl (mw ad kk ks.1 V127 L128) H := hP
          have hD : va_D A (mw ad kk ks.1 V127 L128) := hD
          have hMV127 : rgd bM V127 := hMV127
          have ajV127 : agr [(0, 7), (0, 8)] [27, 28, 29, 30, 31, 35, 36, 37, 38] V111 V127 := ajV127
          have agV127 : agr [(0, 7), (0, 8), (0, 48), (0, 50)] [27, 28, 29, 30, 31, 32, 33, 34, 35, 36, 37, 38, 45, 46, 47] V V127 := agV111.tr ajV127 (by decide) (by decide)
          have t122 : (V127 0 8).toInt = (V111 0 8).toInt := t122
          have t123 : NoV 35 V111 V127 := t123
          have t124 : NoV 37 V111 V127 := t124
          have t125 : NoL 36 L L128 := t125
          have t126 : NoL 38 L L128 := t126
          have r129 : 0 ≤ ((V127 0 8)).toInt ∧ ((V127 0 8)).toInt ≤ 70000 := hMV127 0 8
          refine lv_goto (tgt := 187) hx hb dX12_member_34 (by decide) ?_
          refine lv_aload_n hx hb dX12_member_187 rfl (lv_at hl 0 rfl) ?_
          refine lv_bipush (v := 59) hx hb dX12_member_188 (by decide) ?_
          have r130 : Int32.toInt 59 = 59 := by decide
          refine gA_void (gA_runV (As := [.int 59]) (rest := []) (ci := 12) (q0 := 0) hx hb hml hown hg hP hD hK hS hA hnw hgk (s_takeSignB l D ks H.size ad kk V127 L128 59 hMV127 (show 1 ≤ (V127 0 8).toInt from by omega)) w2075 w2077 w96 w172 w2078 rfl rfl hdV_yX12_takeSign ⟨Nat.le_of_ble_eq_true rfl, Nat.le_of_ble_eq_true rfl⟩ rfl hl.1 rfl (Nat.le_of_ble_eq_true rfl) dX12_member_190 ⟨Nat.le_of_ble_eq_true rfl, Nat.le_of_ble_eq_true rfl⟩) hP hD hK hS hA (fun u132 H locs w133 hP hD hK hS => ?_)
          obtain ⟨V135, L136⟩ := u132
          obtain ⟨hMV135, ajV135, axL136, t134⟩ := w133
          have axL136 : L128 = L136 := Eq.symm axL136
          subst axL136
          have hP : va_P D vwCl (mw ad kk ks.1 V135 L128) H := hP
          have hD : va_D A (mw ad kk ks.1 V135 L128) := hD
          have hMV135 : rgd bM V135 := hMV135
          have ajV135 : agr [(0, 7), (0, 8)] [] V127 V135 := ajV135
          have agV135 : agr [(0, 7), (0, 8), (0, 48), (0, 50)] [27, 28, 29, 30, 31, 32, 33, 34, 35, 36, 37, 38, 45, 46, 47] V V135 := agV127.tr ajV135 (by decide) (by decide)
          have t134 : (V135 0 8).toInt = (V127 0 8).toInt := t134
          have r137 : 0 ≤ ((V135 0 8)).toInt ∧ ((V135 0 8)).toInt ≤ 70000 := hMV135 0 8
          have pq138 : (V135 0 48).toInt = ((V 0 48)).toInt := congrArg Int32.toInt ((ajV135 0 48 rfl).trans ((ajV127 0 48 rfl).trans (ajV111 0 48 rfl)))
          have rw139 : RoV 35 bq V V135 := (fun k hk => ((ajV135 35 k rfl).trans ((t123 k).trans ((ajV111 35 k rfl).trans rfl))))
          have rw140 : RoV 37 bq V V135 := (fun k hk => ((ajV135 37 k rfl).trans ((t124 k).trans ((ajV111 37 k rfl).trans rfl))))
          have rw141 : RoL 36 20 bq L L128 := (fun k hk => ((t125 k).trans rfl))
          have rw142 : RoL 38 20 bq L L128 := (fun k hk => ((t126 k).trans rfl))
          exact W.vret hx hb hr (fun t ht hW => ⟨⟨(V135, L128), rfl, ⟨hMV135, agV135, alL128, (Imp.mk (fun hp => have hp : (V135 0 8).toInt = 0 := hp; (show (V135 0 48).toInt ≤ 2 * (V135 0 7).toInt from by omega))), (show (V135 0 48).toInt ≤ 8120 from by omega), (Or.inr ⟨(show 1 ≤ (V135 0 8).toInt from by omega), (fun k => by rw [show (V135 0 8).toInt = (V111 0 8).toInt from by omega]; exact hb117 k)⟩), rw139, rw140, rw141, rw142⟩, by rw [ht]; exact hP, va_K.moved hW.alike hK, hD⟩, hS.F ht⟩) hS.2.2 dX12_member_193
  · skip
    have kd143 : gT.1 (gs.1 0) ≠ 137 := fun h9 => h10 (h9.trans (by decide))
    refine lv_if_eq (tgt := 37) hx hb dX12_member_6 (by decide) (fun c144 => ?_) (fun c144 => ?_)
    · skip
      have f145 : z5.toInt = 0 := b_eq rfl (by decide) c144
      refine lv_aload_n hx hb dX12_member_37 rfl (lv_at hl 0 rfl) ?_
      refine va_get (D := D) (ci := 12) (v := .ref (ad 32)) (C := RX12) (T := TX12) (N := 100) hx hb hg inX12 hown hK hP 0 rfl rfl 32 (by decide) (hg _ w1738) (fun _ h9 => h9) rfl dX12_member_38 ?_
      refine lv_iload_n hx hb dX12_member_41 rfl (lv_at hl 1 rfl) ?_
      refine va_iald (D := D) (i := p0) hx hb hK hP 25 24 rfl rfl (i_in (a := p0.toInt) rfl (by omega)) dX12_member_42 ?_
      refine lv_if_ge (tgt := 68) hx hb dX12_member_43 (by decide) (fun c146 => ?_) (fun c146 => ?_)
      · skip
        have f147 : 0 ≤ ((V 32 (Int32.toNatClampNeg p0))).toInt := b_le (by decide) rfl c146
        refine lv_aload_n hx hb dX12_member_68 rfl (lv_at hl 0 rfl) ?_
        refine va_get (D := D) (ci := 12) (v := .ref (ad 33)) (C := RX12) (T := TX12) (N := 100) hx hb hg inX12 hown hK hP 0 rfl rfl 33 (by decide) (hg _ w1739) (fun _ h9 => h9) rfl dX12_member_69 ?_
        refine lv_iload_n hx hb dX12_member_72 rfl (lv_at hl 1 rfl) ?_
        refine va_iald (D := D) (i := p0) hx hb hK hP 26 25 rfl rfl (i_in (a := p0.toInt) rfl (by omega)) dX12_member_73 ?_
        refine lv_if_ge (tgt := 99) hx hb dX12_member_74 (by decide) (fun c148 => ?_) (fun c148 => ?_)
        · skip
          have f149 : 0 ≤ ((V 33 (Int32.toNatClampNeg p0))).toInt := b_le (by decide) rfl c148
          refine lv_aload_n hx hb dX12_member_99 rfl (lv_at hl 0 rfl) ?_
          refine lv_bipush (v := 14) hx hb dX12_member_100 (by decide) ?_
          have r150 : Int32.toInt 14 = 14 := by decide
          refine gA_int (gA_runV (As := [.int 14]) (rest := []) (ci := 12) (q0 := 0) hx hb hml hown hg hP hD hK hS hA hnw hgk (s_hasWordA l D ks H.size ad kk V L 14 (bq) (gn) (gT) (gs) (gl) hMV (by decide) rel) w2051 w2053 w90 w172 w2054 rfl rfl hdV_yX12_hasWord ⟨Nat.le_of_ble_eq_true rfl, Nat.le_of_ble_eq_true rfl⟩ rfl hl.1 rfl (Nat.le_of_ble_eq_true rfl) dX12_member_102 ⟨Nat.le_of_ble_eq_true rfl, Nat.le_of_ble_eq_true rfl⟩) hP hD hK hS hA (fun z151 u152 H locs w153 hP hD hK hS => ?_)
          obtain ⟨V155, L156⟩ := u152
          obtain ⟨hMV155, ajV155, axL156, rgz151, t154⟩ := w153
          have axL156 : L = L156 := Eq.symm axL156
          subst axL156
          have hP : va_P D vwCl (mw ad kk ks.1 V155 L) H := hP
          have hD : va_D A (mw ad kk ks.1 V155 L) := hD
          have hMV155 : rgd bM V155 := hMV155
          have ajV155 : agr [(0, 7)] [] V V155 := ajV155
          have agV155 : agr [(0, 7), (0, 8), (0, 48), (0, 50)] [27, 28, 29, 30, 31, 32, 33, 34, 35, 36, 37, 38, 45, 46, 47] V V155 := agV.tr ajV155 (by decide) (by decide)
          have rgz151 : 0 ≤ z151.toInt ∧ z151.toInt ≤ 1 := rgz151
          have t154 : (z151.toInt = 1 ∧ (gT).1 ((gs).1 0) = 128 + (Int32.toInt 14) ∧ RelM V155 L (bq) (gn) (gT) (nx (gs) 1) (gl)) ∨ (z151.toInt = 0 ∧ (gT).1 ((gs).1 0) ≠ 128 + (Int32.toInt 14) ∧ RelM V155 L (bq) (gn) (gT) (gs) (gl)) := t154
          rcases t154 with ⟨q157, h158, rl159⟩ | ⟨q157, h158, rl159⟩
          · skip
            have kd160 : gT.1 (gs.1 0) = 142 := h158.trans (by decide)
            have hr161 : ∀ k, Rc gT (Crun gs (Imember :: k)) (Crun gs (Imember :: k)) := fun k => Rc.rf
            have hr162 : ∀ k, Rc gT (Crun gs (Imember :: k)) (Crun (nx gs 1) (ImethN :: Iexpr 0 :: Itake 59 :: Imember :: k)) := fun k => Rc.go1 (hr161 k) (mb_142 kd160)
            have ps163 : (nx gs 1).1 0 = gs.1 0 + 1 := rfl
            have fz164 := RelM.rg rl159
            have pq165 : (V155 0 8).toInt = ((V 0 8)).toInt := congrArg Int32.toInt (ajV155 0 8 rfl)
            have r166 : 0 ≤ ((V 0 8)).toInt ∧ ((V 0 8)).toInt ≤ 70000 := hMV 0 8
            refine lv_if_eq (tgt := 182) hx hb dX12_member_105 (by decide) (fun c167 => ?_) (fun c167 => ?_)
            · skip
              have f168 : z151.toInt = 0 := b_eq rfl (by decide) c167
              exfalso; omega
            · skip
              have f169 : z151.toInt ≠ 0 := b_neq rfl (by decide) c167
              refine lv_aload_n hx hb dX12_member_108 rfl (lv_at hl 0 rfl) ?_
              refine lv_aload_n hx hb dX12_member_109 rfl (lv_at hl 0 rfl) ?_
              refine va_get (D := D) (ci := 12) (v := .ref (ad 36)) (C := RX12) (T := TX12) (N := 100) hx hb hg inX12 hown hK hP 0 rfl rfl 36 (by decide) (hg _ w1742) (fun _ h9 => h9) rfl dX12_member_110 ?_
              refine lv_aload_n hx hb dX12_member_113 rfl (lv_at hl 0 rfl) ?_
              refine va_get (D := D) (ci := 12) (v := .ref (ad 35)) (C := RX12) (T := TX12) (N := 100) hx hb hg inX12 hown hK hP 0 rfl rfl 35 (by decide) (hg _ w1741) (fun _ h9 => h9) rfl dX12_member_114 ?_
              refine gA_int (gA_runV (As := [.ref (ad 36), .ref (ad 35)]) (rest := []) (ci := 12) (q0 := 0) hx hb hml hown hg hP hD hK hS hA hnw hgk (s_takeWordOf3 l D ks H.size ad kk V155 L (bq) (gn) (gT) ((nx gs 1)) (gl) hMV155 rl159) w2100 w2102 w102 w172 w2103 rfl rfl hdV_yX12_takeWordOf ⟨Nat.le_of_ble_eq_true rfl, Nat.le_of_ble_eq_true rfl⟩ rfl hl.1 rfl (Nat.le_of_ble_eq_true rfl) dX12_member_117 ⟨Nat.le_of_ble_eq_true rfl, Nat.le_of_ble_eq_true rfl⟩) hP hD hK hS hA (fun z170 u171 H locs w172 hP hD hK hS => ?_)
              obtain ⟨V178, L179⟩ := u171
              obtain ⟨hMV178, ajV178, axL179, rgz170, t173, t174, t175, t176, t177⟩ := w172
              have alL179 : agL [27, 28, 29, 30, 31, 32, 33, 34, 35, 36, 37, 38, 45, 46, 47] L L179 := agL.tr alL axL179 (by decide)
              have hP : va_P D vwCl (mw ad kk ks.1 V178 L179) H := hP
              have hD : va_D A (mw ad kk ks.1 V178 L179) := hD
              have hMV178 : rgd bM V178 := hMV178
              have ajV178 : agr [(0, 7), (0, 8)] [35, 36, 37, 38] V155 V178 := ajV178
              have agV178 : agr [(0, 7), (0, 8), (0, 48), (0, 50)] [27, 28, 29, 30, 31, 32, 33, 34, 35, 36, 37, 38, 45, 46, 47] V V178 := agV155.tr ajV178 (by decide) (by decide)
              have rgz170 : (-1) ≤ z170.toInt ∧ z170.toInt ≤ 19 := rgz170
              have t173 : KmS (mthW (gT) ((nx gs 1)) 3) (V178 0 8).toInt (fun x9 => RelM V178 L179 (bq) (gn) (gT) x9.2 (gl) ∧ z170.toInt = ((x9.1 : Nat) : Int) ∧ x9.1 < 20 ∧ keepS ((nx gs 1)) 1 x9.2 ∧ MTX (gT) ((nx gs 1)) 3 x9) := t173
              have t174 : RoV 35 (bq) V155 V178 := t174
              have t175 : RoV 37 (bq) V155 V178 := t175
              have t176 : RoL 36 20 (bq) L L179 := t176
              have t177 : RoL 38 20 (bq) L L179 := t177
              rcases t173 with ⟨q180, mx181, h182, rl183, hf184, hb185, kp186, mt187⟩ | ⟨q180, h182⟩
              · skip
                have ps188 := kp186.1
                have fz189 := RelM.rg rl183
                have r190 : 0 ≤ ((V178 0 8)).toInt ∧ ((V178 0 8)).toInt ≤ 70000 := hMV178 0 8
                refine lv_istore_n (lv' := [(2, .int z170), (0, .ref (ad 0)), (1, .int p0)]) hx hb dX12_member_120 rfl hl (by decide) rfl (fun ls hl => ?_)
                refine lv_aload_n hx hb dX12_member_121 rfl (lv_at hl 1 rfl) ?_
                refine va_get (D := D) (ci := 12) (v := .int (V178 0 8)) (C := RX12) (T := TX12) (N := 100) hx hb hg inX12 hown hK hP 0 rfl rfl 8 (by decide) (hg _ w1714) (fun _ h9 => h9) rfl dX12_member_122 ?_
                refine lv_if_ne (tgt := 157) hx hb dX12_member_125 (by decide) (fun c191 => ?_) (fun c191 => ?_)
                · skip
                  have f192 : ((V178 0 8)).toInt ≠ 0 := b_neq rfl (by decide) c191
                  exfalso; omega
                · skip
                  have f193 : ((V178 0 8)).toInt = 0 := b_eq rfl (by decide) c191
                  refine lv_aload_n hx hb dX12_member_128 rfl (lv_at hl 1 rfl) ?_
                  refine va_get (D := D) (ci := 12) (v := .ref (ad 34)) (C := RX12) (T := TX12) (N := 100) hx hb hg inX12 hown hK hP 0 rfl rfl 34 (by decide) (hg _ w1740) (fun _ h9 => h9) rfl dX12_member_129 ?_
                  refine lv_bipush (v := 20) hx hb dX12_member_132 (by decide) ?_
                  refine lv_iload_n hx hb dX12_member_134 rfl (lv_at hl 2 rfl) ?_
                  refine lv_imul hx hb dX12_member_135 ?_
                  refine lv_topi (fun z194 ez194 => ?_)
                  have hz194 : z194.toInt = 20 * p0.toInt := i_mul ez194 (by decide) rfl (by omega)
                  refine lv_iload_n hx hb dX12_member_136 rfl (lv_at hl 0 rfl) ?_
                  refine lv_iadd hx hb dX12_member_137 ?_
                  refine lv_topi (fun z195 ez195 => ?_)
                  have hz195 : z195.toInt = z194.toInt + z170.toInt := i_add ez195 rfl rfl (by omega)
                  refine va_iald (D := D) (i := z195) hx hb hK hP 27 26 rfl rfl (i_in (a := z195.toInt) rfl (by omega)) dX12_member_138 ?_
                  refine g_top (v := (V 34 (Int32.toNatClampNeg z195))) ((ajV178 34 (Int32.toNatClampNeg z195) rfl).trans (ajV155 34 (Int32.toNatClampNeg z195) rfl)) ?_
                  have kc197 : Int32.toNatClampNeg z195 = 20 * gc + mx181.1 := by have h9 := i_clamp (x := z195) rfl (by omega); omega
                  have ma196 : (V 34 (Int32.toNatClampNeg z195)).toInt = (V 34 (20 * gc + mx181.1)).toInt := by rw [kc197]
                  have ow5 := ow.2.2.2.2.1 mx181.1 hb185
                  have oS : (nx gs 1).2.2.2 = gs.2.2.2 := congrArg (fun q9 => q9.2) ((keepS.tr (keepS.rf : keepS gs 0 gs) (keepS.n1 1))).2.2.2
                  have oL : (nx gs 1).2.1 3 = gs.2.1 3 := rfl
                  refine lv_if_lt (tgt := 157) hx hb dX12_member_139 (by decide) (fun c198 => ?_) (fun c198 => ?_)
                  · skip
                    have f199 : ((V 34 (Int32.toNatClampNeg z195))).toInt < 0 := b_lt rfl (by decide) c198
                    refine lv_aload_n hx hb dX12_member_157 rfl (lv_at hl 1 rfl) ?_
                    refine va_get (D := D) (ci := 12) (v := .int (V178 0 8)) (C := RX12) (T := TX12) (N := 100) hx hb hg inX12 hown hK hP 0 rfl rfl 8 (by decide) (hg _ w1714) (fun _ h9 => h9) rfl dX12_member_158 ?_
                    refine lv_if_ne (tgt := 179) hx hb dX12_member_161 (by decide) (fun c200 => ?_) (fun c200 => ?_)
                    · skip
                      have f201 : ((V178 0 8)).toInt ≠ 0 := b_neq rfl (by decide) c200
                      exfalso; omega
                    · skip
                      have f202 : ((V178 0 8)).toInt = 0 := b_eq rfl (by decide) c200
                      have nt9 : mx181.1 ∉ (nx gs 1).2.2.2 := by rw [oS]; exact fun q9 => absurd (ow5.mpr q9) (by omega)
                      have hr203 : ∀ k, Rc gT (Crun gs (Imember :: k)) (Crun (sT mx181.2 (mx181.1 :: (nx gs 1).2.2.2)) (Iexpr 0 :: Itake 59 :: Imember :: k)) := fun k => Rc.go1 (hr162 k) (mn_y (MTX.new mt187 h182 nt9))
                      have ps204 : (sT mx181.2 (mx181.1 :: (nx gs 1).2.2.2)).1 0 = mx181.2.1 0 := rfl
                      have rl205 : RelM V178 L179 bq gn gT (sT mx181.2 (mx181.1 :: (nx gs 1).2.2.2)) gl := RelM.tl rl183
                      refine lv_aload_n hx hb dX12_member_164 rfl (lv_at hl 1 rfl) ?_
                      refine va_get (D := D) (ci := 12) (v := .ref (ad 34)) (C := RX12) (T := TX12) (N := 100) hx hb hg inX12 hown hK hP 0 rfl rfl 34 (by decide) (hg _ w1740) (fun _ h9 => h9) rfl dX12_member_165 ?_
                      refine lv_bipush (v := 20) hx hb dX12_member_168 (by decide) ?_
                      refine lv_iload_n hx hb dX12_member_170 rfl (lv_at hl 2 rfl) ?_
                      refine lv_imul hx hb dX12_member_171 ?_
                      refine lv_topi (fun z206 ez206 => ?_)
                      have hz206 : z206.toInt = 20 * p0.toInt := i_mul ez206 (by decide) rfl (by omega)
                      refine lv_iload_n hx hb dX12_member_172 rfl (lv_at hl 0 rfl) ?_
                      refine lv_iadd hx hb dX12_member_173 ?_
                      refine lv_topi (fun z207 ez207 => ?_)
                      have hz207 : z207.toInt = z206.toInt + z170.toInt := i_add ez207 rfl rfl (by omega)
                      refine lv_aload_n hx hb dX12_member_174 rfl (lv_at hl 1 rfl) ?_
                      have pq208 : (V178 0 48).toInt = ((V 0 48)).toInt := congrArg Int32.toInt ((ajV178 0 48 rfl).trans (ajV155 0 48 rfl))
                      have pq209 : (V178 0 51).toInt = ((V 0 51)).toInt := congrArg Int32.toInt ((ajV178 0 51 rfl).trans (ajV155 0 51 rfl))
                      have pq210 : (V178 0 52).toInt = ((V 0 52)).toInt := congrArg Int32.toInt ((ajV178 0 52 rfl).trans (ajV155 0 52 rfl))
                      refine gA_int (gA_runV (As := []) (rest := [.int z207, .ref (ad 34)]) (ci := 12) (q0 := 0) hx hb hml hown hg hP hD hK hS hA hnw hgk (s_codeA l D ks H.size ad kk V178 L179 (bq) (gn) (gT) ((sT mx181.2 (mx181.1 :: (nx gs 1).2.2.2))) (gl) hMV178 rl205 (show (V178 0 48).toInt ≤ 2 * (V178 0 7).toInt from by omega) (EM.o2 (o := gc) (show (V178 27 gc).toInt = ((mx181.2.1 1 : Nat) : Int) from by rw [(by rw [(funext (fun q => ajV178 27 q rfl) : V178 27 = V155 27), (funext (fun q => ajV155 27 q rfl) : V155 27 = V 27)] : V178 27 = V 27)]; exact (by rw [((keepS.tr (keepS.tr (keepS.rf : keepS gs 0 gs) (keepS.n1 1)) kp186)).2.1 1 (by decide)]; exact ow.1)) (show mx181.2.1 4 = 0 from (by rw [((keepS.tr (keepS.tr (keepS.rf : keepS gs 0 gs) (keepS.n1 1)) kp186)).2.1 4 (by decide)]; exact ow.2.2.2.1)) (by omega) (by omega))) w2112 w2114 w105 w172 w2115 rfl rfl hdV_yX12_code ⟨Nat.le_of_ble_eq_true rfl, Nat.le_of_ble_eq_true rfl⟩ rfl hl.1 rfl (Nat.le_of_ble_eq_true rfl) dX12_member_175 ⟨Nat.le_of_ble_eq_true rfl, Nat.le_of_ble_eq_true rfl⟩) hP hD hK hS hA (fun z211 u212 H locs w213 hP hD hK hS => ?_)
                      obtain ⟨V223, L224⟩ := u212
                      obtain ⟨hMV223, ajV223, axL224, rgz211, t214, t215, t216, t217, t218, t219, t220, t221, t222⟩ := w213
                      have alL224 : agL [27, 28, 29, 30, 31, 32, 33, 34, 35, 36, 37, 38, 45, 46, 47] L L224 := agL.tr alL179 axL224 (by decide)
                      have hP : va_P D vwCl (mw ad kk ks.1 V223 L224) H := hP
                      have hD : va_D A (mw ad kk ks.1 V223 L224) := hD
                      have hMV223 : rgd bM V223 := hMV223
                      have ajV223 : agr [(0, 7), (0, 8), (0, 48), (0, 50)] [35, 36, 37, 38, 45, 46, 47] V178 V223 := ajV223
                      have agV223 : agr [(0, 7), (0, 8), (0, 48), (0, 50)] [27, 28, 29, 30, 31, 32, 33, 34, 35, 36, 37, 38, 45, 46, 47] V V223 := agV178.tr ajV223 (by decide) (by decide)
                      have rgz211 : 0 ≤ z211.toInt ∧ z211.toInt ≤ 20000 := rgz211
                      have t214 : Imp ((V223 0 8).toInt = 0) ((V223 0 48).toInt - (V178 0 48).toInt ≤ 2 * ((V223 0 7).toInt - (V178 0 7).toInt) + 1) := t214
                      have t215 : (V223 0 48).toInt ≤ 8060 := t215
                      have t216 : (V178 0 48).toInt ≤ (V223 0 48).toInt := t216
                      have t217 : z211.toInt = (V178 0 49).toInt + (V178 0 48).toInt := t217
                      have t218 : RdM (gT) ((sT mx181.2 (mx181.1 :: (nx gs 1).2.2.2))) (fun k => Iexpr 0 :: k) (fun k => k) (V223 0 8).toInt (fun s9 => RelM V223 L224 (bq) (gn) (gT) s9 (gl) ∧ keepS ((sT mx181.2 (mx181.1 :: (nx gs 1).2.2.2))) 1 s9) := t218
                      have t219 : RoV 35 (bq) V178 V223 := t219
                      have t220 : RoV 37 (bq) V178 V223 := t220
                      have t221 : RoL 36 20 (bq) L179 L224 := t221
                      have t222 : RoL 38 20 (bq) L179 L224 := t222
                      have r225 : 0 ≤ ((V223 0 48)).toInt ∧ ((V223 0 48)).toInt ≤ 10000 := hMV223 0 48
                      have r226 : 0 ≤ ((V223 0 8)).toInt ∧ ((V223 0 8)).toInt ≤ 70000 := hMV223 0 8
                      have pq227 : (V178 0 49).toInt = ((V 0 49)).toInt := congrArg Int32.toInt ((ajV178 0 49 rfl).trans (ajV155 0 49 rfl))
                      have r228 : 0 ≤ ((V 0 49)).toInt ∧ ((V 0 49)).toInt ≤ 10000 := hMV 0 49
                      rcases t218 with ⟨q229, sx230, h231, rl232, kp233⟩ | ⟨q229, h231⟩
                      · skip
                        have hr234 : ∀ k, Rc gT (Crun gs (Imember :: k)) (Crun sx230 (Itake 59 :: Imember :: k)) := fun k => (hr203 k).tr (h231 (Itake 59 :: Imember :: k))
                        have fz235 := RelM.rg rl232
                        have ps236 := (kp233).1
                        refine va_iast (D := D) (i := z207) (x := z211) hx hb hK hP hD hS 27 26 rfl rfl (i_in (a := z207.toInt) rfl (by first | omega | ((try (have i_t214 := Imp.go t214 (by omega))); omega))) dX12_member_178 (fun H locs hP hD hS => ?_)
                        obtain ⟨V237, hV237⟩ : ∃ z, z = up2 V223 34 (Int32.toNatClampNeg z207) z211 := ⟨_, rfl⟩
                        have hP : va_P D vwCl (mw ad kk ks.1 V237 L224) H := by rw [hV237]; exact hP
                        have hD : va_D A (mw ad kk ks.1 V237 L224) := by rw [hV237]; exact hD
                        have hMV237 : rgd bM V237 := hMV223.put hV237 (i_full _)
                        have agV237 : agr [(0, 7), (0, 8), (0, 48), (0, 50)] [27, 28, 29, 30, 31, 32, 33, 34, 35, 36, 37, 38, 45, 46, 47] V V237 := agV223.up hV237 rfl
                        refine lv_goto (tgt := 187) hx hb dX12_member_179 (by decide) ?_
                        refine lv_aload_n hx hb dX12_member_187 rfl (lv_at hl 1 rfl) ?_
                        refine lv_bipush (v := 59) hx hb dX12_member_188 (by decide) ?_
                        have rl238 : RelM V237 L224 bq gn gT sx230 gl := RelM.ag rl232 (show agr [] [34] V223 V237 from (agr.up agr.rf hV237 rfl)) (by decide) (show agL [] L224 L224 from agL.rf) (by decide)
                        have r239 : Int32.toInt 59 = 59 := by decide
                        refine gA_void (gA_runV (As := [.int 59]) (rest := []) (ci := 12) (q0 := 0) hx hb hml hown hg hP hD hK hS hA hnw hgk (s_takeSignA l D ks H.size ad kk V237 L224 59 (bq) (gn) (gT) (sx230) (gl) hMV237 rl238 (sg_yes (j := 59) (by decide) (by decide) (by decide))) w2075 w2077 w96 w172 w2078 rfl rfl hdV_yX12_takeSign ⟨Nat.le_of_ble_eq_true rfl, Nat.le_of_ble_eq_true rfl⟩ rfl hl.1 rfl (Nat.le_of_ble_eq_true rfl) dX12_member_190 ⟨Nat.le_of_ble_eq_true rfl, Nat.le_of_ble_eq_true rfl⟩) hP hD hK hS hA (fun u241 H locs w242 hP hD hK hS => ?_)
                        obtain ⟨V244, L245⟩ := u241
                        obtain ⟨hMV244, ajV244, axL245, t243⟩ := w242
                        have axL245 : L224 = L245 := Eq.symm axL245
                        subst axL245
                        have hP : va_P D vwCl (mw ad kk ks.1 V244 L224) H := hP
                        have hD : va_D A (mw ad kk ks.1 V244 L224) := hD
                        have hMV244 : rgd bM V244 := hMV244
                        have ajV244 : agr [(0, 7), (0, 8)] [] V237 V244 := ajV244
                        have agV244 : agr [(0, 7), (0, 8), (0, 48), (0, 50)] [27, 28, 29, 30, 31, 32, 33, 34, 35, 36, 37, 38, 45, 46, 47] V V244 := agV237.tr ajV244 (by decide) (by decide)
                        have t243 : ((V244 0 8).toInt = 0 ∧ (gT).1 ((sx230).1 0) = (Int32.toInt 59) ∧ RelM V244 L224 (bq) (gn) (gT) (nx (sx230) 1) (gl)) ∨ (1 ≤ (V244 0 8).toInt ∧ (gT).1 ((sx230).1 0) ≠ (Int32.toInt 59) ∧ (V244 0 8).toInt = 1 + 16 * (gT).2.2 ((sx230).1 0)) := t243
                        rcases t243 with ⟨q246, h247, rl248⟩ | ⟨q246, h247, rl248⟩
                        · skip
                          have kd249 : gT.1 (sx230.1 0) = 59 := h247.trans (by decide)
                          have hr250 : ∀ k, Rc gT (Crun gs (Imember :: k)) (Crun (nx sx230 1) (Imember :: k)) := fun k => Rc.go1 (hr234 k) (tk_y kd249)
                          have ps251 : (nx sx230 1).1 0 = sx230.1 0 + 1 := rfl
                          have fz252 := RelM.rg rl248
                          have r253 : 0 ≤ ((V244 0 8)).toInt ∧ ((V244 0 8)).toInt ≤ 70000 := hMV244 0 8
                          have pq254 : (V244 0 48).toInt = ((V223 0 48)).toInt := congrArg Int32.toInt ((ajV244 0 48 rfl).trans (up2_o hV237 (by decide)))
                          have ps255 : gs.1 0 + 1 ≤ (nx gs 1).1 0 := ((keepS.n1 1)).1
                          have ps256 : (nx gs 1).1 0 + 1 ≤ mx181.2.1 0 := (kp186).1
                          have ps257 : (sT mx181.2 (mx181.1 :: (nx gs 1).2.2.2)).1 0 = mx181.2.1 0 := rfl
                          have ps258 : (sT mx181.2 (mx181.1 :: (nx gs 1).2.2.2)).1 0 + 1 ≤ sx230.1 0 := (kp233).1
                          have ps259 : sx230.1 0 + 1 ≤ (nx sx230 1).1 0 := ((keepS.n1 1)).1
                          have k34 : (Int32.toNatClampNeg z207) = 20 * gc + mx181.1 := by have h9 := i_clamp (x := z207) rfl (by omega); omega
                          have cs260 : 0 ≤ (V244 34 (20 * gc + mx181.1)).toInt := by have h9 : V244 34 (Int32.toNatClampNeg z207) = z211 := ((ajV244 34 (Int32.toNatClampNeg z207) rfl).trans (up2_s hV237)); rw [k34] at h9; rw [h9]; omega
                          have rw261 : RoV 35 bq V V244 := (fun k hk => ((ajV244 35 k rfl).trans ((up2_o hV237 (by decide)).trans ((t219 k hk).trans ((t174 k hk).trans ((ajV155 35 k rfl).trans rfl))))))
                          have rw262 : RoV 37 bq V V244 := (fun k hk => ((ajV244 37 k rfl).trans ((up2_o hV237 (by decide)).trans ((t220 k hk).trans ((t175 k hk).trans ((ajV155 37 k rfl).trans rfl))))))
                          have rw263 : RoL 36 20 bq L L224 := (fun k hk => ((t221 k hk).trans ((t176 k hk).trans rfl)))
                          have rw264 : RoL 38 20 bq L L224 := (fun k hk => ((t222 k hk).trans ((t177 k hk).trans rfl)))
                          exact W.vret hx hb hr (fun t ht hW => ⟨⟨(V244, L224), rfl, ⟨hMV244, agV244, alL224, (Imp.mk (fun hp => have hp : (V244 0 8).toInt = 0 := hp; (show (V244 0 48).toInt ≤ 2 * (V244 0 7).toInt from by first | omega | ((try (have i_t214 := Imp.go t214 (by omega))); omega)))), (show (V244 0 48).toInt ≤ 8120 from by first | omega | ((try (have i_t214 := Imp.go t214 (by omega))); omega)), (Or.inl ⟨W0 rl248, (nx sx230 1), hr250, rl248, (by omega), (OWm.mt (m := 1) ow (keepS.le (keepS.tr (keepS.rf : keepS gs 0 gs) (keepS.n1 1)) (by decide)) (Nat.le_refl _) kp186 (MTX.le mt187).1 (MTX.le mt187).2 (keepS.le (keepS.tr (keepS.tr (keepS.rf : keepS (sT mx181.2 (mx181.1 :: (nx gs 1).2.2.2)) 0 (sT mx181.2 (mx181.1 :: (nx gs 1).2.2.2))) kp233) (keepS.n1 1)) (by decide)) (show (mx181.2.2.1 3).length ≤ ((nx sx230 1).2.1 3).length from by have h9 := Rc.ml (h231 []); exact h9) (show V244 27 gc = V 27 gc from ((ajV244 27 _ rfl).trans ((up2_o hV237 (by decide)).trans ((ajV223 27 _ rfl).trans ((ajV178 27 _ rfl).trans ((ajV155 27 _ rfl).trans rfl)))))) (show V244 32 gc = V 32 gc from ((ajV244 32 _ rfl).trans ((up2_o hV237 (by decide)).trans ((ajV223 32 _ rfl).trans ((ajV178 32 _ rfl).trans ((ajV155 32 _ rfl).trans rfl)))))) (show V244 33 gc = V 33 gc from ((ajV244 33 _ rfl).trans ((up2_o hV237 (by decide)).trans ((ajV223 33 _ rfl).trans ((ajV178 33 _ rfl).trans ((ajV155 33 _ rfl).trans rfl)))))) cs260 (fun f hf hne => ((ajV244 34 _ rfl).trans ((up2_k hV237 (by omega)).trans ((ajV223 34 _ rfl).trans ((ajV178 34 _ rfl).trans ((ajV155 34 _ rfl).trans rfl))))))), ((((keepS.n1 1)).2.2.1 2 (by decide)).trans (((kp233).2.2.1 2 (by decide)).trans ((rfl : (sT mx181.2 (mx181.1 :: (nx gs 1).2.2.2)).2.1 2 = mx181.2.2.1 2).trans (((kp186).2.2.1 2 (by decide)).trans ((((keepS.n1 1)).2.2.1 2 (by decide)).trans (rfl : gs.2.1 2 = gs.2.1 2)))))), ((congrArg (fun q9 => q9.1) ((keepS.n1 1)).2.2.2).trans ((congrArg (fun q9 => q9.1) (kp233).2.2.2).trans ((rfl : (sT mx181.2 (mx181.1 :: (nx gs 1).2.2.2)).2.2.1 = mx181.2.2.2.1).trans ((congrArg (fun q9 => q9.1) (kp186).2.2.2).trans ((congrArg (fun q9 => q9.1) ((keepS.n1 1)).2.2.2).trans (rfl : gs.2.2.1 = gs.2.2.1))))))⟩), rw261, rw262, rw263, rw264⟩, by rw [ht]; exact hP, va_K.moved hW.alike hK, hD⟩, hS.F ht⟩) hS.2.2 dX12_member_193
                        · skip
                          have kd265 : gT.1 (sx230.1 0) ≠ 59 := fun h9 => h247 (h9.trans (by decide))
                          have hb266 : ∀ k, Rc gT (Crun gs (Imember :: k)) (Cbad (V244 0 8).toInt) := fun k => Rc.go1 (hr234 k) ((tk_n kd265).trans (fl_eq rfl rl248))
                          have r267 : 0 ≤ ((V244 0 8)).toInt ∧ ((V244 0 8)).toInt ≤ 70000 := hMV244 0 8
                          have pq268 : (V244 0 48).toInt = ((V223 0 48)).toInt := congrArg Int32.toInt ((ajV244 0 48 rfl).trans (up2_o hV237 (by decide)))
                          have rw269 : RoV 35 bq V V244 := (fun k hk => ((ajV244 35 k rfl).trans ((up2_o hV237 (by decide)).trans ((t219 k hk).trans ((t174 k hk).trans ((ajV155 35 k rfl).trans rfl))))))
                          have rw270 : RoV 37 bq V V244 := (fun k hk => ((ajV244 37 k rfl).trans ((up2_o hV237 (by decide)).trans ((t220 k hk).trans ((t175 k hk).trans ((ajV155 37 k rfl).trans rfl))))))
                          have rw271 : RoL 36 20 bq L L224 := (fun k hk => ((t221 k hk).trans ((t176 k hk).trans rfl)))
                          have rw272 : RoL 38 20 bq L L224 := (fun k hk => ((t222 k hk).trans ((t177 k hk).trans rfl)))
                          exact W.vret hx hb hr (fun t ht hW => ⟨⟨(V244, L224), rfl, ⟨hMV244, agV244, alL224, (Imp.mk (fun hp => have hp : (V244 0 8).toInt = 0 := hp; (show (V244 0 48).toInt ≤ 2 * (V244 0 7).toInt from by first | omega | ((try (have i_t214 := Imp.go t214 (by omega))); omega)))), (show (V244 0 48).toInt ≤ 8120 from by first | omega | ((try (have i_t214 := Imp.go t214 (by omega))); omega)), (Or.inr ⟨(show 1 ≤ (V244 0 8).toInt from by omega), hb266⟩), rw269, rw270, rw271, rw272⟩, by rw [ht]; exact hP, va_K.moved hW.alike hK, hD⟩, hS.F ht⟩) hS.2.2 dX12_member_193
                      · skip
                        have hb273 : ∀ k, Rc gT (Crun gs (Imember :: k)) (Cbad (V223 0 8).toInt) := fun k => (hr203 k).tr (h231 (Itake 59 :: Imember :: k))
                        refine va_iast (D := D) (i := z207) (x := z211) hx hb hK hP hD hS 27 26 rfl rfl (i_in (a := z207.toInt) rfl (by first | omega | ((try (have i_t214 := Imp.go t214 (by omega))); omega))) dX12_member_178 (fun H locs hP hD hS => ?_)
                        obtain ⟨V274, hV274⟩ : ∃ z, z = up2 V223 34 (Int32.toNatClampNeg z207) z211 := ⟨_, rfl⟩
                        have hP : va_P D vwCl (mw ad kk ks.1 V274 L224) H := by rw [hV274]; exact hP
                        have hD : va_D A (mw ad kk ks.1 V274 L224) := by rw [hV274]; exact hD
                        have hMV274 : rgd bM V274 := hMV223.put hV274 (i_full _)
                        have agV274 : agr [(0, 7), (0, 8), (0, 48), (0, 50)] [27, 28, 29, 30, 31, 32, 33, 34, 35, 36, 37, 38, 45, 46, 47] V V274 := agV223.up hV274 rfl
                        refine lv_goto (tgt := 187) hx hb dX12_member_179 (by decide) ?_
                        refine lv_aload_n hx hb dX12_member_187 rfl (lv_at hl 1 rfl) ?_
                        refine lv_bipush (v := 59) hx hb dX12_member_188 (by decide) ?_
                        have r275 : Int32.toInt 59 = 59 := by decide
                        have pq276 : (V274 0 8).toInt = ((V223 0 8)).toInt := congrArg Int32.toInt (up2_o hV274 (by decide))
                        refine gA_void (gA_runV (As := [.int 59]) (rest := []) (ci := 12) (q0 := 0) hx hb hml hown hg hP hD hK hS hA hnw hgk (s_takeSignB l D ks H.size ad kk V274 L224 59 hMV274 (show 1 ≤ (V274 0 8).toInt from by first | omega | ((try (have i_t214 := Imp.go t214 (by omega))); omega))) w2075 w2077 w96 w172 w2078 rfl rfl hdV_yX12_takeSign ⟨Nat.le_of_ble_eq_true rfl, Nat.le_of_ble_eq_true rfl⟩ rfl hl.1 rfl (Nat.le_of_ble_eq_true rfl) dX12_member_190 ⟨Nat.le_of_ble_eq_true rfl, Nat.le_of_ble_eq_true rfl⟩) hP hD hK hS hA (fun u278 H locs w279 hP hD hK hS => ?_)
                        obtain ⟨V281, L282⟩ := u278
                        obtain ⟨hMV281, ajV281, axL282, t280⟩ := w279
                        have axL282 : L224 = L282 := Eq.symm axL282
                        subst axL282
                        have hP : va_P D vwCl (mw ad kk ks.1 V281 L224) H := hP
                        have hD : va_D A (mw ad kk ks.1 V281 L224) := hD
                        have hMV281 : rgd bM V281 := hMV281
                        have ajV281 : agr [(0, 7), (0, 8)] [] V274 V281 := ajV281
                        have agV281 : agr [(0, 7), (0, 8), (0, 48), (0, 50)] [27, 28, 29, 30, 31, 32, 33, 34, 35, 36, 37, 38, 45, 46, 47] V V281 := agV274.tr ajV281 (by decide) (by decide)
                        have t280 : (V281 0 8).toInt = (V274 0 8).toInt := t280
                        have r283 : 0 ≤ ((V281 0 8)).toInt ∧ ((V281 0 8)).toInt ≤ 70000 := hMV281 0 8
                        have pq284 : (V281 0 48).toInt = ((V223 0 48)).toInt := congrArg Int32.toInt ((ajV281 0 48 rfl).trans (up2_o hV274 (by decide)))
                        have rw285 : RoV 35 bq V V281 := (fun k hk => ((ajV281 35 k rfl).trans ((up2_o hV274 (by decide)).trans ((t219 k hk).trans ((t174 k hk).trans ((ajV155 35 k rfl).trans rfl))))))
                        have rw286 : RoV 37 bq V V281 := (fun k hk => ((ajV281 37 k rfl).trans ((up2_o hV274 (by decide)).trans ((t220 k hk).trans ((t175 k hk).trans ((ajV155 37 k rfl).trans rfl))))))
                        have rw287 : RoL 36 20 bq L L224 := (fun k hk => ((t221 k hk).trans ((t176 k hk).trans rfl)))
                        have rw288 : RoL 38 20 bq L L224 := (fun k hk => ((t222 k hk).trans ((t177 k hk).trans rfl)))
                        exact W.vret hx hb hr (fun t ht hW => ⟨⟨(V281, L224), rfl, ⟨hMV281, agV281, alL224, (Imp.mk (fun hp => have hp : (V281 0 8).toInt = 0 := hp; (show (V281 0 48).toInt ≤ 2 * (V281 0 7).toInt from by first | omega | ((try (have i_t214 := Imp.go t214 (by omega))); omega)))), (show (V281 0 48).toInt ≤ 8120 from by first | omega | ((try (have i_t214 := Imp.go t214 (by omega))); omega)), (Or.inr ⟨(show 1 ≤ (V281 0 8).toInt from by omega), (fun k => by rw [show (V281 0 8).toInt = (V223 0 8).toInt from by omega]; exact hb273 k)⟩), rw285, rw286, rw287, rw288⟩, by rw [ht]; exact hP, va_K.moved hW.alike hK, hD⟩, hS.F ht⟩) hS.2.2 dX12_member_193
                  · skip
                    have f289 : 0 ≤ ((V 34 (Int32.toNatClampNeg z195))).toInt := b_nlt rfl (by decide) c198
                    refine lv_aload_n hx hb dX12_member_142 rfl (lv_at hl 1 rfl) ?_
                    refine lv_dup hx hb dX12_member_143 rfl ?_
                    refine va_get (D := D) (ci := 12) (v := .int (V178 0 7)) (C := RX12) (T := TX12) (N := 100) hx hb hg inX12 hown hK hP 0 rfl rfl 7 (by decide) (hg _ w1713) (fun _ h9 => h9) rfl dX12_member_144 ?_
                    refine lv_iconst (v := 1) hx hb dX12_member_147 (by decide) ?_
                    refine lv_isub hx hb dX12_member_148 ?_
                    refine lv_topi (fun z290 ez290 => ?_)
                    have hz290 : z290.toInt = ((V178 0 7)).toInt - 1 := i_sub ez290 rfl (by decide) (by omega)
                    refine va_put (D := D) (ci := 12) (v := .int z290) (ty := tyX12 7) (C := RX12) (T := TX12) (N := 100) hx hb hg inX12 tyX12 tyX12_ok nmX12 hown hK hP hD hS 0 rfl rfl 7 (by decide) (hg _ w1713) (fun _ h9 => h9) rfl (tyX12_ok 7 (by decide)) rfl rfl (Nat.le_of_ble_eq_true rfl) dX12_member_149 (fun H locs hP hD hS => ?_)
                    obtain ⟨V291, hV291⟩ : ∃ z, z = up2 V178 0 7 z290 := ⟨_, rfl⟩
                    have hP : va_P D vwCl (mw ad kk ks.1 V291 L179) H := by rw [hV291]; exact hP
                    have hD : va_D A (mw ad kk ks.1 V291 L179) := by rw [hV291]; exact hD
                    have hMV291 : rgd bM V291 := hMV178.put hV291 (i_full _)
                    have agV291 : agr [(0, 7), (0, 8), (0, 48), (0, 50)] [27, 28, 29, 30, 31, 32, 33, 34, 35, 36, 37, 38, 45, 46, 47] V V291 := agV178.up hV291 rfl
                    have tx := MTX.told mt187 (by rw [oS]; exact ow5.mp (by omega)) (by rw [oS, oL]; exact ow.2.2.2.2.2)
                    have rl292 : RelM V291 L179 bq gn gT (nx gs 1) gl := RelM.v8 (by rw [← tx.2]; exact rl183) hV291 (by omega)
                    have fz293 := RelM.rg rl292
                    have pq294 : (V291 0 8).toInt = ((V178 0 8)).toInt := congrArg Int32.toInt (up2_k hV291 (by decide))
                    have pq295 : (V291 0 7).toInt = z290.toInt := congrArg Int32.toInt (up2_s hV291)
                    have mn3 : ∀ k, mst gT (Crun (nx gs 1) (ImethN :: k)) = fl gT (nx gs 1) 3 := fun k => mthN_3 (mth_k3 h182) tx.1 _
                    refine lv_aload_n hx hb dX12_member_152 rfl (lv_at hl 1 rfl) ?_
                    refine lv_iconst (v := 3) hx hb dX12_member_153 (by decide) ?_
                    have r296 : Int32.toInt 3 = 3 := by decide
                    refine gA_void (gA_runV (As := [.int 3]) (rest := []) (ci := 12) (q0 := 0) hx hb hml hown hg hP hD hK hS hA hnw hgk (s_wrongA l D ks H.size ad kk V291 L179 3 (bq) (gn) (gT) ((nx gs 1)) (gl) hMV291 (by decide) rl292) w2035 w2037 w86 w172 w2038 rfl rfl hdV_yX12_wrong ⟨Nat.le_of_ble_eq_true rfl, Nat.le_of_ble_eq_true rfl⟩ rfl hl.1 rfl (Nat.le_of_ble_eq_true rfl) dX12_member_154 ⟨Nat.le_of_ble_eq_true rfl, Nat.le_of_ble_eq_true rfl⟩) hP hD hK hS hA (fun u298 H locs w299 hP hD hK hS => ?_)
                    obtain ⟨V302, L303⟩ := u298
                    obtain ⟨hMV302, ajV302, axL303, t300, t301⟩ := w299
                    have axL303 : L179 = L303 := Eq.symm axL303
                    subst axL303
                    have hP : va_P D vwCl (mw ad kk ks.1 V302 L179) H := hP
                    have hD : va_D A (mw ad kk ks.1 V302 L179) := hD
                    have hMV302 : rgd bM V302 := hMV302
                    have ajV302 : agr [(0, 8)] [] V291 V302 := ajV302
                    have agV302 : agr [(0, 7), (0, 8), (0, 48), (0, 50)] [27, 28, 29, 30, 31, 32, 33, 34, 35, 36, 37, 38, 45, 46, 47] V V302 := agV291.tr ajV302 (by decide) (by decide)
                    have t300 : 1 ≤ (V302 0 8).toInt := t300
                    have t301 : (V302 0 8).toInt = (Int32.toInt 3) + 16 * (gT).2.2 (((nx gs 1)).1 0) := t301
                    have r304 : 0 ≤ ((V302 0 8)).toInt ∧ ((V302 0 8)).toInt ≤ 70000 := hMV302 0 8
                    have hb305 : ∀ k, Rc gT (Crun gs (Imember :: k)) (Cbad (V302 0 8).toInt) := fun k => Rc.go1 (hr162 k) ((mn3 _).trans (fl_eq rfl (show (V302 0 8).toInt = 3 + 16 * gT.2.2 ((nx gs 1).1 0) from by omega)))
                    refine lv_aload_n hx hb dX12_member_157 rfl (lv_at hl 1 rfl) ?_
                    refine va_get (D := D) (ci := 12) (v := .int (V302 0 8)) (C := RX12) (T := TX12) (N := 100) hx hb hg inX12 hown hK hP 0 rfl rfl 8 (by decide) (hg _ w1714) (fun _ h9 => h9) rfl dX12_member_158 ?_
                    refine lv_if_ne (tgt := 179) hx hb dX12_member_161 (by decide) (fun c306 => ?_) (fun c306 => ?_)
                    · skip
                      have f307 : ((V302 0 8)).toInt ≠ 0 := b_neq rfl (by decide) c306
                      refine lv_goto (tgt := 187) hx hb dX12_member_179 (by decide) ?_
                      refine lv_aload_n hx hb dX12_member_187 rfl (lv_at hl 1 rfl) ?_
                      refine lv_bipush (v := 59) hx hb dX12_member_188 (by decide) ?_
                      have r308 : Int32.toInt 59 = 59 := by decide
                      refine gA_void (gA_runV (As := [.int 59]) (rest := []) (ci := 12) (q0 := 0) hx hb hml hown hg hP hD hK hS hA hnw hgk (s_takeSignB l D ks H.size ad kk V302 L179 59 hMV302 (show 1 ≤ (V302 0 8).toInt from by omega)) w2075 w2077 w96 w172 w2078 rfl rfl hdV_yX12_takeSign ⟨Nat.le_of_ble_eq_true rfl, Nat.le_of_ble_eq_true rfl⟩ rfl hl.1 rfl (Nat.le_of_ble_eq_true rfl) dX12_member_190 ⟨Nat.le_of_ble_eq_true rfl, Nat.le_of_ble_eq_true rfl⟩) hP hD hK hS hA (fun u310 H locs w311 hP hD hK hS => ?_)
                      obtain ⟨V313, L314⟩ := u310
                      obtain ⟨hMV313, ajV313, axL314, t312⟩ := w311
                      have axL314 : L179 = L314 := Eq.symm axL314
                      subst axL314
                      have hP : va_P D vwCl (mw ad kk ks.1 V313 L179) H := hP
                      have hD : va_D A (mw ad kk ks.1 V313 L179) := hD
                      have hMV313 : rgd bM V313 := hMV313
                      have ajV313 : agr [(0, 7), (0, 8)] [] V302 V313 := ajV313
                      have agV313 : agr [(0, 7), (0, 8), (0, 48), (0, 50)] [27, 28, 29, 30, 31, 32, 33, 34, 35, 36, 37, 38, 45, 46, 47] V V313 := agV302.tr ajV313 (by decide) (by decide)
                      have t312 : (V313 0 8).toInt = (V302 0 8).toInt := t312
                      have r315 : 0 ≤ ((V313 0 8)).toInt ∧ ((V313 0 8)).toInt ≤ 70000 := hMV313 0 8
                      have pq316 : (V313 0 48).toInt = ((V 0 48)).toInt := congrArg Int32.toInt ((ajV313 0 48 rfl).trans ((ajV302 0 48 rfl).trans ((up2_k hV291 (by decide)).trans ((ajV178 0 48 rfl).trans (ajV155 0 48 rfl)))))
                      have rw317 : RoV 35 bq V V313 := (fun k hk => ((ajV313 35 k rfl).trans ((ajV302 35 k rfl).trans ((up2_o hV291 (by decide)).trans ((t174 k hk).trans ((ajV155 35 k rfl).trans rfl))))))
                      have rw318 : RoV 37 bq V V313 := (fun k hk => ((ajV313 37 k rfl).trans ((ajV302 37 k rfl).trans ((up2_o hV291 (by decide)).trans ((t175 k hk).trans ((ajV155 37 k rfl).trans rfl))))))
                      have rw319 : RoL 36 20 bq L L179 := (fun k hk => ((t176 k hk).trans rfl))
                      have rw320 : RoL 38 20 bq L L179 := (fun k hk => ((t177 k hk).trans rfl))
                      exact W.vret hx hb hr (fun t ht hW => ⟨⟨(V313, L179), rfl, ⟨hMV313, agV313, alL179, (Imp.mk (fun hp => have hp : (V313 0 8).toInt = 0 := hp; (show (V313 0 48).toInt ≤ 2 * (V313 0 7).toInt from by omega))), (show (V313 0 48).toInt ≤ 8120 from by omega), (Or.inr ⟨(show 1 ≤ (V313 0 8).toInt from by omega), (fun k => by rw [show (V313 0 8).toInt = (V302 0 8).toInt from by omega]; exact hb305 k)⟩), rw317, rw318, rw319, rw320⟩, by rw [ht]; exact hP, va_K.moved hW.alike hK, hD⟩, hS.F ht⟩) hS.2.2 dX12_member_193
                    · skip
                      have f321 : ((V302 0 8)).toInt = 0 := b_eq rfl (by decide) c306
                      exfalso; omega
              · skip
                have hb322 : ∀ k, Rc gT (Crun gs (Imember :: k)) (Cbad (V178 0 8).toInt) := fun k => Rc.go1 (hr162 k) (mn_b (Km_mthN h182))
                have r323 : 0 ≤ ((V178 0 8)).toInt ∧ ((V178 0 8)).toInt ≤ 70000 := hMV178 0 8
                refine lv_istore_n (lv' := [(2, .int z170), (0, .ref (ad 0)), (1, .int p0)]) hx hb dX12_member_120 rfl hl (by decide) rfl (fun ls hl => ?_)
                refine lv_aload_n hx hb dX12_member_121 rfl (lv_at hl 1 rfl) ?_
                refine va_get (D := D) (ci := 12) (v := .int (V178 0 8)) (C := RX12) (T := TX12) (N := 100) hx hb hg inX12 hown hK hP 0 rfl rfl 8 (by decide) (hg _ w1714) (fun _ h9 => h9) rfl dX12_member_122 ?_
                refine lv_if_ne (tgt := 157) hx hb dX12_member_125 (by decide) (fun c324 => ?_) (fun c324 => ?_)
                · skip
                  have f325 : ((V178 0 8)).toInt ≠ 0 := b_neq rfl (by decide) c324
                  refine lv_aload_n hx hb dX12_member_157 rfl (lv_at hl 1 rfl) ?_
                  refine va_get (D := D) (ci := 12) (v := .int (V178 0 8)) (C := RX12) (T := TX12) (N := 100) hx hb hg inX12 hown hK hP 0 rfl rfl 8 (by decide) (hg _ w1714) (fun _ h9 => h9) rfl dX12_member_158 ?_
                  refine lv_if_ne (tgt := 179) hx hb dX12_member_161 (by decide) (fun c326 => ?_) (fun c326 => ?_)
                  · skip
                    have f327 : ((V178 0 8)).toInt ≠ 0 := b_neq rfl (by decide) c326
                    refine lv_goto (tgt := 187) hx hb dX12_member_179 (by decide) ?_
                    refine lv_aload_n hx hb dX12_member_187 rfl (lv_at hl 1 rfl) ?_
                    refine lv_bipush (v := 59) hx hb dX12_member_188 (by decide) ?_
                    have r328 : Int32.toInt 59 = 59 := by decide
                    refine gA_void (gA_runV (As := [.int 59]) (rest := []) (ci := 12) (q0 := 0) hx hb hml hown hg hP hD hK hS hA hnw hgk (s_takeSignB l D ks H.size ad kk V178 L179 59 hMV178 (show 1 ≤ (V178 0 8).toInt from by omega)) w2075 w2077 w96 w172 w2078 rfl rfl hdV_yX12_takeSign ⟨Nat.le_of_ble_eq_true rfl, Nat.le_of_ble_eq_true rfl⟩ rfl hl.1 rfl (Nat.le_of_ble_eq_true rfl) dX12_member_190 ⟨Nat.le_of_ble_eq_true rfl, Nat.le_of_ble_eq_true rfl⟩) hP hD hK hS hA (fun u330 H locs w331 hP hD hK hS => ?_)
                    obtain ⟨V333, L334⟩ := u330
                    obtain ⟨hMV333, ajV333, axL334, t332⟩ := w331
                    have axL334 : L179 = L334 := Eq.symm axL334
                    subst axL334
                    have hP : va_P D vwCl (mw ad kk ks.1 V333 L179) H := hP
                    have hD : va_D A (mw ad kk ks.1 V333 L179) := hD
                    have hMV333 : rgd bM V333 := hMV333
                    have ajV333 : agr [(0, 7), (0, 8)] [] V178 V333 := ajV333
                    have agV333 : agr [(0, 7), (0, 8), (0, 48), (0, 50)] [27, 28, 29, 30, 31, 32, 33, 34, 35, 36, 37, 38, 45, 46, 47] V V333 := agV178.tr ajV333 (by decide) (by decide)
                    have t332 : (V333 0 8).toInt = (V178 0 8).toInt := t332
                    have r335 : 0 ≤ ((V333 0 8)).toInt ∧ ((V333 0 8)).toInt ≤ 70000 := hMV333 0 8
                    have pq336 : (V333 0 48).toInt = ((V 0 48)).toInt := congrArg Int32.toInt ((ajV333 0 48 rfl).trans ((ajV178 0 48 rfl).trans (ajV155 0 48 rfl)))
                    have rw337 : RoV 35 bq V V333 := (fun k hk => ((ajV333 35 k rfl).trans ((t174 k hk).trans ((ajV155 35 k rfl).trans rfl))))
                    have rw338 : RoV 37 bq V V333 := (fun k hk => ((ajV333 37 k rfl).trans ((t175 k hk).trans ((ajV155 37 k rfl).trans rfl))))
                    have rw339 : RoL 36 20 bq L L179 := (fun k hk => ((t176 k hk).trans rfl))
                    have rw340 : RoL 38 20 bq L L179 := (fun k hk => ((t177 k hk).trans rfl))
                    exact W.vret hx hb hr (fun t ht hW => ⟨⟨(V333, L179), rfl, ⟨hMV333, agV333, alL179, (Imp.mk (fun hp => have hp : (V333 0 8).toInt = 0 := hp; (show (V333 0 48).toInt ≤ 2 * (V333 0 7).toInt from by omega))), (show (V333 0 48).toInt ≤ 8120 from by omega), (Or.inr ⟨(show 1 ≤ (V333 0 8).toInt from by omega), (fun k => by rw [show (V333 0 8).toInt = (V178 0 8).toInt from by omega]; exact hb322 k)⟩), rw337, rw338, rw339, rw340⟩, by rw [ht]; exact hP, va_K.moved hW.alike hK, hD⟩, hS.F ht⟩) hS.2.2 dX12_member_193
                  · skip
                    have f341 : ((V178 0 8)).toInt = 0 := b_eq rfl (by decide) c326
                    exfalso; omega
                · skip
                  have f342 : ((V178 0 8)).toInt = 0 := b_eq rfl (by decide) c324
                  exfalso; omega
          · skip
            have kd343 : gT.1 (gs.1 0) ≠ 142 := fun h9 => h158 (h9.trans (by decide))
            have fz344 := RelM.rg rl159
            have pq345 : (V155 0 8).toInt = ((V 0 8)).toInt := congrArg Int32.toInt (ajV155 0 8 rfl)
            have r346 : 0 ≤ ((V 0 8)).toInt ∧ ((V 0 8)).toInt ≤ 70000 := hMV 0 8
            refine lv_if_eq (tgt := 182) hx hb dX12_member_105 (by decide) (fun c347 => ?_) (fun c347 => ?_)
            · skip
              have f348 : z151.toInt = 0 := b_eq rfl (by decide) c347
              refine lv_aload_n hx hb dX12_member_182 rfl (lv_at hl 0 rfl) ?_
              refine lv_iconst (v := 1) hx hb dX12_member_183 (by decide) ?_
              have r349 : Int32.toInt 1 = 1 := by decide
              refine gA_void (gA_runV (As := [.int 1]) (rest := []) (ci := 12) (q0 := 0) hx hb hml hown hg hP hD hK hS hA hnw hgk (s_wrongA l D ks H.size ad kk V155 L 1 (bq) (gn) (gT) (gs) (gl) hMV155 (by decide) rl159) w2035 w2037 w86 w172 w2038 rfl rfl hdV_yX12_wrong ⟨Nat.le_of_ble_eq_true rfl, Nat.le_of_ble_eq_true rfl⟩ rfl hl.1 rfl (Nat.le_of_ble_eq_true rfl) dX12_member_184 ⟨Nat.le_of_ble_eq_true rfl, Nat.le_of_ble_eq_true rfl⟩) hP hD hK hS hA (fun u351 H locs w352 hP hD hK hS => ?_)
              obtain ⟨V355, L356⟩ := u351
              obtain ⟨hMV355, ajV355, axL356, t353, t354⟩ := w352
              have axL356 : L = L356 := Eq.symm axL356
              subst axL356
              have hP : va_P D vwCl (mw ad kk ks.1 V355 L) H := hP
              have hD : va_D A (mw ad kk ks.1 V355 L) := hD
              have hMV355 : rgd bM V355 := hMV355
              have ajV355 : agr [(0, 8)] [] V155 V355 := ajV355
              have agV355 : agr [(0, 7), (0, 8), (0, 48), (0, 50)] [27, 28, 29, 30, 31, 32, 33, 34, 35, 36, 37, 38, 45, 46, 47] V V355 := agV155.tr ajV355 (by decide) (by decide)
              have t353 : 1 ≤ (V355 0 8).toInt := t353
              have t354 : (V355 0 8).toInt = (Int32.toInt 1) + 16 * (gT).2.2 ((gs).1 0) := t354
              have r357 : 0 ≤ ((V355 0 8)).toInt ∧ ((V355 0 8)).toInt ≤ 70000 := hMV355 0 8
              have hr358 : ∀ k, Rc gT (Crun gs (Imember :: k)) (Crun gs (Imember :: k)) := fun k => Rc.rf
              have hb359 : ∀ k, Rc gT (Crun gs (Imember :: k)) (Cbad (V355 0 8).toInt) := fun k => Rc.go1 (hr358 k) ((mb_f kn125 kd143 (Or.inr (by by_cases q9 : gs.1 2 = 1; exact q9; exact absurd (ow.2.1.mpr q9) (by omega))) (Or.inr (by by_cases q9 : gs.1 3 = 1; exact q9; exact absurd (ow.2.2.1.mpr q9) (by omega))) kd343).trans (fl_eq rfl (show (V355 0 8).toInt = 1 + 16 * gT.2.2 (gs.1 0) from by omega)))
              refine lv_aload_n hx hb dX12_member_187 rfl (lv_at hl 0 rfl) ?_
              refine lv_bipush (v := 59) hx hb dX12_member_188 (by decide) ?_
              have r360 : Int32.toInt 59 = 59 := by decide
              refine gA_void (gA_runV (As := [.int 59]) (rest := []) (ci := 12) (q0 := 0) hx hb hml hown hg hP hD hK hS hA hnw hgk (s_takeSignB l D ks H.size ad kk V355 L 59 hMV355 (show 1 ≤ (V355 0 8).toInt from by omega)) w2075 w2077 w96 w172 w2078 rfl rfl hdV_yX12_takeSign ⟨Nat.le_of_ble_eq_true rfl, Nat.le_of_ble_eq_true rfl⟩ rfl hl.1 rfl (Nat.le_of_ble_eq_true rfl) dX12_member_190 ⟨Nat.le_of_ble_eq_true rfl, Nat.le_of_ble_eq_true rfl⟩) hP hD hK hS hA (fun u362 H locs w363 hP hD hK hS => ?_)
              obtain ⟨V365, L366⟩ := u362
              obtain ⟨hMV365, ajV365, axL366, t364⟩ := w363
              have axL366 : L = L366 := Eq.symm axL366
              subst axL366
              have hP : va_P D vwCl (mw ad kk ks.1 V365 L) H := hP
              have hD : va_D A (mw ad kk ks.1 V365 L) := hD
              have hMV365 : rgd bM V365 := hMV365
              have ajV365 : agr [(0, 7), (0, 8)] [] V355 V365 := ajV365
              have agV365 : agr [(0, 7), (0, 8), (0, 48), (0, 50)] [27, 28, 29, 30, 31, 32, 33, 34, 35, 36, 37, 38, 45, 46, 47] V V365 := agV355.tr ajV365 (by decide) (by decide)
              have t364 : (V365 0 8).toInt = (V355 0 8).toInt := t364
              have r367 : 0 ≤ ((V365 0 8)).toInt ∧ ((V365 0 8)).toInt ≤ 70000 := hMV365 0 8
              have pq368 : (V365 0 48).toInt = ((V 0 48)).toInt := congrArg Int32.toInt ((ajV365 0 48 rfl).trans ((ajV355 0 48 rfl).trans (ajV155 0 48 rfl)))
              have rw369 : RoV 35 bq V V365 := (fun k hk => ((ajV365 35 k rfl).trans ((ajV355 35 k rfl).trans ((ajV155 35 k rfl).trans rfl))))
              have rw370 : RoV 37 bq V V365 := (fun k hk => ((ajV365 37 k rfl).trans ((ajV355 37 k rfl).trans ((ajV155 37 k rfl).trans rfl))))
              have rw371 : RoL 36 20 bq L L := (fun k hk => rfl)
              have rw372 : RoL 38 20 bq L L := (fun k hk => rfl)
              exact W.vret hx hb hr (fun t ht hW => ⟨⟨(V365, L), rfl, ⟨hMV365, agV365, alL, (Imp.mk (fun hp => have hp : (V365 0 8).toInt = 0 := hp; (show (V365 0 48).toInt ≤ 2 * (V365 0 7).toInt from by omega))), (show (V365 0 48).toInt ≤ 8120 from by omega), (Or.inr ⟨(show 1 ≤ (V365 0 8).toInt from by omega), (fun k => by rw [show (V365 0 8).toInt = (V355 0 8).toInt from by omega]; exact hb359 k)⟩), rw369, rw370, rw371, rw372⟩, by rw [ht]; exact hP, va_K.moved hW.alike hK, hD⟩, hS.F ht⟩) hS.2.2 dX12_member_193
            · skip
              have f373 : z151.toInt ≠ 0 := b_neq rfl (by decide) c347
              exfalso; omega
        · skip
          have f374 : ((V 33 (Int32.toNatClampNeg p0))).toInt < 0 := b_nle (by decide) rfl c148
          refine lv_aload_n hx hb dX12_member_77 rfl (lv_at hl 0 rfl) ?_
          refine lv_bipush (v := 13) hx hb dX12_member_78 (by decide) ?_
          have r375 : Int32.toInt 13 = 13 := by decide
          refine gA_int (gA_runV (As := [.int 13]) (rest := []) (ci := 12) (q0 := 0) hx hb hml hown hg hP hD hK hS hA hnw hgk (s_hasWordA l D ks H.size ad kk V L 13 (bq) (gn) (gT) (gs) (gl) hMV (by decide) rel) w2051 w2053 w90 w172 w2054 rfl rfl hdV_yX12_hasWord ⟨Nat.le_of_ble_eq_true rfl, Nat.le_of_ble_eq_true rfl⟩ rfl hl.1 rfl (Nat.le_of_ble_eq_true rfl) dX12_member_80 ⟨Nat.le_of_ble_eq_true rfl, Nat.le_of_ble_eq_true rfl⟩) hP hD hK hS hA (fun z376 u377 H locs w378 hP hD hK hS => ?_)
          obtain ⟨V380, L381⟩ := u377
          obtain ⟨hMV380, ajV380, axL381, rgz376, t379⟩ := w378
          have axL381 : L = L381 := Eq.symm axL381
          subst axL381
          have hP : va_P D vwCl (mw ad kk ks.1 V380 L) H := hP
          have hD : va_D A (mw ad kk ks.1 V380 L) := hD
          have hMV380 : rgd bM V380 := hMV380
          have ajV380 : agr [(0, 7)] [] V V380 := ajV380
          have agV380 : agr [(0, 7), (0, 8), (0, 48), (0, 50)] [27, 28, 29, 30, 31, 32, 33, 34, 35, 36, 37, 38, 45, 46, 47] V V380 := agV.tr ajV380 (by decide) (by decide)
          have rgz376 : 0 ≤ z376.toInt ∧ z376.toInt ≤ 1 := rgz376
          have t379 : (z376.toInt = 1 ∧ (gT).1 ((gs).1 0) = 128 + (Int32.toInt 13) ∧ RelM V380 L (bq) (gn) (gT) (nx (gs) 1) (gl)) ∨ (z376.toInt = 0 ∧ (gT).1 ((gs).1 0) ≠ 128 + (Int32.toInt 13) ∧ RelM V380 L (bq) (gn) (gT) (gs) (gl)) := t379
          rcases t379 with ⟨q382, h383, rl384⟩ | ⟨q382, h383, rl384⟩
          · skip
            have kd385 : gT.1 (gs.1 0) = 141 := h383.trans (by decide)
            have hr386 : ∀ k, Rc gT (Crun gs (Imember :: k)) (Crun gs (Imember :: k)) := fun k => Rc.rf
            have hr387 : ∀ k, Rc gT (Crun gs (Imember :: k)) (Crun (nx (sN gs 3 1) 1) (Iexpr 0 :: Itake 59 :: Imember :: k)) := fun k => Rc.go1 (hr386 k) (mb_141 kd385 (ow.2.2.1.mp (by omega)))
            have ps388 : (sN gs 3 1).1 0 = gs.1 0 := rfl
            have ps389 : (nx gs 1).1 0 = gs.1 0 + 1 := rfl
            have fz390 := RelM.rg rl384
            have pq391 : (V380 0 8).toInt = ((V 0 8)).toInt := congrArg Int32.toInt (ajV380 0 8 rfl)
            have r392 : 0 ≤ ((V 0 8)).toInt ∧ ((V 0 8)).toInt ≤ 70000 := hMV 0 8
            refine lv_if_eq (tgt := 99) hx hb dX12_member_83 (by decide) (fun c393 => ?_) (fun c393 => ?_)
            · skip
              have f394 : z376.toInt = 0 := b_eq rfl (by decide) c393
              exfalso; omega
            · skip
              have f395 : z376.toInt ≠ 0 := b_neq rfl (by decide) c393
              have rl396 : RelM V380 L bq gn gT (nx (sN gs 3 1) 1) gl := rl384
              refine lv_aload_n hx hb dX12_member_86 rfl (lv_at hl 0 rfl) ?_
              refine va_get (D := D) (ci := 12) (v := .ref (ad 33)) (C := RX12) (T := TX12) (N := 100) hx hb hg inX12 hown hK hP 0 rfl rfl 33 (by decide) (hg _ w1739) (fun _ h9 => h9) rfl dX12_member_87 ?_
              refine lv_iload_n hx hb dX12_member_90 rfl (lv_at hl 1 rfl) ?_
              refine lv_aload_n hx hb dX12_member_91 rfl (lv_at hl 0 rfl) ?_
              have pq397 : (V380 0 48).toInt = ((V 0 48)).toInt := congrArg Int32.toInt (ajV380 0 48 rfl)
              have pq398 : (V380 0 51).toInt = ((V 0 51)).toInt := congrArg Int32.toInt (ajV380 0 51 rfl)
              have pq399 : (V380 0 52).toInt = ((V 0 52)).toInt := congrArg Int32.toInt (ajV380 0 52 rfl)
              refine gA_int (gA_runV (As := []) (rest := [.int p0, .ref (ad 33)]) (ci := 12) (q0 := 0) hx hb hml hown hg hP hD hK hS hA hnw hgk (s_codeA l D ks H.size ad kk V380 L (bq) (gn) (gT) ((nx (sN gs 3 1) 1)) (gl) hMV380 rl396 (show (V380 0 48).toInt ≤ 2 * (V380 0 7).toInt from by omega) (EM.o2 (o := gc) (show (V380 27 gc).toInt = (((nx (sN gs 3 1) 1).1 1 : Nat) : Int) from by rw [(by rw [(funext (fun q => ajV380 27 q rfl) : V380 27 = V 27)] : V380 27 = V 27)]; exact ow.1) (show (nx (sN gs 3 1) 1).1 4 = 0 from ow.2.2.2.1) (by omega) (by omega))) w2112 w2114 w105 w172 w2115 rfl rfl hdV_yX12_code ⟨Nat.le_of_ble_eq_true rfl, Nat.le_of_ble_eq_true rfl⟩ rfl hl.1 rfl (Nat.le_of_ble_eq_true rfl) dX12_member_92 ⟨Nat.le_of_ble_eq_true rfl, Nat.le_of_ble_eq_true rfl⟩) hP hD hK hS hA (fun z400 u401 H locs w402 hP hD hK hS => ?_)
              obtain ⟨V412, L413⟩ := u401
              obtain ⟨hMV412, ajV412, axL413, rgz400, t403, t404, t405, t406, t407, t408, t409, t410, t411⟩ := w402
              have alL413 : agL [27, 28, 29, 30, 31, 32, 33, 34, 35, 36, 37, 38, 45, 46, 47] L L413 := agL.tr alL axL413 (by decide)
              have hP : va_P D vwCl (mw ad kk ks.1 V412 L413) H := hP
              have hD : va_D A (mw ad kk ks.1 V412 L413) := hD
              have hMV412 : rgd bM V412 := hMV412
              have ajV412 : agr [(0, 7), (0, 8), (0, 48), (0, 50)] [35, 36, 37, 38, 45, 46, 47] V380 V412 := ajV412
              have agV412 : agr [(0, 7), (0, 8), (0, 48), (0, 50)] [27, 28, 29, 30, 31, 32, 33, 34, 35, 36, 37, 38, 45, 46, 47] V V412 := agV380.tr ajV412 (by decide) (by decide)
              have rgz400 : 0 ≤ z400.toInt ∧ z400.toInt ≤ 20000 := rgz400
              have t403 : Imp ((V412 0 8).toInt = 0) ((V412 0 48).toInt - (V380 0 48).toInt ≤ 2 * ((V412 0 7).toInt - (V380 0 7).toInt) + 1) := t403
              have t404 : (V412 0 48).toInt ≤ 8060 := t404
              have t405 : (V380 0 48).toInt ≤ (V412 0 48).toInt := t405
              have t406 : z400.toInt = (V380 0 49).toInt + (V380 0 48).toInt := t406
              have t407 : RdM (gT) ((nx (sN gs 3 1) 1)) (fun k => Iexpr 0 :: k) (fun k => k) (V412 0 8).toInt (fun s9 => RelM V412 L413 (bq) (gn) (gT) s9 (gl) ∧ keepS ((nx (sN gs 3 1) 1)) 1 s9) := t407
              have t408 : RoV 35 (bq) V380 V412 := t408
              have t409 : RoV 37 (bq) V380 V412 := t409
              have t410 : RoL 36 20 (bq) L L413 := t410
              have t411 : RoL 38 20 (bq) L L413 := t411
              have r414 : 0 ≤ ((V412 0 48)).toInt ∧ ((V412 0 48)).toInt ≤ 10000 := hMV412 0 48
              have r415 : 0 ≤ ((V412 0 8)).toInt ∧ ((V412 0 8)).toInt ≤ 70000 := hMV412 0 8
              have pq416 : (V380 0 49).toInt = ((V 0 49)).toInt := congrArg Int32.toInt (ajV380 0 49 rfl)
              have r417 : 0 ≤ ((V 0 49)).toInt ∧ ((V 0 49)).toInt ≤ 10000 := hMV 0 49
              rcases t407 with ⟨q418, sx419, h420, rl421, kp422⟩ | ⟨q418, h420⟩
              · skip
                have hr423 : ∀ k, Rc gT (Crun gs (Imember :: k)) (Crun sx419 (Itake 59 :: Imember :: k)) := fun k => (hr387 k).tr (h420 (Itake 59 :: Imember :: k))
                have fz424 := RelM.rg rl421
                have ps425 := (kp422).1
                refine va_iast (D := D) (i := p0) (x := z400) hx hb hK hP hD hS 26 25 rfl rfl (i_in (a := p0.toInt) rfl (by first | omega | ((try (have i_t403 := Imp.go t403 (by omega))); omega))) dX12_member_95 (fun H locs hP hD hS => ?_)
                obtain ⟨V426, hV426⟩ : ∃ z, z = up2 V412 33 (Int32.toNatClampNeg p0) z400 := ⟨_, rfl⟩
                have hP : va_P D vwCl (mw ad kk ks.1 V426 L413) H := by rw [hV426]; exact hP
                have hD : va_D A (mw ad kk ks.1 V426 L413) := by rw [hV426]; exact hD
                have hMV426 : rgd bM V426 := hMV412.put hV426 (i_full _)
                have agV426 : agr [(0, 7), (0, 8), (0, 48), (0, 50)] [27, 28, 29, 30, 31, 32, 33, 34, 35, 36, 37, 38, 45, 46, 47] V V426 := agV412.up hV426 rfl
                refine lv_goto (tgt := 187) hx hb dX12_member_96 (by decide) ?_
                refine lv_aload_n hx hb dX12_member_187 rfl (lv_at hl 0 rfl) ?_
                refine lv_bipush (v := 59) hx hb dX12_member_188 (by decide) ?_
                have rl427 : RelM V426 L413 bq gn gT sx419 gl := RelM.ag rl421 (show agr [] [33] V412 V426 from (agr.up agr.rf hV426 rfl)) (by decide) (show agL [] L413 L413 from agL.rf) (by decide)
                have r428 : Int32.toInt 59 = 59 := by decide
                refine gA_void (gA_runV (As := [.int 59]) (rest := []) (ci := 12) (q0 := 0) hx hb hml hown hg hP hD hK hS hA hnw hgk (s_takeSignA l D ks H.size ad kk V426 L413 59 (bq) (gn) (gT) (sx419) (gl) hMV426 rl427 (sg_yes (j := 59) (by decide) (by decide) (by decide))) w2075 w2077 w96 w172 w2078 rfl rfl hdV_yX12_takeSign ⟨Nat.le_of_ble_eq_true rfl, Nat.le_of_ble_eq_true rfl⟩ rfl hl.1 rfl (Nat.le_of_ble_eq_true rfl) dX12_member_190 ⟨Nat.le_of_ble_eq_true rfl, Nat.le_of_ble_eq_true rfl⟩) hP hD hK hS hA (fun u430 H locs w431 hP hD hK hS => ?_)
                obtain ⟨V433, L434⟩ := u430
                obtain ⟨hMV433, ajV433, axL434, t432⟩ := w431
                have axL434 : L413 = L434 := Eq.symm axL434
                subst axL434
                have hP : va_P D vwCl (mw ad kk ks.1 V433 L413) H := hP
                have hD : va_D A (mw ad kk ks.1 V433 L413) := hD
                have hMV433 : rgd bM V433 := hMV433
                have ajV433 : agr [(0, 7), (0, 8)] [] V426 V433 := ajV433
                have agV433 : agr [(0, 7), (0, 8), (0, 48), (0, 50)] [27, 28, 29, 30, 31, 32, 33, 34, 35, 36, 37, 38, 45, 46, 47] V V433 := agV426.tr ajV433 (by decide) (by decide)
                have t432 : ((V433 0 8).toInt = 0 ∧ (gT).1 ((sx419).1 0) = (Int32.toInt 59) ∧ RelM V433 L413 (bq) (gn) (gT) (nx (sx419) 1) (gl)) ∨ (1 ≤ (V433 0 8).toInt ∧ (gT).1 ((sx419).1 0) ≠ (Int32.toInt 59) ∧ (V433 0 8).toInt = 1 + 16 * (gT).2.2 ((sx419).1 0)) := t432
                rcases t432 with ⟨q435, h436, rl437⟩ | ⟨q435, h436, rl437⟩
                · skip
                  have kd438 : gT.1 (sx419.1 0) = 59 := h436.trans (by decide)
                  have hr439 : ∀ k, Rc gT (Crun gs (Imember :: k)) (Crun (nx sx419 1) (Imember :: k)) := fun k => Rc.go1 (hr423 k) (tk_y kd438)
                  have ps440 : (nx sx419 1).1 0 = sx419.1 0 + 1 := rfl
                  have fz441 := RelM.rg rl437
                  have r442 : 0 ≤ ((V433 0 8)).toInt ∧ ((V433 0 8)).toInt ≤ 70000 := hMV433 0 8
                  have pq443 : (V433 0 48).toInt = ((V412 0 48)).toInt := congrArg Int32.toInt ((ajV433 0 48 rfl).trans (up2_o hV426 (by decide)))
                  have ps444 : gs.1 0 + 1 ≤ (nx gs 1).1 0 := ((keepS.n1 1)).1
                  have ps445 : (nx (sN gs 3 1) 1).1 0 = (nx gs 1).1 0 := rfl
                  have ps446 : (nx (sN gs 3 1) 1).1 0 + 1 ≤ sx419.1 0 := (kp422).1
                  have ps447 : sx419.1 0 + 1 ≤ (nx sx419 1).1 0 := ((keepS.n1 1)).1
                  have cs448 : 0 ≤ (V433 33 gc).toInt := by have h9 : V433 33 (Int32.toNatClampNeg p0) = z400 := ((ajV433 33 (Int32.toNatClampNeg p0) rfl).trans (up2_s hV426)); rw [kgc] at h9; rw [h9]; omega
                  have rw449 : RoV 35 bq V V433 := (fun k hk => ((ajV433 35 k rfl).trans ((up2_o hV426 (by decide)).trans ((t408 k hk).trans ((ajV380 35 k rfl).trans rfl)))))
                  have rw450 : RoV 37 bq V V433 := (fun k hk => ((ajV433 37 k rfl).trans ((up2_o hV426 (by decide)).trans ((t409 k hk).trans ((ajV380 37 k rfl).trans rfl)))))
                  have rw451 : RoL 36 20 bq L L413 := (fun k hk => ((t410 k hk).trans rfl))
                  have rw452 : RoL 38 20 bq L L413 := (fun k hk => ((t411 k hk).trans rfl))
                  exact W.vret hx hb hr (fun t ht hW => ⟨⟨(V433, L413), rfl, ⟨hMV433, agV433, alL413, (Imp.mk (fun hp => have hp : (V433 0 8).toInt = 0 := hp; (show (V433 0 48).toInt ≤ 2 * (V433 0 7).toInt from by first | omega | ((try (have i_t403 := Imp.go t403 (by omega))); omega)))), (show (V433 0 48).toInt ≤ 8120 from by first | omega | ((try (have i_t403 := Imp.go t403 (by omega))); omega)), (Or.inl ⟨W0 rl437, (nx sx419 1), hr439, rl437, (by omega), (OWm.cl ow (keepS.tr (keepS.tr (keepS.rf : keepS (nx (sN gs 3 1) 1) 0 (nx (sN gs 3 1) 1)) kp422) (keepS.n1 1)) (Rc.ml (hr439 [])) (show V433 27 gc = V 27 gc from ((ajV433 27 _ rfl).trans ((up2_o hV426 (by decide)).trans ((ajV412 27 _ rfl).trans ((ajV380 27 _ rfl).trans rfl))))) (show V433 32 gc = V 32 gc from ((ajV433 32 _ rfl).trans ((up2_o hV426 (by decide)).trans ((ajV412 32 _ rfl).trans ((ajV380 32 _ rfl).trans rfl))))) cs448 (fun f hf => ((show agr [(0, 7), (0, 8), (0, 48), (0, 50)] [33, 35, 36, 37, 38, 45, 46, 47] V V433 from (agr.tr (agr.up (agr.tr (agr.tr agr.rf ajV380 (by decide) (by decide)) ajV412 (by decide) (by decide)) hV426 rfl) ajV433 (by decide) (by decide))) 34 _ rfl))), ((((keepS.n1 1)).2.2.1 2 (by decide)).trans (((kp422).2.2.1 2 (by decide)).trans ((rfl : (nx (sN gs 3 1) 1).2.1 2 = (nx gs 1).2.1 2).trans ((((keepS.n1 1)).2.2.1 2 (by decide)).trans (rfl : gs.2.1 2 = gs.2.1 2))))), ((congrArg (fun q9 => q9.1) ((keepS.n1 1)).2.2.2).trans ((congrArg (fun q9 => q9.1) (kp422).2.2.2).trans ((rfl : (nx (sN gs 3 1) 1).2.2.1 = (nx gs 1).2.2.1).trans ((congrArg (fun q9 => q9.1) ((keepS.n1 1)).2.2.2).trans (rfl : gs.2.2.1 = gs.2.2.1)))))⟩), rw449, rw450, rw451, rw452⟩, by rw [ht]; exact hP, va_K.moved hW.alike hK, hD⟩, hS.F ht⟩) hS.2.2 dX12_member_193
                · skip
                  have kd453 : gT.1 (sx419.1 0) ≠ 59 := fun h9 => h436 (h9.trans (by decide))
                  have hb454 : ∀ k, Rc gT (Crun gs (Imember :: k)) (Cbad (V433 0 8).toInt) := fun k => Rc.go1 (hr423 k) ((tk_n kd453).trans (fl_eq rfl rl437))
                  have r455 : 0 ≤ ((V433 0 8)).toInt ∧ ((V433 0 8)).toInt ≤ 70000 := hMV433 0 8
                  have pq456 : (V433 0 48).toInt = ((V412 0 48)).toInt := congrArg Int32.toInt ((ajV433 0 48 rfl).trans (up2_o hV426 (by decide)))
                  have rw457 : RoV 35 bq V V433 := (fun k hk => ((ajV433 35 k rfl).trans ((up2_o hV426 (by decide)).trans ((t408 k hk).trans ((ajV380 35 k rfl).trans rfl)))))
                  have rw458 : RoV 37 bq V V433 := (fun k hk => ((ajV433 37 k rfl).trans ((up2_o hV426 (by decide)).trans ((t409 k hk).trans ((ajV380 37 k rfl).trans rfl)))))
                  have rw459 : RoL 36 20 bq L L413 := (fun k hk => ((t410 k hk).trans rfl))
                  have rw460 : RoL 38 20 bq L L413 := (fun k hk => ((t411 k hk).trans rfl))
                  exact W.vret hx hb hr (fun t ht hW => ⟨⟨(V433, L413), rfl, ⟨hMV433, agV433, alL413, (Imp.mk (fun hp => have hp : (V433 0 8).toInt = 0 := hp; (show (V433 0 48).toInt ≤ 2 * (V433 0 7).toInt from by first | omega | ((try (have i_t403 := Imp.go t403 (by omega))); omega)))), (show (V433 0 48).toInt ≤ 8120 from by first | omega | ((try (have i_t403 := Imp.go t403 (by omega))); omega)), (Or.inr ⟨(show 1 ≤ (V433 0 8).toInt from by omega), hb454⟩), rw457, rw458, rw459, rw460⟩, by rw [ht]; exact hP, va_K.moved hW.alike hK, hD⟩, hS.F ht⟩) hS.2.2 dX12_member_193
              · skip
                have hb461 : ∀ k, Rc gT (Crun gs (Imember :: k)) (Cbad (V412 0 8).toInt) := fun k => (hr387 k).tr (h420 (Itake 59 :: Imember :: k))
                refine va_iast (D := D) (i := p0) (x := z400) hx hb hK hP hD hS 26 25 rfl rfl (i_in (a := p0.toInt) rfl (by first | omega | ((try (have i_t403 := Imp.go t403 (by omega))); omega))) dX12_member_95 (fun H locs hP hD hS => ?_)
                obtain ⟨V462, hV462⟩ : ∃ z, z = up2 V412 33 (Int32.toNatClampNeg p0) z400 := ⟨_, rfl⟩
                have hP : va_P D vwCl (mw ad kk ks.1 V462 L413) H := by rw [hV462]; exact hP
                have hD : va_D A (mw ad kk ks.1 V462 L413) := by rw [hV462]; exact hD
                have hMV462 : rgd bM V462 := hMV412.put hV462 (i_full _)
                have agV462 : agr [(0, 7), (0, 8), (0, 48), (0, 50)] [27, 28, 29, 30, 31, 32, 33, 34, 35, 36, 37, 38, 45, 46, 47] V V462 := agV412.up hV462 rfl
                refine lv_goto (tgt := 187) hx hb dX12_member_96 (by decide) ?_
                refine lv_aload_n hx hb dX12_member_187 rfl (lv_at hl 0 rfl) ?_
                refine lv_bipush (v := 59) hx hb dX12_member_188 (by decide) ?_
                have r463 : Int32.toInt 59 = 59 := by decide
                have pq464 : (V462 0 8).toInt = ((V412 0 8)).toInt := congrArg Int32.toInt (up2_o hV462 (by decide))
                refine gA_void (gA_runV (As := [.int 59]) (rest := []) (ci := 12) (q0 := 0) hx hb hml hown hg hP hD hK hS hA hnw hgk (s_takeSignB l D ks H.size ad kk V462 L413 59 hMV462 (show 1 ≤ (V462 0 8).toInt from by first | omega | ((try (have i_t403 := Imp.go t403 (by omega))); omega))) w2075 w2077 w96 w172 w2078 rfl rfl hdV_yX12_takeSign ⟨Nat.le_of_ble_eq_true rfl, Nat.le_of_ble_eq_true rfl⟩ rfl hl.1 rfl (Nat.le_of_ble_eq_true rfl) dX12_member_190 ⟨Nat.le_of_ble_eq_true rfl, Nat.le_of_ble_eq_true rfl⟩) hP hD hK hS hA (fun u466 H locs w467 hP hD hK hS => ?_)
                obtain ⟨V469, L470⟩ := u466
                obtain ⟨hMV469, ajV469, axL470, t468⟩ := w467
                have axL470 : L413 = L470 := Eq.symm axL470
                subst axL470
                have hP : va_P D vwCl (mw ad kk ks.1 V469 L413) H := hP
                have hD : va_D A (mw ad kk ks.1 V469 L413) := hD
                have hMV469 : rgd bM V469 := hMV469
                have ajV469 : agr [(0, 7), (0, 8)] [] V462 V469 := ajV469
                have agV469 : agr [(0, 7), (0, 8), (0, 48), (0, 50)] [27, 28, 29, 30, 31, 32, 33, 34, 35, 36, 37, 38, 45, 46, 47] V V469 := agV462.tr ajV469 (by decide) (by decide)
                have t468 : (V469 0 8).toInt = (V462 0 8).toInt := t468
                have r471 : 0 ≤ ((V469 0 8)).toInt ∧ ((V469 0 8)).toInt ≤ 70000 := hMV469 0 8
                have pq472 : (V469 0 48).toInt = ((V412 0 48)).toInt := congrArg Int32.toInt ((ajV469 0 48 rfl).trans (up2_o hV462 (by decide)))
                have rw473 : RoV 35 bq V V469 := (fun k hk => ((ajV469 35 k rfl).trans ((up2_o hV462 (by decide)).trans ((t408 k hk).trans ((ajV380 35 k rfl).trans rfl)))))
                have rw474 : RoV 37 bq V V469 := (fun k hk => ((ajV469 37 k rfl).trans ((up2_o hV462 (by decide)).trans ((t409 k hk).trans ((ajV380 37 k rfl).trans rfl)))))
                have rw475 : RoL 36 20 bq L L413 := (fun k hk => ((t410 k hk).trans rfl))
                have rw476 : RoL 38 20 bq L L413 := (fun k hk => ((t411 k hk).trans rfl))
                exact W.vret hx hb hr (fun t ht hW => ⟨⟨(V469, L413), rfl, ⟨hMV469, agV469, alL413, (Imp.mk (fun hp => have hp : (V469 0 8).toInt = 0 := hp; (show (V469 0 48).toInt ≤ 2 * (V469 0 7).toInt from by first | omega | ((try (have i_t403 := Imp.go t403 (by omega))); omega)))), (show (V469 0 48).toInt ≤ 8120 from by first | omega | ((try (have i_t403 := Imp.go t403 (by omega))); omega)), (Or.inr ⟨(show 1 ≤ (V469 0 8).toInt from by omega), (fun k => by rw [show (V469 0 8).toInt = (V412 0 8).toInt from by omega]; exact hb461 k)⟩), rw473, rw474, rw475, rw476⟩, by rw [ht]; exact hP, va_K.moved hW.alike hK, hD⟩, hS.F ht⟩) hS.2.2 dX12_member_193
          · skip
            have kd477 : gT.1 (gs.1 0) ≠ 141 := fun h9 => h383 (h9.trans (by decide))
            have fz478 := RelM.rg rl384
            have pq479 : (V380 0 8).toInt = ((V 0 8)).toInt := congrArg Int32.toInt (ajV380 0 8 rfl)
            have r480 : 0 ≤ ((V 0 8)).toInt ∧ ((V 0 8)).toInt ≤ 70000 := hMV 0 8
            refine lv_if_eq (tgt := 99) hx hb dX12_member_83 (by decide) (fun c481 => ?_) (fun c481 => ?_)
            · skip
              have f482 : z376.toInt = 0 := b_eq rfl (by decide) c481
              refine lv_aload_n hx hb dX12_member_99 rfl (lv_at hl 0 rfl) ?_
              refine lv_bipush (v := 14) hx hb dX12_member_100 (by decide) ?_
              have r483 : Int32.toInt 14 = 14 := by decide
              refine gA_int (gA_runV (As := [.int 14]) (rest := []) (ci := 12) (q0 := 0) hx hb hml hown hg hP hD hK hS hA hnw hgk (s_hasWordA l D ks H.size ad kk V380 L 14 (bq) (gn) (gT) (gs) (gl) hMV380 (by decide) rl384) w2051 w2053 w90 w172 w2054 rfl rfl hdV_yX12_hasWord ⟨Nat.le_of_ble_eq_true rfl, Nat.le_of_ble_eq_true rfl⟩ rfl hl.1 rfl (Nat.le_of_ble_eq_true rfl) dX12_member_102 ⟨Nat.le_of_ble_eq_true rfl, Nat.le_of_ble_eq_true rfl⟩) hP hD hK hS hA (fun z484 u485 H locs w486 hP hD hK hS => ?_)
              obtain ⟨V488, L489⟩ := u485
              obtain ⟨hMV488, ajV488, axL489, rgz484, t487⟩ := w486
              have axL489 : L = L489 := Eq.symm axL489
              subst axL489
              have hP : va_P D vwCl (mw ad kk ks.1 V488 L) H := hP
              have hD : va_D A (mw ad kk ks.1 V488 L) := hD
              have hMV488 : rgd bM V488 := hMV488
              have ajV488 : agr [(0, 7)] [] V380 V488 := ajV488
              have agV488 : agr [(0, 7), (0, 8), (0, 48), (0, 50)] [27, 28, 29, 30, 31, 32, 33, 34, 35, 36, 37, 38, 45, 46, 47] V V488 := agV380.tr ajV488 (by decide) (by decide)
              have rgz484 : 0 ≤ z484.toInt ∧ z484.toInt ≤ 1 := rgz484
              have t487 : (z484.toInt = 1 ∧ (gT).1 ((gs).1 0) = 128 + (Int32.toInt 14) ∧ RelM V488 L (bq) (gn) (gT) (nx (gs) 1) (gl)) ∨ (z484.toInt = 0 ∧ (gT).1 ((gs).1 0) ≠ 128 + (Int32.toInt 14) ∧ RelM V488 L (bq) (gn) (gT) (gs) (gl)) := t487
              rcases t487 with ⟨q490, h491, rl492⟩ | ⟨q490, h491, rl492⟩
              · skip
                have kd493 : gT.1 (gs.1 0) = 142 := h491.trans (by decide)
                have hr494 : ∀ k, Rc gT (Crun gs (Imember :: k)) (Crun gs (Imember :: k)) := fun k => Rc.rf
                have hr495 : ∀ k, Rc gT (Crun gs (Imember :: k)) (Crun (nx gs 1) (ImethN :: Iexpr 0 :: Itake 59 :: Imember :: k)) := fun k => Rc.go1 (hr494 k) (mb_142 kd493)
                have ps496 : (nx gs 1).1 0 = gs.1 0 + 1 := rfl
                have fz497 := RelM.rg rl492
                have pq498 : (V488 0 8).toInt = ((V 0 8)).toInt := congrArg Int32.toInt ((ajV488 0 8 rfl).trans (ajV380 0 8 rfl))
                refine lv_if_eq (tgt := 182) hx hb dX12_member_105 (by decide) (fun c499 => ?_) (fun c499 => ?_)
                · skip
                  have f500 : z484.toInt = 0 := b_eq rfl (by decide) c499
                  exfalso; omega
                · skip
                  have f501 : z484.toInt ≠ 0 := b_neq rfl (by decide) c499
                  refine lv_aload_n hx hb dX12_member_108 rfl (lv_at hl 0 rfl) ?_
                  refine lv_aload_n hx hb dX12_member_109 rfl (lv_at hl 0 rfl) ?_
                  refine va_get (D := D) (ci := 12) (v := .ref (ad 36)) (C := RX12) (T := TX12) (N := 100) hx hb hg inX12 hown hK hP 0 rfl rfl 36 (by decide) (hg _ w1742) (fun _ h9 => h9) rfl dX12_member_110 ?_
                  refine lv_aload_n hx hb dX12_member_113 rfl (lv_at hl 0 rfl) ?_
                  refine va_get (D := D) (ci := 12) (v := .ref (ad 35)) (C := RX12) (T := TX12) (N := 100) hx hb hg inX12 hown hK hP 0 rfl rfl 35 (by decide) (hg _ w1741) (fun _ h9 => h9) rfl dX12_member_114 ?_
                  refine gA_int (gA_runV (As := [.ref (ad 36), .ref (ad 35)]) (rest := []) (ci := 12) (q0 := 0) hx hb hml hown hg hP hD hK hS hA hnw hgk (s_takeWordOf3 l D ks H.size ad kk V488 L (bq) (gn) (gT) ((nx gs 1)) (gl) hMV488 rl492) w2100 w2102 w102 w172 w2103 rfl rfl hdV_yX12_takeWordOf ⟨Nat.le_of_ble_eq_true rfl, Nat.le_of_ble_eq_true rfl⟩ rfl hl.1 rfl (Nat.le_of_ble_eq_true rfl) dX12_member_117 ⟨Nat.le_of_ble_eq_true rfl, Nat.le_of_ble_eq_true rfl⟩) hP hD hK hS hA (fun z502 u503 H locs w504 hP hD hK hS => ?_)
                  obtain ⟨V510, L511⟩ := u503
                  obtain ⟨hMV510, ajV510, axL511, rgz502, t505, t506, t507, t508, t509⟩ := w504
                  have alL511 : agL [27, 28, 29, 30, 31, 32, 33, 34, 35, 36, 37, 38, 45, 46, 47] L L511 := agL.tr alL axL511 (by decide)
                  have hP : va_P D vwCl (mw ad kk ks.1 V510 L511) H := hP
                  have hD : va_D A (mw ad kk ks.1 V510 L511) := hD
                  have hMV510 : rgd bM V510 := hMV510
                  have ajV510 : agr [(0, 7), (0, 8)] [35, 36, 37, 38] V488 V510 := ajV510
                  have agV510 : agr [(0, 7), (0, 8), (0, 48), (0, 50)] [27, 28, 29, 30, 31, 32, 33, 34, 35, 36, 37, 38, 45, 46, 47] V V510 := agV488.tr ajV510 (by decide) (by decide)
                  have rgz502 : (-1) ≤ z502.toInt ∧ z502.toInt ≤ 19 := rgz502
                  have t505 : KmS (mthW (gT) ((nx gs 1)) 3) (V510 0 8).toInt (fun x9 => RelM V510 L511 (bq) (gn) (gT) x9.2 (gl) ∧ z502.toInt = ((x9.1 : Nat) : Int) ∧ x9.1 < 20 ∧ keepS ((nx gs 1)) 1 x9.2 ∧ MTX (gT) ((nx gs 1)) 3 x9) := t505
                  have t506 : RoV 35 (bq) V488 V510 := t506
                  have t507 : RoV 37 (bq) V488 V510 := t507
                  have t508 : RoL 36 20 (bq) L L511 := t508
                  have t509 : RoL 38 20 (bq) L L511 := t509
                  rcases t505 with ⟨q512, mx513, h514, rl515, hf516, hb517, kp518, mt519⟩ | ⟨q512, h514⟩
                  · skip
                    have ps520 := kp518.1
                    have fz521 := RelM.rg rl515
                    have r522 : 0 ≤ ((V510 0 8)).toInt ∧ ((V510 0 8)).toInt ≤ 70000 := hMV510 0 8
                    refine lv_istore_n (lv' := [(2, .int z502), (0, .ref (ad 0)), (1, .int p0)]) hx hb dX12_member_120 rfl hl (by decide) rfl (fun ls hl => ?_)
                    refine lv_aload_n hx hb dX12_member_121 rfl (lv_at hl 1 rfl) ?_
                    refine va_get (D := D) (ci := 12) (v := .int (V510 0 8)) (C := RX12) (T := TX12) (N := 100) hx hb hg inX12 hown hK hP 0 rfl rfl 8 (by decide) (hg _ w1714) (fun _ h9 => h9) rfl dX12_member_122 ?_
                    refine lv_if_ne (tgt := 157) hx hb dX12_member_125 (by decide) (fun c523 => ?_) (fun c523 => ?_)
                    · skip
                      have f524 : ((V510 0 8)).toInt ≠ 0 := b_neq rfl (by decide) c523
                      exfalso; omega
                    · skip
                      have f525 : ((V510 0 8)).toInt = 0 := b_eq rfl (by decide) c523
                      refine lv_aload_n hx hb dX12_member_128 rfl (lv_at hl 1 rfl) ?_
                      refine va_get (D := D) (ci := 12) (v := .ref (ad 34)) (C := RX12) (T := TX12) (N := 100) hx hb hg inX12 hown hK hP 0 rfl rfl 34 (by decide) (hg _ w1740) (fun _ h9 => h9) rfl dX12_member_129 ?_
                      refine lv_bipush (v := 20) hx hb dX12_member_132 (by decide) ?_
                      refine lv_iload_n hx hb dX12_member_134 rfl (lv_at hl 2 rfl) ?_
                      refine lv_imul hx hb dX12_member_135 ?_
                      refine lv_topi (fun z526 ez526 => ?_)
                      have hz526 : z526.toInt = 20 * p0.toInt := i_mul ez526 (by decide) rfl (by omega)
                      refine lv_iload_n hx hb dX12_member_136 rfl (lv_at hl 0 rfl) ?_
                      refine lv_iadd hx hb dX12_member_137 ?_
                      refine lv_topi (fun z527 ez527 => ?_)
                      have hz527 : z527.toInt = z526.toInt + z502.toInt := i_add ez527 rfl rfl (by omega)
                      refine va_iald (D := D) (i := z527) hx hb hK hP 27 26 rfl rfl (i_in (a := z527.toInt) rfl (by omega)) dX12_member_138 ?_
                      refine g_top (v := (V 34 (Int32.toNatClampNeg z527))) ((ajV510 34 (Int32.toNatClampNeg z527) rfl).trans ((ajV488 34 (Int32.toNatClampNeg z527) rfl).trans (ajV380 34 (Int32.toNatClampNeg z527) rfl))) ?_
                      have kc529 : Int32.toNatClampNeg z527 = 20 * gc + mx513.1 := by have h9 := i_clamp (x := z527) rfl (by omega); omega
                      have ma528 : (V 34 (Int32.toNatClampNeg z527)).toInt = (V 34 (20 * gc + mx513.1)).toInt := by rw [kc529]
                      have ow5 := ow.2.2.2.2.1 mx513.1 hb517
                      have oS : (nx gs 1).2.2.2 = gs.2.2.2 := congrArg (fun q9 => q9.2) ((keepS.tr (keepS.rf : keepS gs 0 gs) (keepS.n1 1))).2.2.2
                      have oL : (nx gs 1).2.1 3 = gs.2.1 3 := rfl
                      refine lv_if_lt (tgt := 157) hx hb dX12_member_139 (by decide) (fun c530 => ?_) (fun c530 => ?_)
                      · skip
                        have f531 : ((V 34 (Int32.toNatClampNeg z527))).toInt < 0 := b_lt rfl (by decide) c530
                        refine lv_aload_n hx hb dX12_member_157 rfl (lv_at hl 1 rfl) ?_
                        refine va_get (D := D) (ci := 12) (v := .int (V510 0 8)) (C := RX12) (T := TX12) (N := 100) hx hb hg inX12 hown hK hP 0 rfl rfl 8 (by decide) (hg _ w1714) (fun _ h9 => h9) rfl dX12_member_158 ?_
                        refine lv_if_ne (tgt := 179) hx hb dX12_member_161 (by decide) (fun c532 => ?_) (fun c532 => ?_)
                        · skip
                          have f533 : ((V510 0 8)).toInt ≠ 0 := b_neq rfl (by decide) c532
                          exfalso; omega
                        · skip
                          have f534 : ((V510 0 8)).toInt = 0 := b_eq rfl (by decide) c532
                          have nt9 : mx513.1 ∉ (nx gs 1).2.2.2 := by rw [oS]; exact fun q9 => absurd (ow5.mpr q9) (by omega)
                          have hr535 : ∀ k, Rc gT (Crun gs (Imember :: k)) (Crun (sT mx513.2 (mx513.1 :: (nx gs 1).2.2.2)) (Iexpr 0 :: Itake 59 :: Imember :: k)) := fun k => Rc.go1 (hr495 k) (mn_y (MTX.new mt519 h514 nt9))
                          have ps536 : (sT mx513.2 (mx513.1 :: (nx gs 1).2.2.2)).1 0 = mx513.2.1 0 := rfl
                          have rl537 : RelM V510 L511 bq gn gT (sT mx513.2 (mx513.1 :: (nx gs 1).2.2.2)) gl := RelM.tl rl515
                          refine lv_aload_n hx hb dX12_member_164 rfl (lv_at hl 1 rfl) ?_
                          refine va_get (D := D) (ci := 12) (v := .ref (ad 34)) (C := RX12) (T := TX12) (N := 100) hx hb hg inX12 hown hK hP 0 rfl rfl 34 (by decide) (hg _ w1740) (fun _ h9 => h9) rfl dX12_member_165 ?_
                          refine lv_bipush (v := 20) hx hb dX12_member_168 (by decide) ?_
                          refine lv_iload_n hx hb dX12_member_170 rfl (lv_at hl 2 rfl) ?_
                          refine lv_imul hx hb dX12_member_171 ?_
                          refine lv_topi (fun z538 ez538 => ?_)
                          have hz538 : z538.toInt = 20 * p0.toInt := i_mul ez538 (by decide) rfl (by omega)
                          refine lv_iload_n hx hb dX12_member_172 rfl (lv_at hl 0 rfl) ?_
                          refine lv_iadd hx hb dX12_member_173 ?_
                          refine lv_topi (fun z539 ez539 => ?_)
                          have hz539 : z539.toInt = z538.toInt + z502.toInt := i_add ez539 rfl rfl (by omega)
                          refine lv_aload_n hx hb dX12_member_174 rfl (lv_at hl 1 rfl) ?_
                          have pq540 : (V510 0 48).toInt = ((V 0 48)).toInt := congrArg Int32.toInt ((ajV510 0 48 rfl).trans ((ajV488 0 48 rfl).trans (ajV380 0 48 rfl)))
                          have pq541 : (V510 0 51).toInt = ((V 0 51)).toInt := congrArg Int32.toInt ((ajV510 0 51 rfl).trans ((ajV488 0 51 rfl).trans (ajV380 0 51 rfl)))
                          have pq542 : (V510 0 52).toInt = ((V 0 52)).toInt := congrArg Int32.toInt ((ajV510 0 52 rfl).trans ((ajV488 0 52 rfl).trans (ajV380 0 52 rfl)))
                          refine gA_int (gA_runV (As := []) (rest := [.int z539, .ref (ad 34)]) (ci := 12) (q0 := 0) hx hb hml hown hg hP hD hK hS hA hnw hgk (s_codeA l D ks H.size ad kk V510 L511 (bq) (gn) (gT) ((sT mx513.2 (mx513.1 :: (nx gs 1).2.2.2))) (gl) hMV510 rl537 (show (V510 0 48).toInt ≤ 2 * (V510 0 7).toInt from by omega) (EM.o2 (o := gc) (show (V510 27 gc).toInt = ((mx513.2.1 1 : Nat) : Int) from by rw [(by rw [(funext (fun q => ajV510 27 q rfl) : V510 27 = V488 27), (funext (fun q => ajV488 27 q rfl) : V488 27 = V380 27), (funext (fun q => ajV380 27 q rfl) : V380 27 = V 27)] : V510 27 = V 27)]; exact (by rw [((keepS.tr (keepS.tr (keepS.rf : keepS gs 0 gs) (keepS.n1 1)) kp518)).2.1 1 (by decide)]; exact ow.1)) (show mx513.2.1 4 = 0 from (by rw [((keepS.tr (keepS.tr (keepS.rf : keepS gs 0 gs) (keepS.n1 1)) kp518)).2.1 4 (by decide)]; exact ow.2.2.2.1)) (by omega) (by omega))) w2112 w2114 w105 w172 w2115 rfl rfl hdV_yX12_code ⟨Nat.le_of_ble_eq_true rfl, Nat.le_of_ble_eq_true rfl⟩ rfl hl.1 rfl (Nat.le_of_ble_eq_true rfl) dX12_member_175 ⟨Nat.le_of_ble_eq_true rfl, Nat.le_of_ble_eq_true rfl⟩) hP hD hK hS hA (fun z543 u544 H locs w545 hP hD hK hS => ?_)
                          obtain ⟨V555, L556⟩ := u544
                          obtain ⟨hMV555, ajV555, axL556, rgz543, t546, t547, t548, t549, t550, t551, t552, t553, t554⟩ := w545
                          have alL556 : agL [27, 28, 29, 30, 31, 32, 33, 34, 35, 36, 37, 38, 45, 46, 47] L L556 := agL.tr alL511 axL556 (by decide)
                          have hP : va_P D vwCl (mw ad kk ks.1 V555 L556) H := hP
                          have hD : va_D A (mw ad kk ks.1 V555 L556) := hD
                          have hMV555 : rgd bM V555 := hMV555
                          have ajV555 : agr [(0, 7), (0, 8), (0, 48), (0, 50)] [35, 36, 37, 38, 45, 46, 47] V510 V555 := ajV555
                          have agV555 : agr [(0, 7), (0, 8), (0, 48), (0, 50)] [27, 28, 29, 30, 31, 32, 33, 34, 35, 36, 37, 38, 45, 46, 47] V V555 := agV510.tr ajV555 (by decide) (by decide)
                          have rgz543 : 0 ≤ z543.toInt ∧ z543.toInt ≤ 20000 := rgz543
                          have t546 : Imp ((V555 0 8).toInt = 0) ((V555 0 48).toInt - (V510 0 48).toInt ≤ 2 * ((V555 0 7).toInt - (V510 0 7).toInt) + 1) := t546
                          have t547 : (V555 0 48).toInt ≤ 8060 := t547
                          have t548 : (V510 0 48).toInt ≤ (V555 0 48).toInt := t548
                          have t549 : z543.toInt = (V510 0 49).toInt + (V510 0 48).toInt := t549
                          have t550 : RdM (gT) ((sT mx513.2 (mx513.1 :: (nx gs 1).2.2.2))) (fun k => Iexpr 0 :: k) (fun k => k) (V555 0 8).toInt (fun s9 => RelM V555 L556 (bq) (gn) (gT) s9 (gl) ∧ keepS ((sT mx513.2 (mx513.1 :: (nx gs 1).2.2.2))) 1 s9) := t550
                          have t551 : RoV 35 (bq) V510 V555 := t551
                          have t552 : RoV 37 (bq) V510 V555 := t552
                          have t553 : RoL 36 20 (bq) L511 L556 := t553
                          have t554 : RoL 38 20 (bq) L511 L556 := t554
                          have r557 : 0 ≤ ((V555 0 48)).toInt ∧ ((V555 0 48)).toInt ≤ 10000 := hMV555 0 48
                          have r558 : 0 ≤ ((V555 0 8)).toInt ∧ ((V555 0 8)).toInt ≤ 70000 := hMV555 0 8
                          have pq559 : (V510 0 49).toInt = ((V 0 49)).toInt := congrArg Int32.toInt ((ajV510 0 49 rfl).trans ((ajV488 0 49 rfl).trans (ajV380 0 49 rfl)))
                          have r560 : 0 ≤ ((V 0 49)).toInt ∧ ((V 0 49)).toInt ≤ 10000 := hMV 0 49
                          rcases t550 with ⟨q561, sx562, h563, rl564, kp565⟩ | ⟨q561, h563⟩
                          · skip
                            have hr566 : ∀ k, Rc gT (Crun gs (Imember :: k)) (Crun sx562 (Itake 59 :: Imember :: k)) := fun k => (hr535 k).tr (h563 (Itake 59 :: Imember :: k))
                            have fz567 := RelM.rg rl564
                            have ps568 := (kp565).1
                            refine va_iast (D := D) (i := z539) (x := z543) hx hb hK hP hD hS 27 26 rfl rfl (i_in (a := z539.toInt) rfl (by first | omega | ((try (have i_t546 := Imp.go t546 (by omega))); omega))) dX12_member_178 (fun H locs hP hD hS => ?_)
                            obtain ⟨V569, hV569⟩ : ∃ z, z = up2 V555 34 (Int32.toNatClampNeg z539) z543 := ⟨_, rfl⟩
                            have hP : va_P D vwCl (mw ad kk ks.1 V569 L556) H := by rw [hV569]; exact hP
                            have hD : va_D A (mw ad kk ks.1 V569 L556) := by rw [hV569]; exact hD
                            have hMV569 : rgd bM V569 := hMV555.put hV569 (i_full _)
                            have agV569 : agr [(0, 7), (0, 8), (0, 48), (0, 50)] [27, 28, 29, 30, 31, 32, 33, 34, 35, 36, 37, 38, 45, 46, 47] V V569 := agV555.up hV569 rfl
                            refine lv_goto (tgt := 187) hx hb dX12_member_179 (by decide) ?_
                            refine lv_aload_n hx hb dX12_member_187 rfl (lv_at hl 1 rfl) ?_
                            refine lv_bipush (v := 59) hx hb dX12_member_188 (by decide) ?_
                            have rl570 : RelM V569 L556 bq gn gT sx562 gl := RelM.ag rl564 (show agr [] [34] V555 V569 from (agr.up agr.rf hV569 rfl)) (by decide) (show agL [] L556 L556 from agL.rf) (by decide)
                            have r571 : Int32.toInt 59 = 59 := by decide
                            refine gA_void (gA_runV (As := [.int 59]) (rest := []) (ci := 12) (q0 := 0) hx hb hml hown hg hP hD hK hS hA hnw hgk (s_takeSignA l D ks H.size ad kk V569 L556 59 (bq) (gn) (gT) (sx562) (gl) hMV569 rl570 (sg_yes (j := 59) (by decide) (by decide) (by decide))) w2075 w2077 w96 w172 w2078 rfl rfl hdV_yX12_takeSign ⟨Nat.le_of_ble_eq_true rfl, Nat.le_of_ble_eq_true rfl⟩ rfl hl.1 rfl (Nat.le_of_ble_eq_true rfl) dX12_member_190 ⟨Nat.le_of_ble_eq_true rfl, Nat.le_of_ble_eq_true rfl⟩) hP hD hK hS hA (fun u573 H locs w574 hP hD hK hS => ?_)
                            obtain ⟨V576, L577⟩ := u573
                            obtain ⟨hMV576, ajV576, axL577, t575⟩ := w574
                            have axL577 : L556 = L577 := Eq.symm axL577
                            subst axL577
                            have hP : va_P D vwCl (mw ad kk ks.1 V576 L556) H := hP
                            have hD : va_D A (mw ad kk ks.1 V576 L556) := hD
                            have hMV576 : rgd bM V576 := hMV576
                            have ajV576 : agr [(0, 7), (0, 8)] [] V569 V576 := ajV576
                            have agV576 : agr [(0, 7), (0, 8), (0, 48), (0, 50)] [27, 28, 29, 30, 31, 32, 33, 34, 35, 36, 37, 38, 45, 46, 47] V V576 := agV569.tr ajV576 (by decide) (by decide)
                            have t575 : ((V576 0 8).toInt = 0 ∧ (gT).1 ((sx562).1 0) = (Int32.toInt 59) ∧ RelM V576 L556 (bq) (gn) (gT) (nx (sx562) 1) (gl)) ∨ (1 ≤ (V576 0 8).toInt ∧ (gT).1 ((sx562).1 0) ≠ (Int32.toInt 59) ∧ (V576 0 8).toInt = 1 + 16 * (gT).2.2 ((sx562).1 0)) := t575
                            rcases t575 with ⟨q578, h579, rl580⟩ | ⟨q578, h579, rl580⟩
                            · skip
                              have kd581 : gT.1 (sx562.1 0) = 59 := h579.trans (by decide)
                              have hr582 : ∀ k, Rc gT (Crun gs (Imember :: k)) (Crun (nx sx562 1) (Imember :: k)) := fun k => Rc.go1 (hr566 k) (tk_y kd581)
                              have ps583 : (nx sx562 1).1 0 = sx562.1 0 + 1 := rfl
                              have fz584 := RelM.rg rl580
                              have r585 : 0 ≤ ((V576 0 8)).toInt ∧ ((V576 0 8)).toInt ≤ 70000 := hMV576 0 8
                              have pq586 : (V576 0 48).toInt = ((V555 0 48)).toInt := congrArg Int32.toInt ((ajV576 0 48 rfl).trans (up2_o hV569 (by decide)))
                              have ps587 : gs.1 0 + 1 ≤ (nx gs 1).1 0 := ((keepS.n1 1)).1
                              have ps588 : (nx gs 1).1 0 + 1 ≤ mx513.2.1 0 := (kp518).1
                              have ps589 : (sT mx513.2 (mx513.1 :: (nx gs 1).2.2.2)).1 0 = mx513.2.1 0 := rfl
                              have ps590 : (sT mx513.2 (mx513.1 :: (nx gs 1).2.2.2)).1 0 + 1 ≤ sx562.1 0 := (kp565).1
                              have ps591 : sx562.1 0 + 1 ≤ (nx sx562 1).1 0 := ((keepS.n1 1)).1
                              have k34 : (Int32.toNatClampNeg z539) = 20 * gc + mx513.1 := by have h9 := i_clamp (x := z539) rfl (by omega); omega
                              have cs592 : 0 ≤ (V576 34 (20 * gc + mx513.1)).toInt := by have h9 : V576 34 (Int32.toNatClampNeg z539) = z543 := ((ajV576 34 (Int32.toNatClampNeg z539) rfl).trans (up2_s hV569)); rw [k34] at h9; rw [h9]; omega
                              have rw593 : RoV 35 bq V V576 := (fun k hk => ((ajV576 35 k rfl).trans ((up2_o hV569 (by decide)).trans ((t551 k hk).trans ((t506 k hk).trans ((ajV488 35 k rfl).trans ((ajV380 35 k rfl).trans rfl)))))))
                              have rw594 : RoV 37 bq V V576 := (fun k hk => ((ajV576 37 k rfl).trans ((up2_o hV569 (by decide)).trans ((t552 k hk).trans ((t507 k hk).trans ((ajV488 37 k rfl).trans ((ajV380 37 k rfl).trans rfl)))))))
                              have rw595 : RoL 36 20 bq L L556 := (fun k hk => ((t553 k hk).trans ((t508 k hk).trans rfl)))
                              have rw596 : RoL 38 20 bq L L556 := (fun k hk => ((t554 k hk).trans ((t509 k hk).trans rfl)))
                              exact W.vret hx hb hr (fun t ht hW => ⟨⟨(V576, L556), rfl, ⟨hMV576, agV576, alL556, (Imp.mk (fun hp => have hp : (V576 0 8).toInt = 0 := hp; (show (V576 0 48).toInt ≤ 2 * (V576 0 7).toInt from by first | omega | ((try (have i_t546 := Imp.go t546 (by omega))); omega)))), (show (V576 0 48).toInt ≤ 8120 from by first | omega | ((try (have i_t546 := Imp.go t546 (by omega))); omega)), (Or.inl ⟨W0 rl580, (nx sx562 1), hr582, rl580, (by omega), (OWm.mt (m := 1) ow (keepS.le (keepS.tr (keepS.rf : keepS gs 0 gs) (keepS.n1 1)) (by decide)) (Nat.le_refl _) kp518 (MTX.le mt519).1 (MTX.le mt519).2 (keepS.le (keepS.tr (keepS.tr (keepS.rf : keepS (sT mx513.2 (mx513.1 :: (nx gs 1).2.2.2)) 0 (sT mx513.2 (mx513.1 :: (nx gs 1).2.2.2))) kp565) (keepS.n1 1)) (by decide)) (show (mx513.2.2.1 3).length ≤ ((nx sx562 1).2.1 3).length from by have h9 := Rc.ml (h563 []); exact h9) (show V576 27 gc = V 27 gc from ((ajV576 27 _ rfl).trans ((up2_o hV569 (by decide)).trans ((ajV555 27 _ rfl).trans ((ajV510 27 _ rfl).trans ((ajV488 27 _ rfl).trans ((ajV380 27 _ rfl).trans rfl))))))) (show V576 32 gc = V 32 gc from ((ajV576 32 _ rfl).trans ((up2_o hV569 (by decide)).trans ((ajV555 32 _ rfl).trans ((ajV510 32 _ rfl).trans ((ajV488 32 _ rfl).trans ((ajV380 32 _ rfl).trans rfl))))))) (show V576 33 gc = V 33 gc from ((ajV576 33 _ rfl).trans ((up2_o hV569 (by decide)).trans ((ajV555 33 _ rfl).trans ((ajV510 33 _ rfl).trans ((ajV488 33 _ rfl).trans ((ajV380 33 _ rfl).trans rfl))))))) cs592 (fun f hf hne => ((ajV576 34 _ rfl).trans ((up2_k hV569 (by omega)).trans ((ajV555 34 _ rfl).trans ((ajV510 34 _ rfl).trans ((ajV488 34 _ rfl).trans ((ajV380 34 _ rfl).trans rfl)))))))), ((((keepS.n1 1)).2.2.1 2 (by decide)).trans (((kp565).2.2.1 2 (by decide)).trans ((rfl : (sT mx513.2 (mx513.1 :: (nx gs 1).2.2.2)).2.1 2 = mx513.2.2.1 2).trans (((kp518).2.2.1 2 (by decide)).trans ((((keepS.n1 1)).2.2.1 2 (by decide)).trans (rfl : gs.2.1 2 = gs.2.1 2)))))), ((congrArg (fun q9 => q9.1) ((keepS.n1 1)).2.2.2).trans ((congrArg (fun q9 => q9.1) (kp565).2.2.2).trans ((rfl : (sT mx513.2 (mx513.1 :: (nx gs 1).2.2.2)).2.2.1 = mx513.2.2.2.1).trans ((congrArg (fun q9 => q9.1) (kp518).2.2.2).trans ((congrArg (fun q9 => q9.1) ((keepS.n1 1)).2.2.2).trans (rfl : gs.2.2.1 = gs.2.2.1))))))⟩), rw593, rw594, rw595, rw596⟩, by rw [ht]; exact hP, va_K.moved hW.alike hK, hD⟩, hS.F ht⟩) hS.2.2 dX12_member_193
                            · skip
                              have kd597 : gT.1 (sx562.1 0) ≠ 59 := fun h9 => h579 (h9.trans (by decide))
                              have hb598 : ∀ k, Rc gT (Crun gs (Imember :: k)) (Cbad (V576 0 8).toInt) := fun k => Rc.go1 (hr566 k) ((tk_n kd597).trans (fl_eq rfl rl580))
                              have r599 : 0 ≤ ((V576 0 8)).toInt ∧ ((V576 0 8)).toInt ≤ 70000 := hMV576 0 8
                              have pq600 : (V576 0 48).toInt = ((V555 0 48)).toInt := congrArg Int32.toInt ((ajV576 0 48 rfl).trans (up2_o hV569 (by decide)))
                              have rw601 : RoV 35 bq V V576 := (fun k hk => ((ajV576 35 k rfl).trans ((up2_o hV569 (by decide)).trans ((t551 k hk).trans ((t506 k hk).trans ((ajV488 35 k rfl).trans ((ajV380 35 k rfl).trans rfl)))))))
                              have rw602 : RoV 37 bq V V576 := (fun k hk => ((ajV576 37 k rfl).trans ((up2_o hV569 (by decide)).trans ((t552 k hk).trans ((t507 k hk).trans ((ajV488 37 k rfl).trans ((ajV380 37 k rfl).trans rfl)))))))
                              have rw603 : RoL 36 20 bq L L556 := (fun k hk => ((t553 k hk).trans ((t508 k hk).trans rfl)))
                              have rw604 : RoL 38 20 bq L L556 := (fun k hk => ((t554 k hk).trans ((t509 k hk).trans rfl)))
                              exact W.vret hx hb hr (fun t ht hW => ⟨⟨(V576, L556), rfl, ⟨hMV576, agV576, alL556, (Imp.mk (fun hp => have hp : (V576 0 8).toInt = 0 := hp; (show (V576 0 48).toInt ≤ 2 * (V576 0 7).toInt from by first | omega | ((try (have i_t546 := Imp.go t546 (by omega))); omega)))), (show (V576 0 48).toInt ≤ 8120 from by first | omega | ((try (have i_t546 := Imp.go t546 (by omega))); omega)), (Or.inr ⟨(show 1 ≤ (V576 0 8).toInt from by omega), hb598⟩), rw601, rw602, rw603, rw604⟩, by rw [ht]; exact hP, va_K.moved hW.alike hK, hD⟩, hS.F ht⟩) hS.2.2 dX12_member_193
                          · skip
                            have hb605 : ∀ k, Rc gT (Crun gs (Imember :: k)) (Cbad (V555 0 8).toInt) := fun k => (hr535 k).tr (h563 (Itake 59 :: Imember :: k))
                            refine va_iast (D := D) (i := z539) (x := z543) hx hb hK hP hD hS 27 26 rfl rfl (i_in (a := z539.toInt) rfl (by first | omega | ((try (have i_t546 := Imp.go t546 (by omega))); omega))) dX12_member_178 (fun H locs hP hD hS => ?_)
                            obtain ⟨V606, hV606⟩ : ∃ z, z = up2 V555 34 (Int32.toNatClampNeg z539) z543 := ⟨_, rfl⟩
                            have hP : va_P D vwCl (mw ad kk ks.1 V606 L556) H := by rw [hV606]; exact hP
                            have hD : va_D A (mw ad kk ks.1 V606 L556) := by rw [hV606]; exact hD
                            have hMV606 : rgd bM V606 := hMV555.put hV606 (i_full _)
                            have agV606 : agr [(0, 7), (0, 8), (0, 48), (0, 50)] [27, 28, 29, 30, 31, 32, 33, 34, 35, 36, 37, 38, 45, 46, 47] V V606 := agV555.up hV606 rfl
                            refine lv_goto (tgt := 187) hx hb dX12_member_179 (by decide) ?_
                            refine lv_aload_n hx hb dX12_member_187 rfl (lv_at hl 1 rfl) ?_
                            refine lv_bipush (v := 59) hx hb dX12_member_188 (by decide) ?_
                            have r607 : Int32.toInt 59 = 59 := by decide
                            have pq608 : (V606 0 8).toInt = ((V555 0 8)).toInt := congrArg Int32.toInt (up2_o hV606 (by decide))
                            refine gA_void (gA_runV (As := [.int 59]) (rest := []) (ci := 12) (q0 := 0) hx hb hml hown hg hP hD hK hS hA hnw hgk (s_takeSignB l D ks H.size ad kk V606 L556 59 hMV606 (show 1 ≤ (V606 0 8).toInt from by first | omega | ((try (have i_t546 := Imp.go t546 (by omega))); omega))) w2075 w2077 w96 w172 w2078 rfl rfl hdV_yX12_takeSign ⟨Nat.le_of_ble_eq_true rfl, Nat.le_of_ble_eq_true rfl⟩ rfl hl.1 rfl (Nat.le_of_ble_eq_true rfl) dX12_member_190 ⟨Nat.le_of_ble_eq_true rfl, Nat.le_of_ble_eq_true rfl⟩) hP hD hK hS hA (fun u610 H locs w611 hP hD hK hS => ?_)
                            obtain ⟨V613, L614⟩ := u610
                            obtain ⟨hMV613, ajV613, axL614, t612⟩ := w611
                            have axL614 : L556 = L614 := Eq.symm axL614
                            subst axL614
                            have hP : va_P D vwCl (mw ad kk ks.1 V613 L556) H := hP
                            have hD : va_D A (mw ad kk ks.1 V613 L556) := hD
                            have hMV613 : rgd bM V613 := hMV613
                            have ajV613 : agr [(0, 7), (0, 8)] [] V606 V613 := ajV613
                            have agV613 : agr [(0, 7), (0, 8), (0, 48), (0, 50)] [27, 28, 29, 30, 31, 32, 33, 34, 35, 36, 37, 38, 45, 46, 47] V V613 := agV606.tr ajV613 (by decide) (by decide)
                            have t612 : (V613 0 8).toInt = (V606 0 8).toInt := t612
                            have r615 : 0 ≤ ((V613 0 8)).toInt ∧ ((V613 0 8)).toInt ≤ 70000 := hMV613 0 8
                            have pq616 : (V613 0 48).toInt = ((V555 0 48)).toInt := congrArg Int32.toInt ((ajV613 0 48 rfl).trans (up2_o hV606 (by decide)))
                            have rw617 : RoV 35 bq V V613 := (fun k hk => ((ajV613 35 k rfl).trans ((up2_o hV606 (by decide)).trans ((t551 k hk).trans ((t506 k hk).trans ((ajV488 35 k rfl).trans ((ajV380 35 k rfl).trans rfl)))))))
                            have rw618 : RoV 37 bq V V613 := (fun k hk => ((ajV613 37 k rfl).trans ((up2_o hV606 (by decide)).trans ((t552 k hk).trans ((t507 k hk).trans ((ajV488 37 k rfl).trans ((ajV380 37 k rfl).trans rfl)))))))
                            have rw619 : RoL 36 20 bq L L556 := (fun k hk => ((t553 k hk).trans ((t508 k hk).trans rfl)))
                            have rw620 : RoL 38 20 bq L L556 := (fun k hk => ((t554 k hk).trans ((t509 k hk).trans rfl)))
                            exact W.vret hx hb hr (fun t ht hW => ⟨⟨(V613, L556), rfl, ⟨hMV613, agV613, alL556, (Imp.mk (fun hp => have hp : (V613 0 8).toInt = 0 := hp; (show (V613 0 48).toInt ≤ 2 * (V613 0 7).toInt from by first | omega | ((try (have i_t546 := Imp.go t546 (by omega))); omega)))), (show (V613 0 48).toInt ≤ 8120 from by first | omega | ((try (have i_t546 := Imp.go t546 (by omega))); omega)), (Or.inr ⟨(show 1 ≤ (V613 0 8).toInt from by omega), (fun k => by rw [show (V613 0 8).toInt = (V555 0 8).toInt from by omega]; exact hb605 k)⟩), rw617, rw618, rw619, rw620⟩, by rw [ht]; exact hP, va_K.moved hW.alike hK, hD⟩, hS.F ht⟩) hS.2.2 dX12_member_193
                      · skip
                        have f621 : 0 ≤ ((V 34 (Int32.toNatClampNeg z527))).toInt := b_nlt rfl (by decide) c530
                        refine lv_aload_n hx hb dX12_member_142 rfl (lv_at hl 1 rfl) ?_
                        refine lv_dup hx hb dX12_member_143 rfl ?_
                        refine va_get (D := D) (ci := 12) (v := .int (V510 0 7)) (C := RX12) (T := TX12) (N := 100) hx hb hg inX12 hown hK hP 0 rfl rfl 7 (by decide) (hg _ w1713) (fun _ h9 => h9) rfl dX12_member_144 ?_
                        refine lv_iconst (v := 1) hx hb dX12_member_147 (by decide) ?_
                        refine lv_isub hx hb dX12_member_148 ?_
                        refine lv_topi (fun z622 ez622 => ?_)
                        have hz622 : z622.toInt = ((V510 0 7)).toInt - 1 := i_sub ez622 rfl (by decide) (by omega)
                        refine va_put (D := D) (ci := 12) (v := .int z622) (ty := tyX12 7) (C := RX12) (T := TX12) (N := 100) hx hb hg inX12 tyX12 tyX12_ok nmX12 hown hK hP hD hS 0 rfl rfl 7 (by decide) (hg _ w1713) (fun _ h9 => h9) rfl (tyX12_ok 7 (by decide)) rfl rfl (Nat.le_of_ble_eq_true rfl) dX12_member_149 (fun H locs hP hD hS => ?_)
                        obtain ⟨V623, hV623⟩ : ∃ z, z = up2 V510 0 7 z622 := ⟨_, rfl⟩
                        have hP : va_P D vwCl (mw ad kk ks.1 V623 L511) H := by rw [hV623]; exact hP
                        have hD : va_D A (mw ad kk ks.1 V623 L511) := by rw [hV623]; exact hD
                        have hMV623 : rgd bM V623 := hMV510.put hV623 (i_full _)
                        have agV623 : agr [(0, 7), (0, 8), (0, 48), (0, 50)] [27, 28, 29, 30, 31, 32, 33, 34, 35, 36, 37, 38, 45, 46, 47] V V623 := agV510.up hV623 rfl
                        have tx := MTX.told mt519 (by rw [oS]; exact ow5.mp (by omega)) (by rw [oS, oL]; exact ow.2.2.2.2.2)
                        have rl624 : RelM V623 L511 bq gn gT (nx gs 1) gl := RelM.v8 (by rw [← tx.2]; exact rl515) hV623 (by omega)
                        have fz625 := RelM.rg rl624
                        have pq626 : (V623 0 8).toInt = ((V510 0 8)).toInt := congrArg Int32.toInt (up2_k hV623 (by decide))
                        have pq627 : (V623 0 7).toInt = z622.toInt := congrArg Int32.toInt (up2_s hV623)
                        have mn3 : ∀ k, mst gT (Crun (nx gs 1) (ImethN :: k)) = fl gT (nx gs 1) 3 := fun k => mthN_3 (mth_k3 h514) tx.1 _
                        refine lv_aload_n hx hb dX12_member_152 rfl (lv_at hl 1 rfl) ?_
                        refine lv_iconst (v := 3) hx hb dX12_member_153 (by decide) ?_
                        have r628 : Int32.toInt 3 = 3 := by decide
                        refine gA_void (gA_runV (As := [.int 3]) (rest := []) (ci := 12) (q0 := 0) hx hb hml hown hg hP hD hK hS hA hnw hgk (s_wrongA l D ks H.size ad kk V623 L511 3 (bq) (gn) (gT) ((nx gs 1)) (gl) hMV623 (by decide) rl624) w2035 w2037 w86 w172 w2038 rfl rfl hdV_yX12_wrong ⟨Nat.le_of_ble_eq_true rfl, Nat.le_of_ble_eq_true rfl⟩ rfl hl.1 rfl (Nat.le_of_ble_eq_true rfl) dX12_member_154 ⟨Nat.le_of_ble_eq_true rfl, Nat.le_of_ble_eq_true rfl⟩) hP hD hK hS hA (fun u630 H locs w631 hP hD hK hS => ?_)
                        obtain ⟨V634, L635⟩ := u630
                        obtain ⟨hMV634, ajV634, axL635, t632, t633⟩ := w631
                        have axL635 : L511 = L635 := Eq.symm axL635
                        subst axL635
                        have hP : va_P D vwCl (mw ad kk ks.1 V634 L511) H := hP
                        have hD : va_D A (mw ad kk ks.1 V634 L511) := hD
                        have hMV634 : rgd bM V634 := hMV634
                        have ajV634 : agr [(0, 8)] [] V623 V634 := ajV634
                        have agV634 : agr [(0, 7), (0, 8), (0, 48), (0, 50)] [27, 28, 29, 30, 31, 32, 33, 34, 35, 36, 37, 38, 45, 46, 47] V V634 := agV623.tr ajV634 (by decide) (by decide)
                        have t632 : 1 ≤ (V634 0 8).toInt := t632
                        have t633 : (V634 0 8).toInt = (Int32.toInt 3) + 16 * (gT).2.2 (((nx gs 1)).1 0) := t633
                        have r636 : 0 ≤ ((V634 0 8)).toInt ∧ ((V634 0 8)).toInt ≤ 70000 := hMV634 0 8
                        have hb637 : ∀ k, Rc gT (Crun gs (Imember :: k)) (Cbad (V634 0 8).toInt) := fun k => Rc.go1 (hr495 k) ((mn3 _).trans (fl_eq rfl (show (V634 0 8).toInt = 3 + 16 * gT.2.2 ((nx gs 1).1 0) from by omega)))
                        refine lv_aload_n hx hb dX12_member_157 rfl (lv_at hl 1 rfl) ?_
                        refine va_get (D := D) (ci := 12) (v := .int (V634 0 8)) (C := RX12) (T := TX12) (N := 100) hx hb hg inX12 hown hK hP 0 rfl rfl 8 (by decide) (hg _ w1714) (fun _ h9 => h9) rfl dX12_member_158 ?_
                        refine lv_if_ne (tgt := 179) hx hb dX12_member_161 (by decide) (fun c638 => ?_) (fun c638 => ?_)
                        · skip
                          have f639 : ((V634 0 8)).toInt ≠ 0 := b_neq rfl (by decide) c638
                          refine lv_goto (tgt := 187) hx hb dX12_member_179 (by decide) ?_
                          refine lv_aload_n hx hb dX12_member_187 rfl (lv_at hl 1 rfl) ?_
                          refine lv_bipush (v := 59) hx hb dX12_member_188 (by decide) ?_
                          have r640 : Int32.toInt 59 = 59 := by decide
                          refine gA_void (gA_runV (As := [.int 59]) (rest := []) (ci := 12) (q0 := 0) hx hb hml hown hg hP hD hK hS hA hnw hgk (s_takeSignB l D ks H.size ad kk V634 L511 59 hMV634 (show 1 ≤ (V634 0 8).toInt from by omega)) w2075 w2077 w96 w172 w2078 rfl rfl hdV_yX12_takeSign ⟨Nat.le_of_ble_eq_true rfl, Nat.le_of_ble_eq_true rfl⟩ rfl hl.1 rfl (Nat.le_of_ble_eq_true rfl) dX12_member_190 ⟨Nat.le_of_ble_eq_true rfl, Nat.le_of_ble_eq_true rfl⟩) hP hD hK hS hA (fun u642 H locs w643 hP hD hK hS => ?_)
                          obtain ⟨V645, L646⟩ := u642
                          obtain ⟨hMV645, ajV645, axL646, t644⟩ := w643
                          have axL646 : L511 = L646 := Eq.symm axL646
                          subst axL646
                          have hP : va_P D vwCl (mw ad kk ks.1 V645 L511) H := hP
                          have hD : va_D A (mw ad kk ks.1 V645 L511) := hD
                          have hMV645 : rgd bM V645 := hMV645
                          have ajV645 : agr [(0, 7), (0, 8)] [] V634 V645 := ajV645
                          have agV645 : agr [(0, 7), (0, 8), (0, 48), (0, 50)] [27, 28, 29, 30, 31, 32, 33, 34, 35, 36, 37, 38, 45, 46, 47] V V645 := agV634.tr ajV645 (by decide) (by decide)
                          have t644 : (V645 0 8).toInt = (V634 0 8).toInt := t644
                          have r647 : 0 ≤ ((V645 0 8)).toInt ∧ ((V645 0 8)).toInt ≤ 70000 := hMV645 0 8
                          have pq648 : (V645 0 48).toInt = ((V 0 48)).toInt := congrArg Int32.toInt ((ajV645 0 48 rfl).trans ((ajV634 0 48 rfl).trans ((up2_k hV623 (by decide)).trans ((ajV510 0 48 rfl).trans ((ajV488 0 48 rfl).trans (ajV380 0 48 rfl))))))
                          have rw649 : RoV 35 bq V V645 := (fun k hk => ((ajV645 35 k rfl).trans ((ajV634 35 k rfl).trans ((up2_o hV623 (by decide)).trans ((t506 k hk).trans ((ajV488 35 k rfl).trans ((ajV380 35 k rfl).trans rfl)))))))
                          have rw650 : RoV 37 bq V V645 := (fun k hk => ((ajV645 37 k rfl).trans ((ajV634 37 k rfl).trans ((up2_o hV623 (by decide)).trans ((t507 k hk).trans ((ajV488 37 k rfl).trans ((ajV380 37 k rfl).trans rfl)))))))
                          have rw651 : RoL 36 20 bq L L511 := (fun k hk => ((t508 k hk).trans rfl))
                          have rw652 : RoL 38 20 bq L L511 := (fun k hk => ((t509 k hk).trans rfl))
                          exact W.vret hx hb hr (fun t ht hW => ⟨⟨(V645, L511), rfl, ⟨hMV645, agV645, alL511, (Imp.mk (fun hp => have hp : (V645 0 8).toInt = 0 := hp; (show (V645 0 48).toInt ≤ 2 * (V645 0 7).toInt from by omega))), (show (V645 0 48).toInt ≤ 8120 from by omega), (Or.inr ⟨(show 1 ≤ (V645 0 8).toInt from by omega), (fun k => by rw [show (V645 0 8).toInt = (V634 0 8).toInt from by omega]; exact hb637 k)⟩), rw649, rw650, rw651, rw652⟩, by rw [ht]; exact hP, va_K.moved hW.alike hK, hD⟩, hS.F ht⟩) hS.2.2 dX12_member_193
                        · skip
                          have f653 : ((V634 0 8)).toInt = 0 := b_eq rfl (by decide) c638
                          exfalso; omega
                  · skip
                    have hb654 : ∀ k, Rc gT (Crun gs (Imember :: k)) (Cbad (V510 0 8).toInt) := fun k => Rc.go1 (hr495 k) (mn_b (Km_mthN h514))
                    have r655 : 0 ≤ ((V510 0 8)).toInt ∧ ((V510 0 8)).toInt ≤ 70000 := hMV510 0 8
                    refine lv_istore_n (lv' := [(2, .int z502), (0, .ref (ad 0)), (1, .int p0)]) hx hb dX12_member_120 rfl hl (by decide) rfl (fun ls hl => ?_)
                    refine lv_aload_n hx hb dX12_member_121 rfl (lv_at hl 1 rfl) ?_
                    refine va_get (D := D) (ci := 12) (v := .int (V510 0 8)) (C := RX12) (T := TX12) (N := 100) hx hb hg inX12 hown hK hP 0 rfl rfl 8 (by decide) (hg _ w1714) (fun _ h9 => h9) rfl dX12_member_122 ?_
                    refine lv_if_ne (tgt := 157) hx hb dX12_member_125 (by decide) (fun c656 => ?_) (fun c656 => ?_)
                    · skip
                      have f657 : ((V510 0 8)).toInt ≠ 0 := b_neq rfl (by decide) c656
                      refine lv_aload_n hx hb dX12_member_157 rfl (lv_at hl 1 rfl) ?_
                      refine va_get (D := D) (ci := 12) (v := .int (V510 0 8)) (C := RX12) (T := TX12) (N := 100) hx hb hg inX12 hown hK hP 0 rfl rfl 8 (by decide) (hg _ w1714) (fun _ h9 => h9) rfl dX12_member_158 ?_
                      refine lv_if_ne (tgt := 179) hx hb dX12_member_161 (by decide) (fun c658 => ?_) (fun c658 => ?_)
                      · skip
                        have f659 : ((V510 0 8)).toInt ≠ 0 := b_neq rfl (by decide) c658
                        refine lv_goto (tgt := 187) hx hb dX12_member_179 (by decide) ?_
                        refine lv_aload_n hx hb dX12_member_187 rfl (lv_at hl 1 rfl) ?_
                        refine lv_bipush (v := 59) hx hb dX12_member_188 (by decide) ?_
                        have r660 : Int32.toInt 59 = 59 := by decide
                        refine gA_void (gA_runV (As := [.int 59]) (rest := []) (ci := 12) (q0 := 0) hx hb hml hown hg hP hD hK hS hA hnw hgk (s_takeSignB l D ks H.size ad kk V510 L511 59 hMV510 (show 1 ≤ (V510 0 8).toInt from by omega)) w2075 w2077 w96 w172 w2078 rfl rfl hdV_yX12_takeSign ⟨Nat.le_of_ble_eq_true rfl, Nat.le_of_ble_eq_true rfl⟩ rfl hl.1 rfl (Nat.le_of_ble_eq_true rfl) dX12_member_190 ⟨Nat.le_of_ble_eq_true rfl, Nat.le_of_ble_eq_true rfl⟩) hP hD hK hS hA (fun u662 H locs w663 hP hD hK hS => ?_)
                        obtain ⟨V665, L666⟩ := u662
                        obtain ⟨hMV665, ajV665, axL666, t664⟩ := w663
                        have axL666 : L511 = L666 := Eq.symm axL666
                        subst axL666
                        have hP : va_P D vwCl (mw ad kk ks.1 V665 L511) H := hP
                        have hD : va_D A (mw ad kk ks.1 V665 L511) := hD
                        have hMV665 : rgd bM V665 := hMV665
                        have ajV665 : agr [(0, 7), (0, 8)] [] V510 V665 := ajV665
                        have agV665 : agr [(0, 7), (0, 8), (0, 48), (0, 50)] [27, 28, 29, 30, 31, 32, 33, 34, 35, 36, 37, 38, 45, 46, 47] V V665 := agV510.tr ajV665 (by decide) (by decide)
                        have t664 : (V665 0 8).toInt = (V510 0 8).toInt := t664
                        have r667 : 0 ≤ ((V665 0 8)).toInt ∧ ((V665 0 8)).toInt ≤ 70000 := hMV665 0 8
                        have pq668 : (V665 0 48).toInt = ((V 0 48)).toInt := congrArg Int32.toInt ((ajV665 0 48 rfl).trans ((ajV510 0 48 rfl).trans ((ajV488 0 48 rfl).trans (ajV380 0 48 rfl))))
                        have rw669 : RoV 35 bq V V665 := (fun k hk => ((ajV665 35 k rfl).trans ((t506 k hk).trans ((ajV488 35 k rfl).trans ((ajV380 35 k rfl).trans rfl)))))
                        have rw670 : RoV 37 bq V V665 := (fun k hk => ((ajV665 37 k rfl).trans ((t507 k hk).trans ((ajV488 37 k rfl).trans ((ajV380 37 k rfl).trans rfl)))))
                        have rw671 : RoL 36 20 bq L L511 := (fun k hk => ((t508 k hk).trans rfl))
                        have rw672 : RoL 38 20 bq L L511 := (fun k hk => ((t509 k hk).trans rfl))
                        exact W.vret hx hb hr (fun t ht hW => ⟨⟨(V665, L511), rfl, ⟨hMV665, agV665, alL511, (Imp.mk (fun hp => have hp : (V665 0 8).toInt = 0 := hp; (show (V665 0 48).toInt ≤ 2 * (V665 0 7).toInt from by omega))), (show (V665 0 48).toInt ≤ 8120 from by omega), (Or.inr ⟨(show 1 ≤ (V665 0 8).toInt from by omega), (fun k => by rw [show (V665 0 8).toInt = (V510 0 8).toInt from by omega]; exact hb654 k)⟩), rw669, rw670, rw671, rw672⟩, by rw [ht]; exact hP, va_K.moved hW.alike hK, hD⟩, hS.F ht⟩) hS.2.2 dX12_member_193
                      · skip
                        have f673 : ((V510 0 8)).toInt = 0 := b_eq rfl (by decide) c658
                        exfalso; omega
                    · skip
                      have f674 : ((V510 0 8)).toInt = 0 := b_eq rfl (by decide) c656
                      exfalso; omega
              · skip
                have kd675 : gT.1 (gs.1 0) ≠ 142 := fun h9 => h491 (h9.trans (by decide))
                have fz676 := RelM.rg rl492
                have pq677 : (V488 0 8).toInt = ((V 0 8)).toInt := congrArg Int32.toInt ((ajV488 0 8 rfl).trans (ajV380 0 8 rfl))
                refine lv_if_eq (tgt := 182) hx hb dX12_member_105 (by decide) (fun c678 => ?_) (fun c678 => ?_)
                · skip
                  have f679 : z484.toInt = 0 := b_eq rfl (by decide) c678
                  refine lv_aload_n hx hb dX12_member_182 rfl (lv_at hl 0 rfl) ?_
                  refine lv_iconst (v := 1) hx hb dX12_member_183 (by decide) ?_
                  have r680 : Int32.toInt 1 = 1 := by decide
                  refine gA_void (gA_runV (As := [.int 1]) (rest := []) (ci := 12) (q0 := 0) hx hb hml hown hg hP hD hK hS hA hnw hgk (s_wrongA l D ks H.size ad kk V488 L 1 (bq) (gn) (gT) (gs) (gl) hMV488 (by decide) rl492) w2035 w2037 w86 w172 w2038 rfl rfl hdV_yX12_wrong ⟨Nat.le_of_ble_eq_true rfl, Nat.le_of_ble_eq_true rfl⟩ rfl hl.1 rfl (Nat.le_of_ble_eq_true rfl) dX12_member_184 ⟨Nat.le_of_ble_eq_true rfl, Nat.le_of_ble_eq_true rfl⟩) hP hD hK hS hA (fun u682 H locs w683 hP hD hK hS => ?_)
                  obtain ⟨V686, L687⟩ := u682
                  obtain ⟨hMV686, ajV686, axL687, t684, t685⟩ := w683
                  have axL687 : L = L687 := Eq.symm axL687
                  subst axL687
                  have hP : va_P D vwCl (mw ad kk ks.1 V686 L) H := hP
                  have hD : va_D A (mw ad kk ks.1 V686 L) := hD
                  have hMV686 : rgd bM V686 := hMV686
                  have ajV686 : agr [(0, 8)] [] V488 V686 := ajV686
                  have agV686 : agr [(0, 7), (0, 8), (0, 48), (0, 50)] [27, 28, 29, 30, 31, 32, 33, 34, 35, 36, 37, 38, 45, 46, 47] V V686 := agV488.tr ajV686 (by decide) (by decide)
                  have t684 : 1 ≤ (V686 0 8).toInt := t684
                  have t685 : (V686 0 8).toInt = (Int32.toInt 1) + 16 * (gT).2.2 ((gs).1 0) := t685
                  have r688 : 0 ≤ ((V686 0 8)).toInt ∧ ((V686 0 8)).toInt ≤ 70000 := hMV686 0 8
                  have hr689 : ∀ k, Rc gT (Crun gs (Imember :: k)) (Crun gs (Imember :: k)) := fun k => Rc.rf
                  have hb690 : ∀ k, Rc gT (Crun gs (Imember :: k)) (Cbad (V686 0 8).toInt) := fun k => Rc.go1 (hr689 k) ((mb_f kn125 kd143 (Or.inr (by by_cases q9 : gs.1 2 = 1; exact q9; exact absurd (ow.2.1.mpr q9) (by omega))) (Or.inl kd477) kd675).trans (fl_eq rfl (show (V686 0 8).toInt = 1 + 16 * gT.2.2 (gs.1 0) from by omega)))
                  refine lv_aload_n hx hb dX12_member_187 rfl (lv_at hl 0 rfl) ?_
                  refine lv_bipush (v := 59) hx hb dX12_member_188 (by decide) ?_
                  have r691 : Int32.toInt 59 = 59 := by decide
                  refine gA_void (gA_runV (As := [.int 59]) (rest := []) (ci := 12) (q0 := 0) hx hb hml hown hg hP hD hK hS hA hnw hgk (s_takeSignB l D ks H.size ad kk V686 L 59 hMV686 (show 1 ≤ (V686 0 8).toInt from by omega)) w2075 w2077 w96 w172 w2078 rfl rfl hdV_yX12_takeSign ⟨Nat.le_of_ble_eq_true rfl, Nat.le_of_ble_eq_true rfl⟩ rfl hl.1 rfl (Nat.le_of_ble_eq_true rfl) dX12_member_190 ⟨Nat.le_of_ble_eq_true rfl, Nat.le_of_ble_eq_true rfl⟩) hP hD hK hS hA (fun u693 H locs w694 hP hD hK hS => ?_)
                  obtain ⟨V696, L697⟩ := u693
                  obtain ⟨hMV696, ajV696, axL697, t695⟩ := w694
                  have axL697 : L = L697 := Eq.symm axL697
                  subst axL697
                  have hP : va_P D vwCl (mw ad kk ks.1 V696 L) H := hP
                  have hD : va_D A (mw ad kk ks.1 V696 L) := hD
                  have hMV696 : rgd bM V696 := hMV696
                  have ajV696 : agr [(0, 7), (0, 8)] [] V686 V696 := ajV696
                  have agV696 : agr [(0, 7), (0, 8), (0, 48), (0, 50)] [27, 28, 29, 30, 31, 32, 33, 34, 35, 36, 37, 38, 45, 46, 47] V V696 := agV686.tr ajV696 (by decide) (by decide)
                  have t695 : (V696 0 8).toInt = (V686 0 8).toInt := t695
                  have r698 : 0 ≤ ((V696 0 8)).toInt ∧ ((V696 0 8)).toInt ≤ 70000 := hMV696 0 8
                  have pq699 : (V696 0 48).toInt = ((V 0 48)).toInt := congrArg Int32.toInt ((ajV696 0 48 rfl).trans ((ajV686 0 48 rfl).trans ((ajV488 0 48 rfl).trans (ajV380 0 48 rfl))))
                  have rw700 : RoV 35 bq V V696 := (fun k hk => ((ajV696 35 k rfl).trans ((ajV686 35 k rfl).trans ((ajV488 35 k rfl).trans ((ajV380 35 k rfl).trans rfl)))))
                  have rw701 : RoV 37 bq V V696 := (fun k hk => ((ajV696 37 k rfl).trans ((ajV686 37 k rfl).trans ((ajV488 37 k rfl).trans ((ajV380 37 k rfl).trans rfl)))))
                  have rw702 : RoL 36 20 bq L L := (fun k hk => rfl)
                  have rw703 : RoL 38 20 bq L L := (fun k hk => rfl)
                  exact W.vret hx hb hr (fun t ht hW => ⟨⟨(V696, L), rfl, ⟨hMV696, agV696, alL, (Imp.mk (fun hp => have hp : (V696 0 8).toInt = 0 := hp; (show (V696 0 48).toInt ≤ 2 * (V696 0 7).toInt from by omega))), (show (V696 0 48).toInt ≤ 8120 from by omega), (Or.inr ⟨(show 1 ≤ (V696 0 8).toInt from by omega), (fun k => by rw [show (V696 0 8).toInt = (V686 0 8).toInt from by omega]; exact hb690 k)⟩), rw700, rw701, rw702, rw703⟩, by rw [ht]; exact hP, va_K.moved hW.alike hK, hD⟩, hS.F ht⟩) hS.2.2 dX12_member_193
                · skip
                  have f704 : z484.toInt ≠ 0 := b_neq rfl (by decide) c678
                  exfalso; omega
            · skip
              have f705 : z376.toInt ≠ 0 := b_neq rfl (by decide) c481
              exfalso; omega
      · skip
        have f706 : ((V 32 (Int32.toNatClampNeg p0))).toInt < 0 := b_nle (by decide) rfl c146
        refine lv_aload_n hx hb dX12_member_46 rfl (lv_at hl 0 rfl) ?_
        refine lv_bipush (v := 12) hx hb dX12_member_47 (by decide) ?_
        have r707 : Int32.toInt 12 = 12 := by decide
        refine gA_int (gA_runV (As := [.int 12]) (rest := []) (ci := 12) (q0 := 0) hx hb hml hown hg hP hD hK hS hA hnw hgk (s_hasWordA l D ks H.size ad kk V L 12 (bq) (gn) (gT) (gs) (gl) hMV (by decide) rel) w2051 w2053 w90 w172 w2054 rfl rfl hdV_yX12_hasWord ⟨Nat.le_of_ble_eq_true rfl, Nat.le_of_ble_eq_true rfl⟩ rfl hl.1 rfl (Nat.le_of_ble_eq_true rfl) dX12_member_49 ⟨Nat.le_of_ble_eq_true rfl, Nat.le_of_ble_eq_true rfl⟩) hP hD hK hS hA (fun z708 u709 H locs w710 hP hD hK hS => ?_)
        obtain ⟨V712, L713⟩ := u709
        obtain ⟨hMV712, ajV712, axL713, rgz708, t711⟩ := w710
        have axL713 : L = L713 := Eq.symm axL713
        subst axL713
        have hP : va_P D vwCl (mw ad kk ks.1 V712 L) H := hP
        have hD : va_D A (mw ad kk ks.1 V712 L) := hD
        have hMV712 : rgd bM V712 := hMV712
        have ajV712 : agr [(0, 7)] [] V V712 := ajV712
        have agV712 : agr [(0, 7), (0, 8), (0, 48), (0, 50)] [27, 28, 29, 30, 31, 32, 33, 34, 35, 36, 37, 38, 45, 46, 47] V V712 := agV.tr ajV712 (by decide) (by decide)
        have rgz708 : 0 ≤ z708.toInt ∧ z708.toInt ≤ 1 := rgz708
        have t711 : (z708.toInt = 1 ∧ (gT).1 ((gs).1 0) = 128 + (Int32.toInt 12) ∧ RelM V712 L (bq) (gn) (gT) (nx (gs) 1) (gl)) ∨ (z708.toInt = 0 ∧ (gT).1 ((gs).1 0) ≠ 128 + (Int32.toInt 12) ∧ RelM V712 L (bq) (gn) (gT) (gs) (gl)) := t711
        rcases t711 with ⟨q714, h715, rl716⟩ | ⟨q714, h715, rl716⟩
        · skip
          have kd717 : gT.1 (gs.1 0) = 140 := h715.trans (by decide)
          have hr718 : ∀ k, Rc gT (Crun gs (Imember :: k)) (Crun gs (Imember :: k)) := fun k => Rc.rf
          have hr719 : ∀ k, Rc gT (Crun gs (Imember :: k)) (Crun (nx (sN gs 2 1) 1) (Iexpr 0 :: Itake 59 :: Imember :: k)) := fun k => Rc.go1 (hr718 k) (mb_140 kd717 (ow.2.1.mp (by omega)))
          have ps720 : (sN gs 2 1).1 0 = gs.1 0 := rfl
          have ps721 : (nx gs 1).1 0 = gs.1 0 + 1 := rfl
          have fz722 := RelM.rg rl716
          have pq723 : (V712 0 8).toInt = ((V 0 8)).toInt := congrArg Int32.toInt (ajV712 0 8 rfl)
          have r724 : 0 ≤ ((V 0 8)).toInt ∧ ((V 0 8)).toInt ≤ 70000 := hMV 0 8
          refine lv_if_eq (tgt := 68) hx hb dX12_member_52 (by decide) (fun c725 => ?_) (fun c725 => ?_)
          · skip
            have f726 : z708.toInt = 0 := b_eq rfl (by decide) c725
            exfalso; omega
          · skip
            have f727 : z708.toInt ≠ 0 := b_neq rfl (by decide) c725
            have rl728 : RelM V712 L bq gn gT (nx (sN gs 2 1) 1) gl := rl716
            refine lv_aload_n hx hb dX12_member_55 rfl (lv_at hl 0 rfl) ?_
            refine va_get (D := D) (ci := 12) (v := .ref (ad 32)) (C := RX12) (T := TX12) (N := 100) hx hb hg inX12 hown hK hP 0 rfl rfl 32 (by decide) (hg _ w1738) (fun _ h9 => h9) rfl dX12_member_56 ?_
            refine lv_iload_n hx hb dX12_member_59 rfl (lv_at hl 1 rfl) ?_
            refine lv_aload_n hx hb dX12_member_60 rfl (lv_at hl 0 rfl) ?_
            have pq729 : (V712 0 48).toInt = ((V 0 48)).toInt := congrArg Int32.toInt (ajV712 0 48 rfl)
            have pq730 : (V712 0 51).toInt = ((V 0 51)).toInt := congrArg Int32.toInt (ajV712 0 51 rfl)
            have pq731 : (V712 0 52).toInt = ((V 0 52)).toInt := congrArg Int32.toInt (ajV712 0 52 rfl)
            refine gA_int (gA_runV (As := []) (rest := [.int p0, .ref (ad 32)]) (ci := 12) (q0 := 0) hx hb hml hown hg hP hD hK hS hA hnw hgk (s_codeA l D ks H.size ad kk V712 L (bq) (gn) (gT) ((nx (sN gs 2 1) 1)) (gl) hMV712 rl728 (show (V712 0 48).toInt ≤ 2 * (V712 0 7).toInt from by omega) (EM.o2 (o := gc) (show (V712 27 gc).toInt = (((nx (sN gs 2 1) 1).1 1 : Nat) : Int) from by rw [(by rw [(funext (fun q => ajV712 27 q rfl) : V712 27 = V 27)] : V712 27 = V 27)]; exact ow.1) (show (nx (sN gs 2 1) 1).1 4 = 0 from ow.2.2.2.1) (by omega) (by omega))) w2112 w2114 w105 w172 w2115 rfl rfl hdV_yX12_code ⟨Nat.le_of_ble_eq_true rfl, Nat.le_of_ble_eq_true rfl⟩ rfl hl.1 rfl (Nat.le_of_ble_eq_true rfl) dX12_member_61 ⟨Nat.le_of_ble_eq_true rfl, Nat.le_of_ble_eq_true rfl⟩) hP hD hK hS hA (fun z732 u733 H locs w734 hP hD hK hS => ?_)
            obtain ⟨V744, L745⟩ := u733
            obtain ⟨hMV744, ajV744, axL745, rgz732, t735, t736, t737, t738, t739, t740, t741, t742, t743⟩ := w734
            have alL745 : agL [27, 28, 29, 30, 31, 32, 33, 34, 35, 36, 37, 38, 45, 46, 47] L L745 := agL.tr alL axL745 (by decide)
            have hP : va_P D vwCl (mw ad kk ks.1 V744 L745) H := hP
            have hD : va_D A (mw ad kk ks.1 V744 L745) := hD
            have hMV744 : rgd bM V744 := hMV744
            have ajV744 : agr [(0, 7), (0, 8), (0, 48), (0, 50)] [35, 36, 37, 38, 45, 46, 47] V712 V744 := ajV744
            have agV744 : agr [(0, 7), (0, 8), (0, 48), (0, 50)] [27, 28, 29, 30, 31, 32, 33, 34, 35, 36, 37, 38, 45, 46, 47] V V744 := agV712.tr ajV744 (by decide) (by decide)
            have rgz732 : 0 ≤ z732.toInt ∧ z732.toInt ≤ 20000 := rgz732
            have t735 : Imp ((V744 0 8).toInt = 0) ((V744 0 48).toInt - (V712 0 48).toInt ≤ 2 * ((V744 0 7).toInt - (V712 0 7).toInt) + 1) := t735
            have t736 : (V744 0 48).toInt ≤ 8060 := t736
            have t737 : (V712 0 48).toInt ≤ (V744 0 48).toInt := t737
            have t738 : z732.toInt = (V712 0 49).toInt + (V712 0 48).toInt := t738
            have t739 : RdM (gT) ((nx (sN gs 2 1) 1)) (fun k => Iexpr 0 :: k) (fun k => k) (V744 0 8).toInt (fun s9 => RelM V744 L745 (bq) (gn) (gT) s9 (gl) ∧ keepS ((nx (sN gs 2 1) 1)) 1 s9) := t739
            have t740 : RoV 35 (bq) V712 V744 := t740
            have t741 : RoV 37 (bq) V712 V744 := t741
            have t742 : RoL 36 20 (bq) L L745 := t742
            have t743 : RoL 38 20 (bq) L L745 := t743
            have r746 : 0 ≤ ((V744 0 48)).toInt ∧ ((V744 0 48)).toInt ≤ 10000 := hMV744 0 48
            have r747 : 0 ≤ ((V744 0 8)).toInt ∧ ((V744 0 8)).toInt ≤ 70000 := hMV744 0 8
            have pq748 : (V712 0 49).toInt = ((V 0 49)).toInt := congrArg Int32.toInt (ajV712 0 49 rfl)
            have r749 : 0 ≤ ((V 0 49)).toInt ∧ ((V 0 49)).toInt ≤ 10000 := hMV 0 49
            rcases t739 with ⟨q750, sx751, h752, rl753, kp754⟩ | ⟨q750, h752⟩
            · skip
              have hr755 : ∀ k, Rc gT (Crun gs (Imember :: k)) (Crun sx751 (Itake 59 :: Imember :: k)) := fun k => (hr719 k).tr (h752 (Itake 59 :: Imember :: k))
              have fz756 := RelM.rg rl753
              have ps757 := (kp754).1
              refine va_iast (D := D) (i := p0) (x := z732) hx hb hK hP hD hS 25 24 rfl rfl (i_in (a := p0.toInt) rfl (by first | omega | ((try (have i_t735 := Imp.go t735 (by omega))); omega))) dX12_member_64 (fun H locs hP hD hS => ?_)
              obtain ⟨V758, hV758⟩ : ∃ z, z = up2 V744 32 (Int32.toNatClampNeg p0) z732 := ⟨_, rfl⟩
              have hP : va_P D vwCl (mw ad kk ks.1 V758 L745) H := by rw [hV758]; exact hP
              have hD : va_D A (mw ad kk ks.1 V758 L745) := by rw [hV758]; exact hD
              have hMV758 : rgd bM V758 := hMV744.put hV758 (i_full _)
              have agV758 : agr [(0, 7), (0, 8), (0, 48), (0, 50)] [27, 28, 29, 30, 31, 32, 33, 34, 35, 36, 37, 38, 45, 46, 47] V V758 := agV744.up hV758 rfl
              refine lv_goto (tgt := 187) hx hb dX12_member_65 (by decide) ?_
              refine lv_aload_n hx hb dX12_member_187 rfl (lv_at hl 0 rfl) ?_
              refine lv_bipush (v := 59) hx hb dX12_member_188 (by decide) ?_
              have rl759 : RelM V758 L745 bq gn gT sx751 gl := RelM.ag rl753 (show agr [] [32] V744 V758 from (agr.up agr.rf hV758 rfl)) (by decide) (show agL [] L745 L745 from agL.rf) (by decide)
              have r760 : Int32.toInt 59 = 59 := by decide
              refine gA_void (gA_runV (As := [.int 59]) (rest := []) (ci := 12) (q0 := 0) hx hb hml hown hg hP hD hK hS hA hnw hgk (s_takeSignA l D ks H.size ad kk V758 L745 59 (bq) (gn) (gT) (sx751) (gl) hMV758 rl759 (sg_yes (j := 59) (by decide) (by decide) (by decide))) w2075 w2077 w96 w172 w2078 rfl rfl hdV_yX12_takeSign ⟨Nat.le_of_ble_eq_true rfl, Nat.le_of_ble_eq_true rfl⟩ rfl hl.1 rfl (Nat.le_of_ble_eq_true rfl) dX12_member_190 ⟨Nat.le_of_ble_eq_true rfl, Nat.le_of_ble_eq_true rfl⟩) hP hD hK hS hA (fun u762 H locs w763 hP hD hK hS => ?_)
              obtain ⟨V765, L766⟩ := u762
              obtain ⟨hMV765, ajV765, axL766, t764⟩ := w763
              have axL766 : L745 = L766 := Eq.symm axL766
              subst axL766
              have hP : va_P D vwCl (mw ad kk ks.1 V765 L745) H := hP
              have hD : va_D A (mw ad kk ks.1 V765 L745) := hD
              have hMV765 : rgd bM V765 := hMV765
              have ajV765 : agr [(0, 7), (0, 8)] [] V758 V765 := ajV765
              have agV765 : agr [(0, 7), (0, 8), (0, 48), (0, 50)] [27, 28, 29, 30, 31, 32, 33, 34, 35, 36, 37, 38, 45, 46, 47] V V765 := agV758.tr ajV765 (by decide) (by decide)
              have t764 : ((V765 0 8).toInt = 0 ∧ (gT).1 ((sx751).1 0) = (Int32.toInt 59) ∧ RelM V765 L745 (bq) (gn) (gT) (nx (sx751) 1) (gl)) ∨ (1 ≤ (V765 0 8).toInt ∧ (gT).1 ((sx751).1 0) ≠ (Int32.toInt 59) ∧ (V765 0 8).toInt = 1 + 16 * (gT).2.2 ((sx751).1 0)) := t764
              rcases t764 with ⟨q767, h768, rl769⟩ | ⟨q767, h768, rl769⟩
              · skip
                have kd770 : gT.1 (sx751.1 0) = 59 := h768.trans (by decide)
                have hr771 : ∀ k, Rc gT (Crun gs (Imember :: k)) (Crun (nx sx751 1) (Imember :: k)) := fun k => Rc.go1 (hr755 k) (tk_y kd770)
                have ps772 : (nx sx751 1).1 0 = sx751.1 0 + 1 := rfl
                have fz773 := RelM.rg rl769
                have r774 : 0 ≤ ((V765 0 8)).toInt ∧ ((V765 0 8)).toInt ≤ 70000 := hMV765 0 8
                have pq775 : (V765 0 48).toInt = ((V744 0 48)).toInt := congrArg Int32.toInt ((ajV765 0 48 rfl).trans (up2_o hV758 (by decide)))
                have ps776 : gs.1 0 + 1 ≤ (nx gs 1).1 0 := ((keepS.n1 1)).1
                have ps777 : (nx (sN gs 2 1) 1).1 0 = (nx gs 1).1 0 := rfl
                have ps778 : (nx (sN gs 2 1) 1).1 0 + 1 ≤ sx751.1 0 := (kp754).1
                have ps779 : sx751.1 0 + 1 ≤ (nx sx751 1).1 0 := ((keepS.n1 1)).1
                have cs780 : 0 ≤ (V765 32 gc).toInt := by have h9 : V765 32 (Int32.toNatClampNeg p0) = z732 := ((ajV765 32 (Int32.toNatClampNeg p0) rfl).trans (up2_s hV758)); rw [kgc] at h9; rw [h9]; omega
                have rw781 : RoV 35 bq V V765 := (fun k hk => ((ajV765 35 k rfl).trans ((up2_o hV758 (by decide)).trans ((t740 k hk).trans ((ajV712 35 k rfl).trans rfl)))))
                have rw782 : RoV 37 bq V V765 := (fun k hk => ((ajV765 37 k rfl).trans ((up2_o hV758 (by decide)).trans ((t741 k hk).trans ((ajV712 37 k rfl).trans rfl)))))
                have rw783 : RoL 36 20 bq L L745 := (fun k hk => ((t742 k hk).trans rfl))
                have rw784 : RoL 38 20 bq L L745 := (fun k hk => ((t743 k hk).trans rfl))
                exact W.vret hx hb hr (fun t ht hW => ⟨⟨(V765, L745), rfl, ⟨hMV765, agV765, alL745, (Imp.mk (fun hp => have hp : (V765 0 8).toInt = 0 := hp; (show (V765 0 48).toInt ≤ 2 * (V765 0 7).toInt from by first | omega | ((try (have i_t735 := Imp.go t735 (by omega))); omega)))), (show (V765 0 48).toInt ≤ 8120 from by first | omega | ((try (have i_t735 := Imp.go t735 (by omega))); omega)), (Or.inl ⟨W0 rl769, (nx sx751 1), hr771, rl769, (by omega), (OWm.op ow (keepS.tr (keepS.tr (keepS.rf : keepS (nx (sN gs 2 1) 1) 0 (nx (sN gs 2 1) 1)) kp754) (keepS.n1 1)) (Rc.ml (hr771 [])) (show V765 27 gc = V 27 gc from ((ajV765 27 _ rfl).trans ((up2_o hV758 (by decide)).trans ((ajV744 27 _ rfl).trans ((ajV712 27 _ rfl).trans rfl))))) cs780 (show V765 33 gc = V 33 gc from ((ajV765 33 _ rfl).trans ((up2_o hV758 (by decide)).trans ((ajV744 33 _ rfl).trans ((ajV712 33 _ rfl).trans rfl))))) (fun f hf => ((show agr [(0, 7), (0, 8), (0, 48), (0, 50)] [32, 35, 36, 37, 38, 45, 46, 47] V V765 from (agr.tr (agr.up (agr.tr (agr.tr agr.rf ajV712 (by decide) (by decide)) ajV744 (by decide) (by decide)) hV758 rfl) ajV765 (by decide) (by decide))) 34 _ rfl))), ((((keepS.n1 1)).2.2.1 2 (by decide)).trans (((kp754).2.2.1 2 (by decide)).trans ((rfl : (nx (sN gs 2 1) 1).2.1 2 = (nx gs 1).2.1 2).trans ((((keepS.n1 1)).2.2.1 2 (by decide)).trans (rfl : gs.2.1 2 = gs.2.1 2))))), ((congrArg (fun q9 => q9.1) ((keepS.n1 1)).2.2.2).trans ((congrArg (fun q9 => q9.1) (kp754).2.2.2).trans ((rfl : (nx (sN gs 2 1) 1).2.2.1 = (nx gs 1).2.2.1).trans ((congrArg (fun q9 => q9.1) ((keepS.n1 1)).2.2.2).trans (rfl : gs.2.2.1 = gs.2.2.1)))))⟩), rw781, rw782, rw783, rw784⟩, by rw [ht]; exact hP, va_K.moved hW.alike hK, hD⟩, hS.F ht⟩) hS.2.2 dX12_member_193
              · skip
                have kd785 : gT.1 (sx751.1 0) ≠ 59 := fun h9 => h768 (h9.trans (by decide))
                have hb786 : ∀ k, Rc gT (Crun gs (Imember :: k)) (Cbad (V765 0 8).toInt) := fun k => Rc.go1 (hr755 k) ((tk_n kd785).trans (fl_eq rfl rl769))
                have r787 : 0 ≤ ((V765 0 8)).toInt ∧ ((V765 0 8)).toInt ≤ 70000 := hMV765 0 8
                have pq788 : (V765 0 48).toInt = ((V744 0 48)).toInt := congrArg Int32.toInt ((ajV765 0 48 rfl).trans (up2_o hV758 (by decide)))
                have rw789 : RoV 35 bq V V765 := (fun k hk => ((ajV765 35 k rfl).trans ((up2_o hV758 (by decide)).trans ((t740 k hk).trans ((ajV712 35 k rfl).trans rfl)))))
                have rw790 : RoV 37 bq V V765 := (fun k hk => ((ajV765 37 k rfl).trans ((up2_o hV758 (by decide)).trans ((t741 k hk).trans ((ajV712 37 k rfl).trans rfl)))))
                have rw791 : RoL 36 20 bq L L745 := (fun k hk => ((t742 k hk).trans rfl))
                have rw792 : RoL 38 20 bq L L745 := (fun k hk => ((t743 k hk).trans rfl))
                exact W.vret hx hb hr (fun t ht hW => ⟨⟨(V765, L745), rfl, ⟨hMV765, agV765, alL745, (Imp.mk (fun hp => have hp : (V765 0 8).toInt = 0 := hp; (show (V765 0 48).toInt ≤ 2 * (V765 0 7).toInt from by first | omega | ((try (have i_t735 := Imp.go t735 (by omega))); omega)))), (show (V765 0 48).toInt ≤ 8120 from by first | omega | ((try (have i_t735 := Imp.go t735 (by omega))); omega)), (Or.inr ⟨(show 1 ≤ (V765 0 8).toInt from by omega), hb786⟩), rw789, rw790, rw791, rw792⟩, by rw [ht]; exact hP, va_K.moved hW.alike hK, hD⟩, hS.F ht⟩) hS.2.2 dX12_member_193
            · skip
              have hb793 : ∀ k, Rc gT (Crun gs (Imember :: k)) (Cbad (V744 0 8).toInt) := fun k => (hr719 k).tr (h752 (Itake 59 :: Imember :: k))
              refine va_iast (D := D) (i := p0) (x := z732) hx hb hK hP hD hS 25 24 rfl rfl (i_in (a := p0.toInt) rfl (by first | omega | ((try (have i_t735 := Imp.go t735 (by omega))); omega))) dX12_member_64 (fun H locs hP hD hS => ?_)
              obtain ⟨V794, hV794⟩ : ∃ z, z = up2 V744 32 (Int32.toNatClampNeg p0) z732 := ⟨_, rfl⟩
              have hP : va_P D vwCl (mw ad kk ks.1 V794 L745) H := by rw [hV794]; exact hP
              have hD : va_D A (mw ad kk ks.1 V794 L745) := by rw [hV794]; exact hD
              have hMV794 : rgd bM V794 := hMV744.put hV794 (i_full _)
              have agV794 : agr [(0, 7), (0, 8), (0, 48), (0, 50)] [27, 28, 29, 30, 31, 32, 33, 34, 35, 36, 37, 38, 45, 46, 47] V V794 := agV744.up hV794 rfl
              refine lv_goto (tgt := 187) hx hb dX12_member_65 (by decide) ?_
              refine lv_aload_n hx hb dX12_member_187 rfl (lv_at hl 0 rfl) ?_
              refine lv_bipush (v := 59) hx hb dX12_member_188 (by decide) ?_
              have r795 : Int32.toInt 59 = 59 := by decide
              have pq796 : (V794 0 8).toInt = ((V744 0 8)).toInt := congrArg Int32.toInt (up2_o hV794 (by decide))
              refine gA_void (gA_runV (As := [.int 59]) (rest := []) (ci := 12) (q0 := 0) hx hb hml hown hg hP hD hK hS hA hnw hgk (s_takeSignB l D ks H.size ad kk V794 L745 59 hMV794 (show 1 ≤ (V794 0 8).toInt from by first | omega | ((try (have i_t735 := Imp.go t735 (by omega))); omega))) w2075 w2077 w96 w172 w2078 rfl rfl hdV_yX12_takeSign ⟨Nat.le_of_ble_eq_true rfl, Nat.le_of_ble_eq_true rfl⟩ rfl hl.1 rfl (Nat.le_of_ble_eq_true rfl) dX12_member_190 ⟨Nat.le_of_ble_eq_true rfl, Nat.le_of_ble_eq_true rfl⟩) hP hD hK hS hA (fun u798 H locs w799 hP hD hK hS => ?_)
              obtain ⟨V801, L802⟩ := u798
              obtain ⟨hMV801, ajV801, axL802, t800⟩ := w799
              have axL802 : L745 = L802 := Eq.symm axL802
              subst axL802
              have hP : va_P D vwCl (mw ad kk ks.1 V801 L745) H := hP
              have hD : va_D A (mw ad kk ks.1 V801 L745) := hD
              have hMV801 : rgd bM V801 := hMV801
              have ajV801 : agr [(0, 7), (0, 8)] [] V794 V801 := ajV801
              have agV801 : agr [(0, 7), (0, 8), (0, 48), (0, 50)] [27, 28, 29, 30, 31, 32, 33, 34, 35, 36, 37, 38, 45, 46, 47] V V801 := agV794.tr ajV801 (by decide) (by decide)
              have t800 : (V801 0 8).toInt = (V794 0 8).toInt := t800
              have r803 : 0 ≤ ((V801 0 8)).toInt ∧ ((V801 0 8)).toInt ≤ 70000 := hMV801 0 8
              have pq804 : (V801 0 48).toInt = ((V744 0 48)).toInt := congrArg Int32.toInt ((ajV801 0 48 rfl).trans (up2_o hV794 (by decide)))
              have rw805 : RoV 35 bq V V801 := (fun k hk => ((ajV801 35 k rfl).trans ((up2_o hV794 (by decide)).trans ((t740 k hk).trans ((ajV712 35 k rfl).trans rfl)))))
              have rw806 : RoV 37 bq V V801 := (fun k hk => ((ajV801 37 k rfl).trans ((up2_o hV794 (by decide)).trans ((t741 k hk).trans ((ajV712 37 k rfl).trans rfl)))))
              have rw807 : RoL 36 20 bq L L745 := (fun k hk => ((t742 k hk).trans rfl))
              have rw808 : RoL 38 20 bq L L745 := (fun k hk => ((t743 k hk).trans rfl))
              exact W.vret hx hb hr (fun t ht hW => ⟨⟨(V801, L745), rfl, ⟨hMV801, agV801, alL745, (Imp.mk (fun hp => have hp : (V801 0 8).toInt = 0 := hp; (show (V801 0 48).toInt ≤ 2 * (V801 0 7).toInt from by first | omega | ((try (have i_t735 := Imp.go t735 (by omega))); omega)))), (show (V801 0 48).toInt ≤ 8120 from by first | omega | ((try (have i_t735 := Imp.go t735 (by omega))); omega)), (Or.inr ⟨(show 1 ≤ (V801 0 8).toInt from by omega), (fun k => by rw [show (V801 0 8).toInt = (V744 0 8).toInt from by omega]; exact hb793 k)⟩), rw805, rw806, rw807, rw808⟩, by rw [ht]; exact hP, va_K.moved hW.alike hK, hD⟩, hS.F ht⟩) hS.2.2 dX12_member_193
        · skip
          have kd809 : gT.1 (gs.1 0) ≠ 140 := fun h9 => h715 (h9.trans (by decide))
          have fz810 := RelM.rg rl716
          have pq811 : (V712 0 8).toInt = ((V 0 8)).toInt := congrArg Int32.toInt (ajV712 0 8 rfl)
          have r812 : 0 ≤ ((V 0 8)).toInt ∧ ((V 0 8)).toInt ≤ 70000 := hMV 0 8
          refine lv_if_eq (tgt := 68) hx hb dX12_member_52 (by decide) (fun c813 => ?_) (fun c813 => ?_)
          · skip
            have f814 : z708.toInt = 0 := b_eq rfl (by decide) c813
            refine lv_aload_n hx hb dX12_member_68 rfl (lv_at hl 0 rfl) ?_
            refine va_get (D := D) (ci := 12) (v := .ref (ad 33)) (C := RX12) (T := TX12) (N := 100) hx hb hg inX12 hown hK hP 0 rfl rfl 33 (by decide) (hg _ w1739) (fun _ h9 => h9) rfl dX12_member_69 ?_
            refine lv_iload_n hx hb dX12_member_72 rfl (lv_at hl 1 rfl) ?_
            refine va_iald (D := D) (i := p0) hx hb hK hP 26 25 rfl rfl (i_in (a := p0.toInt) rfl (by omega)) dX12_member_73 ?_
            refine g_top (v := (V 33 (Int32.toNatClampNeg p0))) (ajV712 33 (Int32.toNatClampNeg p0) rfl) ?_
            refine lv_if_ge (tgt := 99) hx hb dX12_member_74 (by decide) (fun c815 => ?_) (fun c815 => ?_)
            · skip
              have f816 : 0 ≤ ((V 33 (Int32.toNatClampNeg p0))).toInt := b_le (by decide) rfl c815
              refine lv_aload_n hx hb dX12_member_99 rfl (lv_at hl 0 rfl) ?_
              refine lv_bipush (v := 14) hx hb dX12_member_100 (by decide) ?_
              have r817 : Int32.toInt 14 = 14 := by decide
              refine gA_int (gA_runV (As := [.int 14]) (rest := []) (ci := 12) (q0 := 0) hx hb hml hown hg hP hD hK hS hA hnw hgk (s_hasWordA l D ks H.size ad kk V712 L 14 (bq) (gn) (gT) (gs) (gl) hMV712 (by decide) rl716) w2051 w2053 w90 w172 w2054 rfl rfl hdV_yX12_hasWord ⟨Nat.le_of_ble_eq_true rfl, Nat.le_of_ble_eq_true rfl⟩ rfl hl.1 rfl (Nat.le_of_ble_eq_true rfl) dX12_member_102 ⟨Nat.le_of_ble_eq_true rfl, Nat.le_of_ble_eq_true rfl⟩) hP hD hK hS hA (fun z818 u819 H locs w820 hP hD hK hS => ?_)
              obtain ⟨V822, L823⟩ := u819
              obtain ⟨hMV822, ajV822, axL823, rgz818, t821⟩ := w820
              have axL823 : L = L823 := Eq.symm axL823
              subst axL823
              have hP : va_P D vwCl (mw ad kk ks.1 V822 L) H := hP
              have hD : va_D A (mw ad kk ks.1 V822 L) := hD
              have hMV822 : rgd bM V822 := hMV822
              have ajV822 : agr [(0, 7)] [] V712 V822 := ajV822
              have agV822 : agr [(0, 7), (0, 8), (0, 48), (0, 50)] [27, 28, 29, 30, 31, 32, 33, 34, 35, 36, 37, 38, 45, 46, 47] V V822 := agV712.tr ajV822 (by decide) (by decide)
              have rgz818 : 0 ≤ z818.toInt ∧ z818.toInt ≤ 1 := rgz818
              have t821 : (z818.toInt = 1 ∧ (gT).1 ((gs).1 0) = 128 + (Int32.toInt 14) ∧ RelM V822 L (bq) (gn) (gT) (nx (gs) 1) (gl)) ∨ (z818.toInt = 0 ∧ (gT).1 ((gs).1 0) ≠ 128 + (Int32.toInt 14) ∧ RelM V822 L (bq) (gn) (gT) (gs) (gl)) := t821
              rcases t821 with ⟨q824, h825, rl826⟩ | ⟨q824, h825, rl826⟩
              · skip
                have kd827 : gT.1 (gs.1 0) = 142 := h825.trans (by decide)
                have hr828 : ∀ k, Rc gT (Crun gs (Imember :: k)) (Crun gs (Imember :: k)) := fun k => Rc.rf
                have hr829 : ∀ k, Rc gT (Crun gs (Imember :: k)) (Crun (nx gs 1) (ImethN :: Iexpr 0 :: Itake 59 :: Imember :: k)) := fun k => Rc.go1 (hr828 k) (mb_142 kd827)
                have ps830 : (nx gs 1).1 0 = gs.1 0 + 1 := rfl
                have fz831 := RelM.rg rl826
                have pq832 : (V822 0 8).toInt = ((V 0 8)).toInt := congrArg Int32.toInt ((ajV822 0 8 rfl).trans (ajV712 0 8 rfl))
                refine lv_if_eq (tgt := 182) hx hb dX12_member_105 (by decide) (fun c833 => ?_) (fun c833 => ?_)
                · skip
                  have f834 : z818.toInt = 0 := b_eq rfl (by decide) c833
                  exfalso; omega
                · skip
                  have f835 : z818.toInt ≠ 0 := b_neq rfl (by decide) c833
                  refine lv_aload_n hx hb dX12_member_108 rfl (lv_at hl 0 rfl) ?_
                  refine lv_aload_n hx hb dX12_member_109 rfl (lv_at hl 0 rfl) ?_
                  refine va_get (D := D) (ci := 12) (v := .ref (ad 36)) (C := RX12) (T := TX12) (N := 100) hx hb hg inX12 hown hK hP 0 rfl rfl 36 (by decide) (hg _ w1742) (fun _ h9 => h9) rfl dX12_member_110 ?_
                  refine lv_aload_n hx hb dX12_member_113 rfl (lv_at hl 0 rfl) ?_
                  refine va_get (D := D) (ci := 12) (v := .ref (ad 35)) (C := RX12) (T := TX12) (N := 100) hx hb hg inX12 hown hK hP 0 rfl rfl 35 (by decide) (hg _ w1741) (fun _ h9 => h9) rfl dX12_member_114 ?_
                  refine gA_int (gA_runV (As := [.ref (ad 36), .ref (ad 35)]) (rest := []) (ci := 12) (q0 := 0) hx hb hml hown hg hP hD hK hS hA hnw hgk (s_takeWordOf3 l D ks H.size ad kk V822 L (bq) (gn) (gT) ((nx gs 1)) (gl) hMV822 rl826) w2100 w2102 w102 w172 w2103 rfl rfl hdV_yX12_takeWordOf ⟨Nat.le_of_ble_eq_true rfl, Nat.le_of_ble_eq_true rfl⟩ rfl hl.1 rfl (Nat.le_of_ble_eq_true rfl) dX12_member_117 ⟨Nat.le_of_ble_eq_true rfl, Nat.le_of_ble_eq_true rfl⟩) hP hD hK hS hA (fun z836 u837 H locs w838 hP hD hK hS => ?_)
                  obtain ⟨V844, L845⟩ := u837
                  obtain ⟨hMV844, ajV844, axL845, rgz836, t839, t840, t841, t842, t843⟩ := w838
                  have alL845 : agL [27, 28, 29, 30, 31, 32, 33, 34, 35, 36, 37, 38, 45, 46, 47] L L845 := agL.tr alL axL845 (by decide)
                  have hP : va_P D vwCl (mw ad kk ks.1 V844 L845) H := hP
                  have hD : va_D A (mw ad kk ks.1 V844 L845) := hD
                  have hMV844 : rgd bM V844 := hMV844
                  have ajV844 : agr [(0, 7), (0, 8)] [35, 36, 37, 38] V822 V844 := ajV844
                  have agV844 : agr [(0, 7), (0, 8), (0, 48), (0, 50)] [27, 28, 29, 30, 31, 32, 33, 34, 35, 36, 37, 38, 45, 46, 47] V V844 := agV822.tr ajV844 (by decide) (by decide)
                  have rgz836 : (-1) ≤ z836.toInt ∧ z836.toInt ≤ 19 := rgz836
                  have t839 : KmS (mthW (gT) ((nx gs 1)) 3) (V844 0 8).toInt (fun x9 => RelM V844 L845 (bq) (gn) (gT) x9.2 (gl) ∧ z836.toInt = ((x9.1 : Nat) : Int) ∧ x9.1 < 20 ∧ keepS ((nx gs 1)) 1 x9.2 ∧ MTX (gT) ((nx gs 1)) 3 x9) := t839
                  have t840 : RoV 35 (bq) V822 V844 := t840
                  have t841 : RoV 37 (bq) V822 V844 := t841
                  have t842 : RoL 36 20 (bq) L L845 := t842
                  have t843 : RoL 38 20 (bq) L L845 := t843
                  rcases t839 with ⟨q846, mx847, h848, rl849, hf850, hb851, kp852, mt853⟩ | ⟨q846, h848⟩
                  · skip
                    have ps854 := kp852.1
                    have fz855 := RelM.rg rl849
                    have r856 : 0 ≤ ((V844 0 8)).toInt ∧ ((V844 0 8)).toInt ≤ 70000 := hMV844 0 8
                    refine lv_istore_n (lv' := [(2, .int z836), (0, .ref (ad 0)), (1, .int p0)]) hx hb dX12_member_120 rfl hl (by decide) rfl (fun ls hl => ?_)
                    refine lv_aload_n hx hb dX12_member_121 rfl (lv_at hl 1 rfl) ?_
                    refine va_get (D := D) (ci := 12) (v := .int (V844 0 8)) (C := RX12) (T := TX12) (N := 100) hx hb hg inX12 hown hK hP 0 rfl rfl 8 (by decide) (hg _ w1714) (fun _ h9 => h9) rfl dX12_member_122 ?_
                    refine lv_if_ne (tgt := 157) hx hb dX12_member_125 (by decide) (fun c857 => ?_) (fun c857 => ?_)
                    · skip
                      have f858 : ((V844 0 8)).toInt ≠ 0 := b_neq rfl (by decide) c857
                      exfalso; omega
                    · skip
                      have f859 : ((V844 0 8)).toInt = 0 := b_eq rfl (by decide) c857
                      refine lv_aload_n hx hb dX12_member_128 rfl (lv_at hl 1 rfl) ?_
                      refine va_get (D := D) (ci := 12) (v := .ref (ad 34)) (C := RX12) (T := TX12) (N := 100) hx hb hg inX12 hown hK hP 0 rfl rfl 34 (by decide) (hg _ w1740) (fun _ h9 => h9) rfl dX12_member_129 ?_
                      refine lv_bipush (v := 20) hx hb dX12_member_132 (by decide) ?_
                      refine lv_iload_n hx hb dX12_member_134 rfl (lv_at hl 2 rfl) ?_
                      refine lv_imul hx hb dX12_member_135 ?_
                      refine lv_topi (fun z860 ez860 => ?_)
                      have hz860 : z860.toInt = 20 * p0.toInt := i_mul ez860 (by decide) rfl (by omega)
                      refine lv_iload_n hx hb dX12_member_136 rfl (lv_at hl 0 rfl) ?_
                      refine lv_iadd hx hb dX12_member_137 ?_
                      refine lv_topi (fun z861 ez861 => ?_)
                      have hz861 : z861.toInt = z860.toInt + z836.toInt := i_add ez861 rfl rfl (by omega)
                      refine va_iald (D := D) (i := z861) hx hb hK hP 27 26 rfl rfl (i_in (a := z861.toInt) rfl (by omega)) dX12_member_138 ?_
                      refine g_top (v := (V 34 (Int32.toNatClampNeg z861))) ((ajV844 34 (Int32.toNatClampNeg z861) rfl).trans ((ajV822 34 (Int32.toNatClampNeg z861) rfl).trans (ajV712 34 (Int32.toNatClampNeg z861) rfl))) ?_
                      have kc863 : Int32.toNatClampNeg z861 = 20 * gc + mx847.1 := by have h9 := i_clamp (x := z861) rfl (by omega); omega
                      have ma862 : (V 34 (Int32.toNatClampNeg z861)).toInt = (V 34 (20 * gc + mx847.1)).toInt := by rw [kc863]
                      have ow5 := ow.2.2.2.2.1 mx847.1 hb851
                      have oS : (nx gs 1).2.2.2 = gs.2.2.2 := congrArg (fun q9 => q9.2) ((keepS.tr (keepS.rf : keepS gs 0 gs) (keepS.n1 1))).2.2.2
                      have oL : (nx gs 1).2.1 3 = gs.2.1 3 := rfl
                      refine lv_if_lt (tgt := 157) hx hb dX12_member_139 (by decide) (fun c864 => ?_) (fun c864 => ?_)
                      · skip
                        have f865 : ((V 34 (Int32.toNatClampNeg z861))).toInt < 0 := b_lt rfl (by decide) c864
                        refine lv_aload_n hx hb dX12_member_157 rfl (lv_at hl 1 rfl) ?_
                        refine va_get (D := D) (ci := 12) (v := .int (V844 0 8)) (C := RX12) (T := TX12) (N := 100) hx hb hg inX12 hown hK hP 0 rfl rfl 8 (by decide) (hg _ w1714) (fun _ h9 => h9) rfl dX12_member_158 ?_
                        refine lv_if_ne (tgt := 179) hx hb dX12_member_161 (by decide) (fun c866 => ?_) (fun c866 => ?_)
                        · skip
                          have f867 : ((V844 0 8)).toInt ≠ 0 := b_neq rfl (by decide) c866
                          exfalso; omega
                        · skip
                          have f868 : ((V844 0 8)).toInt = 0 := b_eq rfl (by decide) c866
                          have nt9 : mx847.1 ∉ (nx gs 1).2.2.2 := by rw [oS]; exact fun q9 => absurd (ow5.mpr q9) (by omega)
                          have hr869 : ∀ k, Rc gT (Crun gs (Imember :: k)) (Crun (sT mx847.2 (mx847.1 :: (nx gs 1).2.2.2)) (Iexpr 0 :: Itake 59 :: Imember :: k)) := fun k => Rc.go1 (hr829 k) (mn_y (MTX.new mt853 h848 nt9))
                          have ps870 : (sT mx847.2 (mx847.1 :: (nx gs 1).2.2.2)).1 0 = mx847.2.1 0 := rfl
                          have rl871 : RelM V844 L845 bq gn gT (sT mx847.2 (mx847.1 :: (nx gs 1).2.2.2)) gl := RelM.tl rl849
                          refine lv_aload_n hx hb dX12_member_164 rfl (lv_at hl 1 rfl) ?_
                          refine va_get (D := D) (ci := 12) (v := .ref (ad 34)) (C := RX12) (T := TX12) (N := 100) hx hb hg inX12 hown hK hP 0 rfl rfl 34 (by decide) (hg _ w1740) (fun _ h9 => h9) rfl dX12_member_165 ?_
                          refine lv_bipush (v := 20) hx hb dX12_member_168 (by decide) ?_
                          refine lv_iload_n hx hb dX12_member_170 rfl (lv_at hl 2 rfl) ?_
                          refine lv_imul hx hb dX12_member_171 ?_
                          refine lv_topi (fun z872 ez872 => ?_)
                          have hz872 : z872.toInt = 20 * p0.toInt := i_mul ez872 (by decide) rfl (by omega)
                          refine lv_iload_n hx hb dX12_member_172 rfl (lv_at hl 0 rfl) ?_
                          refine lv_iadd hx hb dX12_member_173 ?_
                          refine lv_topi (fun z873 ez873 => ?_)
                          have hz873 : z873.toInt = z872.toInt + z836.toInt := i_add ez873 rfl rfl (by omega)
                          refine lv_aload_n hx hb dX12_member_174 rfl (lv_at hl 1 rfl) ?_
                          have pq874 : (V844 0 48).toInt = ((V 0 48)).toInt := congrArg Int32.toInt ((ajV844 0 48 rfl).trans ((ajV822 0 48 rfl).trans (ajV712 0 48 rfl)))
                          have pq875 : (V844 0 51).toInt = ((V 0 51)).toInt := congrArg Int32.toInt ((ajV844 0 51 rfl).trans ((ajV822 0 51 rfl).trans (ajV712 0 51 rfl)))
                          have pq876 : (V844 0 52).toInt = ((V 0 52)).toInt := congrArg Int32.toInt ((ajV844 0 52 rfl).trans ((ajV822 0 52 rfl).trans (ajV712 0 52 rfl)))
                          refine gA_int (gA_runV (As := []) (rest := [.int z873, .ref (ad 34)]) (ci := 12) (q0 := 0) hx hb hml hown hg hP hD hK hS hA hnw hgk (s_codeA l D ks H.size ad kk V844 L845 (bq) (gn) (gT) ((sT mx847.2 (mx847.1 :: (nx gs 1).2.2.2))) (gl) hMV844 rl871 (show (V844 0 48).toInt ≤ 2 * (V844 0 7).toInt from by omega) (EM.o2 (o := gc) (show (V844 27 gc).toInt = ((mx847.2.1 1 : Nat) : Int) from by rw [(by rw [(funext (fun q => ajV844 27 q rfl) : V844 27 = V822 27), (funext (fun q => ajV822 27 q rfl) : V822 27 = V712 27), (funext (fun q => ajV712 27 q rfl) : V712 27 = V 27)] : V844 27 = V 27)]; exact (by rw [((keepS.tr (keepS.tr (keepS.rf : keepS gs 0 gs) (keepS.n1 1)) kp852)).2.1 1 (by decide)]; exact ow.1)) (show mx847.2.1 4 = 0 from (by rw [((keepS.tr (keepS.tr (keepS.rf : keepS gs 0 gs) (keepS.n1 1)) kp852)).2.1 4 (by decide)]; exact ow.2.2.2.1)) (by omega) (by omega))) w2112 w2114 w105 w172 w2115 rfl rfl hdV_yX12_code ⟨Nat.le_of_ble_eq_true rfl, Nat.le_of_ble_eq_true rfl⟩ rfl hl.1 rfl (Nat.le_of_ble_eq_true rfl) dX12_member_175 ⟨Nat.le_of_ble_eq_true rfl, Nat.le_of_ble_eq_true rfl⟩) hP hD hK hS hA (fun z877 u878 H locs w879 hP hD hK hS => ?_)
                          obtain ⟨V889, L890⟩ := u878
                          obtain ⟨hMV889, ajV889, axL890, rgz877, t880, t881, t882, t883, t884, t885, t886, t887, t888⟩ := w879
                          have alL890 : agL [27, 28, 29, 30, 31, 32, 33, 34, 35, 36, 37, 38, 45, 46, 47] L L890 := agL.tr alL845 axL890 (by decide)
                          have hP : va_P D vwCl (mw ad kk ks.1 V889 L890) H := hP
                          have hD : va_D A (mw ad kk ks.1 V889 L890) := hD
                          have hMV889 : rgd bM V889 := hMV889
                          have ajV889 : agr [(0, 7), (0, 8), (0, 48), (0, 50)] [35, 36, 37, 38, 45, 46, 47] V844 V889 := ajV889
                          have agV889 : agr [(0, 7), (0, 8), (0, 48), (0, 50)] [27, 28, 29, 30, 31, 32, 33, 34, 35, 36, 37, 38, 45, 46, 47] V V889 := agV844.tr ajV889 (by decide) (by decide)
                          have rgz877 : 0 ≤ z877.toInt ∧ z877.toInt ≤ 20000 := rgz877
                          have t880 : Imp ((V889 0 8).toInt = 0) ((V889 0 48).toInt - (V844 0 48).toInt ≤ 2 * ((V889 0 7).toInt - (V844 0 7).toInt) + 1) := t880
                          have t881 : (V889 0 48).toInt ≤ 8060 := t881
                          have t882 : (V844 0 48).toInt ≤ (V889 0 48).toInt := t882
                          have t883 : z877.toInt = (V844 0 49).toInt + (V844 0 48).toInt := t883
                          have t884 : RdM (gT) ((sT mx847.2 (mx847.1 :: (nx gs 1).2.2.2))) (fun k => Iexpr 0 :: k) (fun k => k) (V889 0 8).toInt (fun s9 => RelM V889 L890 (bq) (gn) (gT) s9 (gl) ∧ keepS ((sT mx847.2 (mx847.1 :: (nx gs 1).2.2.2))) 1 s9) := t884
                          have t885 : RoV 35 (bq) V844 V889 := t885
                          have t886 : RoV 37 (bq) V844 V889 := t886
                          have t887 : RoL 36 20 (bq) L845 L890 := t887
                          have t888 : RoL 38 20 (bq) L845 L890 := t888
                          have r891 : 0 ≤ ((V889 0 48)).toInt ∧ ((V889 0 48)).toInt ≤ 10000 := hMV889 0 48
                          have r892 : 0 ≤ ((V889 0 8)).toInt ∧ ((V889 0 8)).toInt ≤ 70000 := hMV889 0 8
                          have pq893 : (V844 0 49).toInt = ((V 0 49)).toInt := congrArg Int32.toInt ((ajV844 0 49 rfl).trans ((ajV822 0 49 rfl).trans (ajV712 0 49 rfl)))
                          have r894 : 0 ≤ ((V 0 49)).toInt ∧ ((V 0 49)).toInt ≤ 10000 := hMV 0 49
                          rcases t884 with ⟨q895, sx896, h897, rl898, kp899⟩ | ⟨q895, h897⟩
                          · skip
                            have hr900 : ∀ k, Rc gT (Crun gs (Imember :: k)) (Crun sx896 (Itake 59 :: Imember :: k)) := fun k => (hr869 k).tr (h897 (Itake 59 :: Imember :: k))
                            have fz901 := RelM.rg rl898
                            have ps902 := (kp899).1
                            refine va_iast (D := D) (i := z873) (x := z877) hx hb hK hP hD hS 27 26 rfl rfl (i_in (a := z873.toInt) rfl (by first | omega | ((try (have i_t880 := Imp.go t880 (by omega))); omega))) dX12_member_178 (fun H locs hP hD hS => ?_)
                            obtain ⟨V903, hV903⟩ : ∃ z, z = up2 V889 34 (Int32.toNatClampNeg z873) z877 := ⟨_, rfl⟩
                            have hP : va_P D vwCl (mw ad kk ks.1 V903 L890) H := by rw [hV903]; exact hP
                            have hD : va_D A (mw ad kk ks.1 V903 L890) := by rw [hV903]; exact hD
                            have hMV903 : rgd bM V903 := hMV889.put hV903 (i_full _)
                            have agV903 : agr [(0, 7), (0, 8), (0, 48), (0, 50)] [27, 28, 29, 30, 31, 32, 33, 34, 35, 36, 37, 38, 45, 46, 47] V V903 := agV889.up hV903 rfl
                            refine lv_goto (tgt := 187) hx hb dX12_member_179 (by decide) ?_
                            refine lv_aload_n hx hb dX12_member_187 rfl (lv_at hl 1 rfl) ?_
                            refine lv_bipush (v := 59) hx hb dX12_member_188 (by decide) ?_
                            have rl904 : RelM V903 L890 bq gn gT sx896 gl := RelM.ag rl898 (show agr [] [34] V889 V903 from (agr.up agr.rf hV903 rfl)) (by decide) (show agL [] L890 L890 from agL.rf) (by decide)
                            have r905 : Int32.toInt 59 = 59 := by decide
                            refine gA_void (gA_runV (As := [.int 59]) (rest := []) (ci := 12) (q0 := 0) hx hb hml hown hg hP hD hK hS hA hnw hgk (s_takeSignA l D ks H.size ad kk V903 L890 59 (bq) (gn) (gT) (sx896) (gl) hMV903 rl904 (sg_yes (j := 59) (by decide) (by decide) (by decide))) w2075 w2077 w96 w172 w2078 rfl rfl hdV_yX12_takeSign ⟨Nat.le_of_ble_eq_true rfl, Nat.le_of_ble_eq_true rfl⟩ rfl hl.1 rfl (Nat.le_of_ble_eq_true rfl) dX12_member_190 ⟨Nat.le_of_ble_eq_true rfl, Nat.le_of_ble_eq_true rfl⟩) hP hD hK hS hA (fun u907 H locs w908 hP hD hK hS => ?_)
                            obtain ⟨V910, L911⟩ := u907
                            obtain ⟨hMV910, ajV910, axL911, t909⟩ := w908
                            have axL911 : L890 = L911 := Eq.symm axL911
                            subst axL911
                            have hP : va_P D vwCl (mw ad kk ks.1 V910 L890) H := hP
                            have hD : va_D A (mw ad kk ks.1 V910 L890) := hD
                            have hMV910 : rgd bM V910 := hMV910
                            have ajV910 : agr [(0, 7), (0, 8)] [] V903 V910 := ajV910
                            have agV910 : agr [(0, 7), (0, 8), (0, 48), (0, 50)] [27, 28, 29, 30, 31, 32, 33, 34, 35, 36, 37, 38, 45, 46, 47] V V910 := agV903.tr ajV910 (by decide) (by decide)
                            have t909 : ((V910 0 8).toInt = 0 ∧ (gT).1 ((sx896).1 0) = (Int32.toInt 59) ∧ RelM V910 L890 (bq) (gn) (gT) (nx (sx896) 1) (gl)) ∨ (1 ≤ (V910 0 8).toInt ∧ (gT).1 ((sx896).1 0) ≠ (Int32.toInt 59) ∧ (V910 0 8).toInt = 1 + 16 * (gT).2.2 ((sx896).1 0)) := t909
                            rcases t909 with ⟨q912, h913, rl914⟩ | ⟨q912, h913, rl914⟩
                            · skip
                              have kd915 : gT.1 (sx896.1 0) = 59 := h913.trans (by decide)
                              have hr916 : ∀ k, Rc gT (Crun gs (Imember :: k)) (Crun (nx sx896 1) (Imember :: k)) := fun k => Rc.go1 (hr900 k) (tk_y kd915)
                              have ps917 : (nx sx896 1).1 0 = sx896.1 0 + 1 := rfl
                              have fz918 := RelM.rg rl914
                              have r919 : 0 ≤ ((V910 0 8)).toInt ∧ ((V910 0 8)).toInt ≤ 70000 := hMV910 0 8
                              have pq920 : (V910 0 48).toInt = ((V889 0 48)).toInt := congrArg Int32.toInt ((ajV910 0 48 rfl).trans (up2_o hV903 (by decide)))
                              have ps921 : gs.1 0 + 1 ≤ (nx gs 1).1 0 := ((keepS.n1 1)).1
                              have ps922 : (nx gs 1).1 0 + 1 ≤ mx847.2.1 0 := (kp852).1
                              have ps923 : (sT mx847.2 (mx847.1 :: (nx gs 1).2.2.2)).1 0 = mx847.2.1 0 := rfl
                              have ps924 : (sT mx847.2 (mx847.1 :: (nx gs 1).2.2.2)).1 0 + 1 ≤ sx896.1 0 := (kp899).1
                              have ps925 : sx896.1 0 + 1 ≤ (nx sx896 1).1 0 := ((keepS.n1 1)).1
                              have k34 : (Int32.toNatClampNeg z873) = 20 * gc + mx847.1 := by have h9 := i_clamp (x := z873) rfl (by omega); omega
                              have cs926 : 0 ≤ (V910 34 (20 * gc + mx847.1)).toInt := by have h9 : V910 34 (Int32.toNatClampNeg z873) = z877 := ((ajV910 34 (Int32.toNatClampNeg z873) rfl).trans (up2_s hV903)); rw [k34] at h9; rw [h9]; omega
                              have rw927 : RoV 35 bq V V910 := (fun k hk => ((ajV910 35 k rfl).trans ((up2_o hV903 (by decide)).trans ((t885 k hk).trans ((t840 k hk).trans ((ajV822 35 k rfl).trans ((ajV712 35 k rfl).trans rfl)))))))
                              have rw928 : RoV 37 bq V V910 := (fun k hk => ((ajV910 37 k rfl).trans ((up2_o hV903 (by decide)).trans ((t886 k hk).trans ((t841 k hk).trans ((ajV822 37 k rfl).trans ((ajV712 37 k rfl).trans rfl)))))))
                              have rw929 : RoL 36 20 bq L L890 := (fun k hk => ((t887 k hk).trans ((t842 k hk).trans rfl)))
                              have rw930 : RoL 38 20 bq L L890 := (fun k hk => ((t888 k hk).trans ((t843 k hk).trans rfl)))
                              exact W.vret hx hb hr (fun t ht hW => ⟨⟨(V910, L890), rfl, ⟨hMV910, agV910, alL890, (Imp.mk (fun hp => have hp : (V910 0 8).toInt = 0 := hp; (show (V910 0 48).toInt ≤ 2 * (V910 0 7).toInt from by first | omega | ((try (have i_t880 := Imp.go t880 (by omega))); omega)))), (show (V910 0 48).toInt ≤ 8120 from by first | omega | ((try (have i_t880 := Imp.go t880 (by omega))); omega)), (Or.inl ⟨W0 rl914, (nx sx896 1), hr916, rl914, (by omega), (OWm.mt (m := 1) ow (keepS.le (keepS.tr (keepS.rf : keepS gs 0 gs) (keepS.n1 1)) (by decide)) (Nat.le_refl _) kp852 (MTX.le mt853).1 (MTX.le mt853).2 (keepS.le (keepS.tr (keepS.tr (keepS.rf : keepS (sT mx847.2 (mx847.1 :: (nx gs 1).2.2.2)) 0 (sT mx847.2 (mx847.1 :: (nx gs 1).2.2.2))) kp899) (keepS.n1 1)) (by decide)) (show (mx847.2.2.1 3).length ≤ ((nx sx896 1).2.1 3).length from by have h9 := Rc.ml (h897 []); exact h9) (show V910 27 gc = V 27 gc from ((ajV910 27 _ rfl).trans ((up2_o hV903 (by decide)).trans ((ajV889 27 _ rfl).trans ((ajV844 27 _ rfl).trans ((ajV822 27 _ rfl).trans ((ajV712 27 _ rfl).trans rfl))))))) (show V910 32 gc = V 32 gc from ((ajV910 32 _ rfl).trans ((up2_o hV903 (by decide)).trans ((ajV889 32 _ rfl).trans ((ajV844 32 _ rfl).trans ((ajV822 32 _ rfl).trans ((ajV712 32 _ rfl).trans rfl))))))) (show V910 33 gc = V 33 gc from ((ajV910 33 _ rfl).trans ((up2_o hV903 (by decide)).trans ((ajV889 33 _ rfl).trans ((ajV844 33 _ rfl).trans ((ajV822 33 _ rfl).trans ((ajV712 33 _ rfl).trans rfl))))))) cs926 (fun f hf hne => ((ajV910 34 _ rfl).trans ((up2_k hV903 (by omega)).trans ((ajV889 34 _ rfl).trans ((ajV844 34 _ rfl).trans ((ajV822 34 _ rfl).trans ((ajV712 34 _ rfl).trans rfl)))))))), ((((keepS.n1 1)).2.2.1 2 (by decide)).trans (((kp899).2.2.1 2 (by decide)).trans ((rfl : (sT mx847.2 (mx847.1 :: (nx gs 1).2.2.2)).2.1 2 = mx847.2.2.1 2).trans (((kp852).2.2.1 2 (by decide)).trans ((((keepS.n1 1)).2.2.1 2 (by decide)).trans (rfl : gs.2.1 2 = gs.2.1 2)))))), ((congrArg (fun q9 => q9.1) ((keepS.n1 1)).2.2.2).trans ((congrArg (fun q9 => q9.1) (kp899).2.2.2).trans ((rfl : (sT mx847.2 (mx847.1 :: (nx gs 1).2.2.2)).2.2.1 = mx847.2.2.2.1).trans ((congrArg (fun q9 => q9.1) (kp852).2.2.2).trans ((congrArg (fun q9 => q9.1) ((keepS.n1 1)).2.2.2).trans (rfl : gs.2.2.1 = gs.2.2.1))))))⟩), rw927, rw928, rw929, rw930⟩, by rw [ht]; exact hP, va_K.moved hW.alike hK, hD⟩, hS.F ht⟩) hS.2.2 dX12_member_193
                            · skip
                              have kd931 : gT.1 (sx896.1 0) ≠ 59 := fun h9 => h913 (h9.trans (by decide))
                              have hb932 : ∀ k, Rc gT (Crun gs (Imember :: k)) (Cbad (V910 0 8).toInt) := fun k => Rc.go1 (hr900 k) ((tk_n kd931).trans (fl_eq rfl rl914))
                              have r933 : 0 ≤ ((V910 0 8)).toInt ∧ ((V910 0 8)).toInt ≤ 70000 := hMV910 0 8
                              have pq934 : (V910 0 48).toInt = ((V889 0 48)).toInt := congrArg Int32.toInt ((ajV910 0 48 rfl).trans (up2_o hV903 (by decide)))
                              have rw935 : RoV 35 bq V V910 := (fun k hk => ((ajV910 35 k rfl).trans ((up2_o hV903 (by decide)).trans ((t885 k hk).trans ((t840 k hk).trans ((ajV822 35 k rfl).trans ((ajV712 35 k rfl).trans rfl)))))))
                              have rw936 : RoV 37 bq V V910 := (fun k hk => ((ajV910 37 k rfl).trans ((up2_o hV903 (by decide)).trans ((t886 k hk).trans ((t841 k hk).trans ((ajV822 37 k rfl).trans ((ajV712 37 k rfl).trans rfl)))))))
                              have rw937 : RoL 36 20 bq L L890 := (fun k hk => ((t887 k hk).trans ((t842 k hk).trans rfl)))
                              have rw938 : RoL 38 20 bq L L890 := (fun k hk => ((t888 k hk).trans ((t843 k hk).trans rfl)))
                              exact W.vret hx hb hr (fun t ht hW => ⟨⟨(V910, L890), rfl, ⟨hMV910, agV910, alL890, (Imp.mk (fun hp => have hp : (V910 0 8).toInt = 0 := hp; (show (V910 0 48).toInt ≤ 2 * (V910 0 7).toInt from by first | omega | ((try (have i_t880 := Imp.go t880 (by omega))); omega)))), (show (V910 0 48).toInt ≤ 8120 from by first | omega | ((try (have i_t880 := Imp.go t880 (by omega))); omega)), (Or.inr ⟨(show 1 ≤ (V910 0 8).toInt from by omega), hb932⟩), rw935, rw936, rw937, rw938⟩, by rw [ht]; exact hP, va_K.moved hW.alike hK, hD⟩, hS.F ht⟩) hS.2.2 dX12_member_193
                          · skip
                            have hb939 : ∀ k, Rc gT (Crun gs (Imember :: k)) (Cbad (V889 0 8).toInt) := fun k => (hr869 k).tr (h897 (Itake 59 :: Imember :: k))
                            refine va_iast (D := D) (i := z873) (x := z877) hx hb hK hP hD hS 27 26 rfl rfl (i_in (a := z873.toInt) rfl (by first | omega | ((try (have i_t880 := Imp.go t880 (by omega))); omega))) dX12_member_178 (fun H locs hP hD hS => ?_)
                            obtain ⟨V940, hV940⟩ : ∃ z, z = up2 V889 34 (Int32.toNatClampNeg z873) z877 := ⟨_, rfl⟩
                            have hP : va_P D vwCl (mw ad kk ks.1 V940 L890) H := by rw [hV940]; exact hP
                            have hD : va_D A (mw ad kk ks.1 V940 L890) := by rw [hV940]; exact hD
                            have hMV940 : rgd bM V940 := hMV889.put hV940 (i_full _)
                            have agV940 : agr [(0, 7), (0, 8), (0, 48), (0, 50)] [27, 28, 29, 30, 31, 32, 33, 34, 35, 36, 37, 38, 45, 46, 47] V V940 := agV889.up hV940 rfl
                            refine lv_goto (tgt := 187) hx hb dX12_member_179 (by decide) ?_
                            refine lv_aload_n hx hb dX12_member_187 rfl (lv_at hl 1 rfl) ?_
                            refine lv_bipush (v := 59) hx hb dX12_member_188 (by decide) ?_
                            have r941 : Int32.toInt 59 = 59 := by decide
                            have pq942 : (V940 0 8).toInt = ((V889 0 8)).toInt := congrArg Int32.toInt (up2_o hV940 (by decide))
                            refine gA_void (gA_runV (As := [.int 59]) (rest := []) (ci := 12) (q0 := 0) hx hb hml hown hg hP hD hK hS hA hnw hgk (s_takeSignB l D ks H.size ad kk V940 L890 59 hMV940 (show 1 ≤ (V940 0 8).toInt from by first | omega | ((try (have i_t880 := Imp.go t880 (by omega))); omega))) w2075 w2077 w96 w172 w2078 rfl rfl hdV_yX12_takeSign ⟨Nat.le_of_ble_eq_true rfl, Nat.le_of_ble_eq_true rfl⟩ rfl hl.1 rfl (Nat.le_of_ble_eq_true rfl) dX12_member_190 ⟨Nat.le_of_ble_eq_true rfl, Nat.le_of_ble_eq_true rfl⟩) hP hD hK hS hA (fun u944 H locs w945 hP hD hK hS => ?_)
                            obtain ⟨V947, L948⟩ := u944
                            obtain ⟨hMV947, ajV947, axL948, t946⟩ := w945
                            have axL948 : L890 = L948 := Eq.symm axL948
                            subst axL948
                            have hP : va_P D vwCl (mw ad kk ks.1 V947 L890) H := hP
                            have hD : va_D A (mw ad kk ks.1 V947 L890) := hD
                            have hMV947 : rgd bM V947 := hMV947
                            have ajV947 : agr [(0, 7), (0, 8)] [] V940 V947 := ajV947
                            have agV947 : agr [(0, 7), (0, 8), (0, 48), (0, 50)] [27, 28, 29, 30, 31, 32, 33, 34, 35, 36, 37, 38, 45, 46, 47] V V947 := agV940.tr ajV947 (by decide) (by decide)
                            have t946 : (V947 0 8).toInt = (V940 0 8).toInt := t946
                            have r949 : 0 ≤ ((V947 0 8)).toInt ∧ ((V947 0 8)).toInt ≤ 70000 := hMV947 0 8
                            have pq950 : (V947 0 48).toInt = ((V889 0 48)).toInt := congrArg Int32.toInt ((ajV947 0 48 rfl).trans (up2_o hV940 (by decide)))
                            have rw951 : RoV 35 bq V V947 := (fun k hk => ((ajV947 35 k rfl).trans ((up2_o hV940 (by decide)).trans ((t885 k hk).trans ((t840 k hk).trans ((ajV822 35 k rfl).trans ((ajV712 35 k rfl).trans rfl)))))))
                            have rw952 : RoV 37 bq V V947 := (fun k hk => ((ajV947 37 k rfl).trans ((up2_o hV940 (by decide)).trans ((t886 k hk).trans ((t841 k hk).trans ((ajV822 37 k rfl).trans ((ajV712 37 k rfl).trans rfl)))))))
                            have rw953 : RoL 36 20 bq L L890 := (fun k hk => ((t887 k hk).trans ((t842 k hk).trans rfl)))
                            have rw954 : RoL 38 20 bq L L890 := (fun k hk => ((t888 k hk).trans ((t843 k hk).trans rfl)))
                            exact W.vret hx hb hr (fun t ht hW => ⟨⟨(V947, L890), rfl, ⟨hMV947, agV947, alL890, (Imp.mk (fun hp => have hp : (V947 0 8).toInt = 0 := hp; (show (V947 0 48).toInt ≤ 2 * (V947 0 7).toInt from by first | omega | ((try (have i_t880 := Imp.go t880 (by omega))); omega)))), (show (V947 0 48).toInt ≤ 8120 from by first | omega | ((try (have i_t880 := Imp.go t880 (by omega))); omega)), (Or.inr ⟨(show 1 ≤ (V947 0 8).toInt from by omega), (fun k => by rw [show (V947 0 8).toInt = (V889 0 8).toInt from by omega]; exact hb939 k)⟩), rw951, rw952, rw953, rw954⟩, by rw [ht]; exact hP, va_K.moved hW.alike hK, hD⟩, hS.F ht⟩) hS.2.2 dX12_member_193
                      · skip
                        have f955 : 0 ≤ ((V 34 (Int32.toNatClampNeg z861))).toInt := b_nlt rfl (by decide) c864
                        refine lv_aload_n hx hb dX12_member_142 rfl (lv_at hl 1 rfl) ?_
                        refine lv_dup hx hb dX12_member_143 rfl ?_
                        refine va_get (D := D) (ci := 12) (v := .int (V844 0 7)) (C := RX12) (T := TX12) (N := 100) hx hb hg inX12 hown hK hP 0 rfl rfl 7 (by decide) (hg _ w1713) (fun _ h9 => h9) rfl dX12_member_144 ?_
                        refine lv_iconst (v := 1) hx hb dX12_member_147 (by decide) ?_
                        refine lv_isub hx hb dX12_member_148 ?_
                        refine lv_topi (fun z956 ez956 => ?_)
                        have hz956 : z956.toInt = ((V844 0 7)).toInt - 1 := i_sub ez956 rfl (by decide) (by omega)
                        refine va_put (D := D) (ci := 12) (v := .int z956) (ty := tyX12 7) (C := RX12) (T := TX12) (N := 100) hx hb hg inX12 tyX12 tyX12_ok nmX12 hown hK hP hD hS 0 rfl rfl 7 (by decide) (hg _ w1713) (fun _ h9 => h9) rfl (tyX12_ok 7 (by decide)) rfl rfl (Nat.le_of_ble_eq_true rfl) dX12_member_149 (fun H locs hP hD hS => ?_)
                        obtain ⟨V957, hV957⟩ : ∃ z, z = up2 V844 0 7 z956 := ⟨_, rfl⟩
                        have hP : va_P D vwCl (mw ad kk ks.1 V957 L845) H := by rw [hV957]; exact hP
                        have hD : va_D A (mw ad kk ks.1 V957 L845) := by rw [hV957]; exact hD
                        have hMV957 : rgd bM V957 := hMV844.put hV957 (i_full _)
                        have agV957 : agr [(0, 7), (0, 8), (0, 48), (0, 50)] [27, 28, 29, 30, 31, 32, 33, 34, 35, 36, 37, 38, 45, 46, 47] V V957 := agV844.up hV957 rfl
                        have tx := MTX.told mt853 (by rw [oS]; exact ow5.mp (by omega)) (by rw [oS, oL]; exact ow.2.2.2.2.2)
                        have rl958 : RelM V957 L845 bq gn gT (nx gs 1) gl := RelM.v8 (by rw [← tx.2]; exact rl849) hV957 (by omega)
                        have fz959 := RelM.rg rl958
                        have pq960 : (V957 0 8).toInt = ((V844 0 8)).toInt := congrArg Int32.toInt (up2_k hV957 (by decide))
                        have pq961 : (V957 0 7).toInt = z956.toInt := congrArg Int32.toInt (up2_s hV957)
                        have mn3 : ∀ k, mst gT (Crun (nx gs 1) (ImethN :: k)) = fl gT (nx gs 1) 3 := fun k => mthN_3 (mth_k3 h848) tx.1 _
                        refine lv_aload_n hx hb dX12_member_152 rfl (lv_at hl 1 rfl) ?_
                        refine lv_iconst (v := 3) hx hb dX12_member_153 (by decide) ?_
                        have r962 : Int32.toInt 3 = 3 := by decide
                        refine gA_void (gA_runV (As := [.int 3]) (rest := []) (ci := 12) (q0 := 0) hx hb hml hown hg hP hD hK hS hA hnw hgk (s_wrongA l D ks H.size ad kk V957 L845 3 (bq) (gn) (gT) ((nx gs 1)) (gl) hMV957 (by decide) rl958) w2035 w2037 w86 w172 w2038 rfl rfl hdV_yX12_wrong ⟨Nat.le_of_ble_eq_true rfl, Nat.le_of_ble_eq_true rfl⟩ rfl hl.1 rfl (Nat.le_of_ble_eq_true rfl) dX12_member_154 ⟨Nat.le_of_ble_eq_true rfl, Nat.le_of_ble_eq_true rfl⟩) hP hD hK hS hA (fun u964 H locs w965 hP hD hK hS => ?_)
                        obtain ⟨V968, L969⟩ := u964
                        obtain ⟨hMV968, ajV968, axL969, t966, t967⟩ := w965
                        have axL969 : L845 = L969 := Eq.symm axL969
                        subst axL969
                        have hP : va_P D vwCl (mw ad kk ks.1 V968 L845) H := hP
                        have hD : va_D A (mw ad kk ks.1 V968 L845) := hD
                        have hMV968 : rgd bM V968 := hMV968
                        have ajV968 : agr [(0, 8)] [] V957 V968 := ajV968
                        have agV968 : agr [(0, 7), (0, 8), (0, 48), (0, 50)] [27, 28, 29, 30, 31, 32, 33, 34, 35, 36, 37, 38, 45, 46, 47] V V968 := agV957.tr ajV968 (by decide) (by decide)
                        have t966 : 1 ≤ (V968 0 8).toInt := t966
                        have t967 : (V968 0 8).toInt = (Int32.toInt 3) + 16 * (gT).2.2 (((nx gs 1)).1 0) := t967
                        have r970 : 0 ≤ ((V968 0 8)).toInt ∧ ((V968 0 8)).toInt ≤ 70000 := hMV968 0 8
                        have hb971 : ∀ k, Rc gT (Crun gs (Imember :: k)) (Cbad (V968 0 8).toInt) := fun k => Rc.go1 (hr829 k) ((mn3 _).trans (fl_eq rfl (show (V968 0 8).toInt = 3 + 16 * gT.2.2 ((nx gs 1).1 0) from by omega)))
                        refine lv_aload_n hx hb dX12_member_157 rfl (lv_at hl 1 rfl) ?_
                        refine va_get (D := D) (ci := 12) (v := .int (V968 0 8)) (C := RX12) (T := TX12) (N := 100) hx hb hg inX12 hown hK hP 0 rfl rfl 8 (by decide) (hg _ w1714) (fun _ h9 => h9) rfl dX12_member_158 ?_
                        refine lv_if_ne (tgt := 179) hx hb dX12_member_161 (by decide) (fun c972 => ?_) (fun c972 => ?_)
                        · skip
                          have f973 : ((V968 0 8)).toInt ≠ 0 := b_neq rfl (by decide) c972
                          refine lv_goto (tgt := 187) hx hb dX12_member_179 (by decide) ?_
                          refine lv_aload_n hx hb dX12_member_187 rfl (lv_at hl 1 rfl) ?_
                          refine lv_bipush (v := 59) hx hb dX12_member_188 (by decide) ?_
                          have r974 : Int32.toInt 59 = 59 := by decide
                          refine gA_void (gA_runV (As := [.int 59]) (rest := []) (ci := 12) (q0 := 0) hx hb hml hown hg hP hD hK hS hA hnw hgk (s_takeSignB l D ks H.size ad kk V968 L845 59 hMV968 (show 1 ≤ (V968 0 8).toInt from by omega)) w2075 w2077 w96 w172 w2078 rfl rfl hdV_yX12_takeSign ⟨Nat.le_of_ble_eq_true rfl, Nat.le_of_ble_eq_true rfl⟩ rfl hl.1 rfl (Nat.le_of_ble_eq_true rfl) dX12_member_190 ⟨Nat.le_of_ble_eq_true rfl, Nat.le_of_ble_eq_true rfl⟩) hP hD hK hS hA (fun u976 H locs w977 hP hD hK hS => ?_)
                          obtain ⟨V979, L980⟩ := u976
                          obtain ⟨hMV979, ajV979, axL980, t978⟩ := w977
                          have axL980 : L845 = L980 := Eq.symm axL980
                          subst axL980
                          have hP : va_P D vwCl (mw ad kk ks.1 V979 L845) H := hP
                          have hD : va_D A (mw ad kk ks.1 V979 L845) := hD
                          have hMV979 : rgd bM V979 := hMV979
                          have ajV979 : agr [(0, 7), (0, 8)] [] V968 V979 := ajV979
                          have agV979 : agr [(0, 7), (0, 8), (0, 48), (0, 50)] [27, 28, 29, 30, 31, 32, 33, 34, 35, 36, 37, 38, 45, 46, 47] V V979 := agV968.tr ajV979 (by decide) (by decide)
                          have t978 : (V979 0 8).toInt = (V968 0 8).toInt := t978
                          have r981 : 0 ≤ ((V979 0 8)).toInt ∧ ((V979 0 8)).toInt ≤ 70000 := hMV979 0 8
                          have pq982 : (V979 0 48).toInt = ((V 0 48)).toInt := congrArg Int32.toInt ((ajV979 0 48 rfl).trans ((ajV968 0 48 rfl).trans ((up2_k hV957 (by decide)).trans ((ajV844 0 48 rfl).trans ((ajV822 0 48 rfl).trans (ajV712 0 48 rfl))))))
                          have rw983 : RoV 35 bq V V979 := (fun k hk => ((ajV979 35 k rfl).trans ((ajV968 35 k rfl).trans ((up2_o hV957 (by decide)).trans ((t840 k hk).trans ((ajV822 35 k rfl).trans ((ajV712 35 k rfl).trans rfl)))))))
                          have rw984 : RoV 37 bq V V979 := (fun k hk => ((ajV979 37 k rfl).trans ((ajV968 37 k rfl).trans ((up2_o hV957 (by decide)).trans ((t841 k hk).trans ((ajV822 37 k rfl).trans ((ajV712 37 k rfl).trans rfl)))))))
                          have rw985 : RoL 36 20 bq L L845 := (fun k hk => ((t842 k hk).trans rfl))
                          have rw986 : RoL 38 20 bq L L845 := (fun k hk => ((t843 k hk).trans rfl))
                          exact W.vret hx hb hr (fun t ht hW => ⟨⟨(V979, L845), rfl, ⟨hMV979, agV979, alL845, (Imp.mk (fun hp => have hp : (V979 0 8).toInt = 0 := hp; (show (V979 0 48).toInt ≤ 2 * (V979 0 7).toInt from by omega))), (show (V979 0 48).toInt ≤ 8120 from by omega), (Or.inr ⟨(show 1 ≤ (V979 0 8).toInt from by omega), (fun k => by rw [show (V979 0 8).toInt = (V968 0 8).toInt from by omega]; exact hb971 k)⟩), rw983, rw984, rw985, rw986⟩, by rw [ht]; exact hP, va_K.moved hW.alike hK, hD⟩, hS.F ht⟩) hS.2.2 dX12_member_193
                        · skip
                          have f987 : ((V968 0 8)).toInt = 0 := b_eq rfl (by decide) c972
                          exfalso; omega
                  · skip
                    have hb988 : ∀ k, Rc gT (Crun gs (Imember :: k)) (Cbad (V844 0 8).toInt) := fun k => Rc.go1 (hr829 k) (mn_b (Km_mthN h848))
                    have r989 : 0 ≤ ((V844 0 8)).toInt ∧ ((V844 0 8)).toInt ≤ 70000 := hMV844 0 8
                    refine lv_istore_n (lv' := [(2, .int z836), (0, .ref (ad 0)), (1, .int p0)]) hx hb dX12_member_120 rfl hl (by decide) rfl (fun ls hl => ?_)
                    refine lv_aload_n hx hb dX12_member_121 rfl (lv_at hl 1 rfl) ?_
                    refine va_get (D := D) (ci := 12) (v := .int (V844 0 8)) (C := RX12) (T := TX12) (N := 100) hx hb hg inX12 hown hK hP 0 rfl rfl 8 (by decide) (hg _ w1714) (fun _ h9 => h9) rfl dX12_member_122 ?_
                    refine lv_if_ne (tgt := 157) hx hb dX12_member_125 (by decide) (fun c990 => ?_) (fun c990 => ?_)
                    · skip
                      have f991 : ((V844 0 8)).toInt ≠ 0 := b_neq rfl (by decide) c990
                      refine lv_aload_n hx hb dX12_member_157 rfl (lv_at hl 1 rfl) ?_
                      refine va_get (D := D) (ci := 12) (v := .int (V844 0 8)) (C := RX12) (T := TX12) (N := 100) hx hb hg inX12 hown hK hP 0 rfl rfl 8 (by decide) (hg _ w1714) (fun _ h9 => h9) rfl dX12_member_158 ?_
                      refine lv_if_ne (tgt := 179) hx hb dX12_member_161 (by decide) (fun c992 => ?_) (fun c992 => ?_)
                      · skip
                        have f993 : ((V844 0 8)).toInt ≠ 0 := b_neq rfl (by decide) c992
                        refine lv_goto (tgt := 187) hx hb dX12_member_179 (by decide) ?_
                        refine lv_aload_n hx hb dX12_member_187 rfl (lv_at hl 1 rfl) ?_
                        refine lv_bipush (v := 59) hx hb dX12_member_188 (by decide) ?_
                        have r994 : Int32.toInt 59 = 59 := by decide
                        refine gA_void (gA_runV (As := [.int 59]) (rest := []) (ci := 12) (q0 := 0) hx hb hml hown hg hP hD hK hS hA hnw hgk (s_takeSignB l D ks H.size ad kk V844 L845 59 hMV844 (show 1 ≤ (V844 0 8).toInt from by omega)) w2075 w2077 w96 w172 w2078 rfl rfl hdV_yX12_takeSign ⟨Nat.le_of_ble_eq_true rfl, Nat.le_of_ble_eq_true rfl⟩ rfl hl.1 rfl (Nat.le_of_ble_eq_true rfl) dX12_member_190 ⟨Nat.le_of_ble_eq_true rfl, Nat.le_of_ble_eq_true rfl⟩) hP hD hK hS hA (fun u996 H locs w997 hP hD hK hS => ?_)
                        obtain ⟨V999, L1000⟩ := u996
                        obtain ⟨hMV999, ajV999, axL1000, t998⟩ := w997
                        have axL1000 : L845 = L1000 := Eq.symm axL1000
                        subst axL1000
                        have hP : va_P D vwCl (mw ad kk ks.1 V999 L845) H := hP
                        have hD : va_D A (mw ad kk ks.1 V999 L845) := hD
                        have hMV999 : rgd bM V999 := hMV999
                        have ajV999 : agr [(0, 7), (0, 8)] [] V844 V999 := ajV999
                        have agV999 : agr [(0, 7), (0, 8), (0, 48), (0, 50)] [27, 28, 29, 30, 31, 32, 33, 34, 35, 36, 37, 38, 45, 46, 47] V V999 := agV844.tr ajV999 (by decide) (by decide)
                        have t998 : (V999 0 8).toInt = (V844 0 8).toInt := t998
                        have r1001 : 0 ≤ ((V999 0 8)).toInt ∧ ((V999 0 8)).toInt ≤ 70000 := hMV999 0 8
                        have pq1002 : (V999 0 48).toInt = ((V 0 48)).toInt := congrArg Int32.toInt ((ajV999 0 48 rfl).trans ((ajV844 0 48 rfl).trans ((ajV822 0 48 rfl).trans (ajV712 0 48 rfl))))
                        have rw1003 : RoV 35 bq V V999 := (fun k hk => ((ajV999 35 k rfl).trans ((t840 k hk).trans ((ajV822 35 k rfl).trans ((ajV712 35 k rfl).trans rfl)))))
                        have rw1004 : RoV 37 bq V V999 := (fun k hk => ((ajV999 37 k rfl).trans ((t841 k hk).trans ((ajV822 37 k rfl).trans ((ajV712 37 k rfl).trans rfl)))))
                        have rw1005 : RoL 36 20 bq L L845 := (fun k hk => ((t842 k hk).trans rfl))
                        have rw1006 : RoL 38 20 bq L L845 := (fun k hk => ((t843 k hk).trans rfl))
                        exact W.vret hx hb hr (fun t ht hW => ⟨⟨(V999, L845), rfl, ⟨hMV999, agV999, alL845, (Imp.mk (fun hp => have hp : (V999 0 8).toInt = 0 := hp; (show (V999 0 48).toInt ≤ 2 * (V999 0 7).toInt from by omega))), (show (V999 0 48).toInt ≤ 8120 from by omega), (Or.inr ⟨(show 1 ≤ (V999 0 8).toInt from by omega), (fun k => by rw [show (V999 0 8).toInt = (V844 0 8).toInt from by omega]; exact hb988 k)⟩), rw1003, rw1004, rw1005, rw1006⟩, by rw [ht]; exact hP, va_K.moved hW.alike hK, hD⟩, hS.F ht⟩) hS.2.2 dX12_member_193
                      · skip
                        have f1007 : ((V844 0 8)).toInt = 0 := b_eq rfl (by decide) c992
                        exfalso; omega
                    · skip
                      have f1008 : ((V844 0 8)).toInt = 0 := b_eq rfl (by decide) c990
                      exfalso; omega
              · skip
                have kd1009 : gT.1 (gs.1 0) ≠ 142 := fun h9 => h825 (h9.trans (by decide))
                have fz1010 := RelM.rg rl826
                have pq1011 : (V822 0 8).toInt = ((V 0 8)).toInt := congrArg Int32.toInt ((ajV822 0 8 rfl).trans (ajV712 0 8 rfl))
                refine lv_if_eq (tgt := 182) hx hb dX12_member_105 (by decide) (fun c1012 => ?_) (fun c1012 => ?_)
                · skip
                  have f1013 : z818.toInt = 0 := b_eq rfl (by decide) c1012
                  refine lv_aload_n hx hb dX12_member_182 rfl (lv_at hl 0 rfl) ?_
                  refine lv_iconst (v := 1) hx hb dX12_member_183 (by decide) ?_
                  have r1014 : Int32.toInt 1 = 1 := by decide
                  refine gA_void (gA_runV (As := [.int 1]) (rest := []) (ci := 12) (q0 := 0) hx hb hml hown hg hP hD hK hS hA hnw hgk (s_wrongA l D ks H.size ad kk V822 L 1 (bq) (gn) (gT) (gs) (gl) hMV822 (by decide) rl826) w2035 w2037 w86 w172 w2038 rfl rfl hdV_yX12_wrong ⟨Nat.le_of_ble_eq_true rfl, Nat.le_of_ble_eq_true rfl⟩ rfl hl.1 rfl (Nat.le_of_ble_eq_true rfl) dX12_member_184 ⟨Nat.le_of_ble_eq_true rfl, Nat.le_of_ble_eq_true rfl⟩) hP hD hK hS hA (fun u1016 H locs w1017 hP hD hK hS => ?_)
                  obtain ⟨V1020, L1021⟩ := u1016
                  obtain ⟨hMV1020, ajV1020, axL1021, t1018, t1019⟩ := w1017
                  have axL1021 : L = L1021 := Eq.symm axL1021
                  subst axL1021
                  have hP : va_P D vwCl (mw ad kk ks.1 V1020 L) H := hP
                  have hD : va_D A (mw ad kk ks.1 V1020 L) := hD
                  have hMV1020 : rgd bM V1020 := hMV1020
                  have ajV1020 : agr [(0, 8)] [] V822 V1020 := ajV1020
                  have agV1020 : agr [(0, 7), (0, 8), (0, 48), (0, 50)] [27, 28, 29, 30, 31, 32, 33, 34, 35, 36, 37, 38, 45, 46, 47] V V1020 := agV822.tr ajV1020 (by decide) (by decide)
                  have t1018 : 1 ≤ (V1020 0 8).toInt := t1018
                  have t1019 : (V1020 0 8).toInt = (Int32.toInt 1) + 16 * (gT).2.2 ((gs).1 0) := t1019
                  have r1022 : 0 ≤ ((V1020 0 8)).toInt ∧ ((V1020 0 8)).toInt ≤ 70000 := hMV1020 0 8
                  have hr1023 : ∀ k, Rc gT (Crun gs (Imember :: k)) (Crun gs (Imember :: k)) := fun k => Rc.rf
                  have hb1024 : ∀ k, Rc gT (Crun gs (Imember :: k)) (Cbad (V1020 0 8).toInt) := fun k => Rc.go1 (hr1023 k) ((mb_f kn125 kd143 (Or.inl kd809) (Or.inr (by by_cases q9 : gs.1 3 = 1; exact q9; exact absurd (ow.2.2.1.mpr q9) (by omega))) kd1009).trans (fl_eq rfl (show (V1020 0 8).toInt = 1 + 16 * gT.2.2 (gs.1 0) from by omega)))
                  refine lv_aload_n hx hb dX12_member_187 rfl (lv_at hl 0 rfl) ?_
                  refine lv_bipush (v := 59) hx hb dX12_member_188 (by decide) ?_
                  have r1025 : Int32.toInt 59 = 59 := by decide
                  refine gA_void (gA_runV (As := [.int 59]) (rest := []) (ci := 12) (q0 := 0) hx hb hml hown hg hP hD hK hS hA hnw hgk (s_takeSignB l D ks H.size ad kk V1020 L 59 hMV1020 (show 1 ≤ (V1020 0 8).toInt from by omega)) w2075 w2077 w96 w172 w2078 rfl rfl hdV_yX12_takeSign ⟨Nat.le_of_ble_eq_true rfl, Nat.le_of_ble_eq_true rfl⟩ rfl hl.1 rfl (Nat.le_of_ble_eq_true rfl) dX12_member_190 ⟨Nat.le_of_ble_eq_true rfl, Nat.le_of_ble_eq_true rfl⟩) hP hD hK hS hA (fun u1027 H locs w1028 hP hD hK hS => ?_)
                  obtain ⟨V1030, L1031⟩ := u1027
                  obtain ⟨hMV1030, ajV1030, axL1031, t1029⟩ := w1028
                  have axL1031 : L = L1031 := Eq.symm axL1031
                  subst axL1031
                  have hP : va_P D vwCl (mw ad kk ks.1 V1030 L) H := hP
                  have hD : va_D A (mw ad kk ks.1 V1030 L) := hD
                  have hMV1030 : rgd bM V1030 := hMV1030
                  have ajV1030 : agr [(0, 7), (0, 8)] [] V1020 V1030 := ajV1030
                  have agV1030 : agr [(0, 7), (0, 8), (0, 48), (0, 50)] [27, 28, 29, 30, 31, 32, 33, 34, 35, 36, 37, 38, 45, 46, 47] V V1030 := agV1020.tr ajV1030 (by decide) (by decide)
                  have t1029 : (V1030 0 8).toInt = (V1020 0 8).toInt := t1029
                  have r1032 : 0 ≤ ((V1030 0 8)).toInt ∧ ((V1030 0 8)).toInt ≤ 70000 := hMV1030 0 8
                  have pq1033 : (V1030 0 48).toInt = ((V 0 48)).toInt := congrArg Int32.toInt ((ajV1030 0 48 rfl).trans ((ajV1020 0 48 rfl).trans ((ajV822 0 48 rfl).trans (ajV712 0 48 rfl))))
                  have rw1034 : RoV 35 bq V V1030 := (fun k hk => ((ajV1030 35 k rfl).trans ((ajV1020 35 k rfl).trans ((ajV822 35 k rfl).trans ((ajV712 35 k rfl).trans rfl)))))
                  have rw1035 : RoV 37 bq V V1030 := (fun k hk => ((ajV1030 37 k rfl).trans ((ajV1020 37 k rfl).trans ((ajV822 37 k rfl).trans ((ajV712 37 k rfl).trans rfl)))))
                  have rw1036 : RoL 36 20 bq L L := (fun k hk => rfl)
                  have rw1037 : RoL 38 20 bq L L := (fun k hk => rfl)
                  exact W.vret hx hb hr (fun t ht hW => ⟨⟨(V1030, L), rfl, ⟨hMV1030, agV1030, alL, (Imp.mk (fun hp => have hp : (V1030 0 8).toInt = 0 := hp; (show (V1030 0 48).toInt ≤ 2 * (V1030 0 7).toInt from by omega))), (show (V1030 0 48).toInt ≤ 8120 from by omega), (Or.inr ⟨(show 1 ≤ (V1030 0 8).toInt from by omega), (fun k => by rw [show (V1030 0 8).toInt = (V1020 0 8).toInt from by omega]; exact hb1024 k)⟩), rw1034, rw1035, rw1036, rw1037⟩, by rw [ht]; exact hP, va_K.moved hW.alike hK, hD⟩, hS.F ht⟩) hS.2.2 dX12_member_193
                · skip
                  have f1038 : z818.toInt ≠ 0 := b_neq rfl (by decide) c1012
                  exfalso; omega
            · skip
              have f1039 : ((V 33 (Int32.toNatClampNeg p0))).toInt < 0 := b_nle (by decide) rfl c815
              refine lv_aload_n hx hb dX12_member_77 rfl (lv_at hl 0 rfl) ?_
              refine lv_bipush (v := 13) hx hb dX12_member_78 (by decide) ?_
              have r1040 : Int32.toInt 13 = 13 := by decide
              refine gA_int (gA_runV (As := [.int 13]) (rest := []) (ci := 12) (q0 := 0) hx hb hml hown hg hP hD hK hS hA hnw hgk (s_hasWordA l D ks H.size ad kk V712 L 13 (bq) (gn) (gT) (gs) (gl) hMV712 (by decide) rl716) w2051 w2053 w90 w172 w2054 rfl rfl hdV_yX12_hasWord ⟨Nat.le_of_ble_eq_true rfl, Nat.le_of_ble_eq_true rfl⟩ rfl hl.1 rfl (Nat.le_of_ble_eq_true rfl) dX12_member_80 ⟨Nat.le_of_ble_eq_true rfl, Nat.le_of_ble_eq_true rfl⟩) hP hD hK hS hA (fun z1041 u1042 H locs w1043 hP hD hK hS => ?_)
              obtain ⟨V1045, L1046⟩ := u1042
              obtain ⟨hMV1045, ajV1045, axL1046, rgz1041, t1044⟩ := w1043
              have axL1046 : L = L1046 := Eq.symm axL1046
              subst axL1046
              have hP : va_P D vwCl (mw ad kk ks.1 V1045 L) H := hP
              have hD : va_D A (mw ad kk ks.1 V1045 L) := hD
              have hMV1045 : rgd bM V1045 := hMV1045
              have ajV1045 : agr [(0, 7)] [] V712 V1045 := ajV1045
              have agV1045 : agr [(0, 7), (0, 8), (0, 48), (0, 50)] [27, 28, 29, 30, 31, 32, 33, 34, 35, 36, 37, 38, 45, 46, 47] V V1045 := agV712.tr ajV1045 (by decide) (by decide)
              have rgz1041 : 0 ≤ z1041.toInt ∧ z1041.toInt ≤ 1 := rgz1041
              have t1044 : (z1041.toInt = 1 ∧ (gT).1 ((gs).1 0) = 128 + (Int32.toInt 13) ∧ RelM V1045 L (bq) (gn) (gT) (nx (gs) 1) (gl)) ∨ (z1041.toInt = 0 ∧ (gT).1 ((gs).1 0) ≠ 128 + (Int32.toInt 13) ∧ RelM V1045 L (bq) (gn) (gT) (gs) (gl)) := t1044
              rcases t1044 with ⟨q1047, h1048, rl1049⟩ | ⟨q1047, h1048, rl1049⟩
              · skip
                have kd1050 : gT.1 (gs.1 0) = 141 := h1048.trans (by decide)
                have hr1051 : ∀ k, Rc gT (Crun gs (Imember :: k)) (Crun gs (Imember :: k)) := fun k => Rc.rf
                have hr1052 : ∀ k, Rc gT (Crun gs (Imember :: k)) (Crun (nx (sN gs 3 1) 1) (Iexpr 0 :: Itake 59 :: Imember :: k)) := fun k => Rc.go1 (hr1051 k) (mb_141 kd1050 (ow.2.2.1.mp (by omega)))
                have ps1053 : (sN gs 3 1).1 0 = gs.1 0 := rfl
                have ps1054 : (nx gs 1).1 0 = gs.1 0 + 1 := rfl
                have fz1055 := RelM.rg rl1049
                have pq1056 : (V1045 0 8).toInt = ((V 0 8)).toInt := congrArg Int32.toInt ((ajV1045 0 8 rfl).trans (ajV712 0 8 rfl))
                refine lv_if_eq (tgt := 99) hx hb dX12_member_83 (by decide) (fun c1057 => ?_) (fun c1057 => ?_)
                · skip
                  have f1058 : z1041.toInt = 0 := b_eq rfl (by decide) c1057
                  exfalso; omega
                · skip
                  have f1059 : z1041.toInt ≠ 0 := b_neq rfl (by decide) c1057
                  have rl1060 : RelM V1045 L bq gn gT (nx (sN gs 3 1) 1) gl := rl1049
                  refine lv_aload_n hx hb dX12_member_86 rfl (lv_at hl 0 rfl) ?_
                  refine va_get (D := D) (ci := 12) (v := .ref (ad 33)) (C := RX12) (T := TX12) (N := 100) hx hb hg inX12 hown hK hP 0 rfl rfl 33 (by decide) (hg _ w1739) (fun _ h9 => h9) rfl dX12_member_87 ?_
                  refine lv_iload_n hx hb dX12_member_90 rfl (lv_at hl 1 rfl) ?_
                  refine lv_aload_n hx hb dX12_member_91 rfl (lv_at hl 0 rfl) ?_
                  have pq1061 : (V1045 0 48).toInt = ((V 0 48)).toInt := congrArg Int32.toInt ((ajV1045 0 48 rfl).trans (ajV712 0 48 rfl))
                  have pq1062 : (V1045 0 51).toInt = ((V 0 51)).toInt := congrArg Int32.toInt ((ajV1045 0 51 rfl).trans (ajV712 0 51 rfl))
                  have pq1063 : (V1045 0 52).toInt = ((V 0 52)).toInt := congrArg Int32.toInt ((ajV1045 0 52 rfl).trans (ajV712 0 52 rfl))
                  refine gA_int (gA_runV (As := []) (rest := [.int p0, .ref (ad 33)]) (ci := 12) (q0 := 0) hx hb hml hown hg hP hD hK hS hA hnw hgk (s_codeA l D ks H.size ad kk V1045 L (bq) (gn) (gT) ((nx (sN gs 3 1) 1)) (gl) hMV1045 rl1060 (show (V1045 0 48).toInt ≤ 2 * (V1045 0 7).toInt from by omega) (EM.o2 (o := gc) (show (V1045 27 gc).toInt = (((nx (sN gs 3 1) 1).1 1 : Nat) : Int) from by rw [(by rw [(funext (fun q => ajV1045 27 q rfl) : V1045 27 = V712 27), (funext (fun q => ajV712 27 q rfl) : V712 27 = V 27)] : V1045 27 = V 27)]; exact ow.1) (show (nx (sN gs 3 1) 1).1 4 = 0 from ow.2.2.2.1) (by omega) (by omega))) w2112 w2114 w105 w172 w2115 rfl rfl hdV_yX12_code ⟨Nat.le_of_ble_eq_true rfl, Nat.le_of_ble_eq_true rfl⟩ rfl hl.1 rfl (Nat.le_of_ble_eq_true rfl) dX12_member_92 ⟨Nat.le_of_ble_eq_true rfl, Nat.le_of_ble_eq_true rfl⟩) hP hD hK hS hA (fun z1064 u1065 H locs w1066 hP hD hK hS => ?_)
                  obtain ⟨V1076, L1077⟩ := u1065
                  obtain ⟨hMV1076, ajV1076, axL1077, rgz1064, t1067, t1068, t1069, t1070, t1071, t1072, t1073, t1074, t1075⟩ := w1066
                  have alL1077 : agL [27, 28, 29, 30, 31, 32, 33, 34, 35, 36, 37, 38, 45, 46, 47] L L1077 := agL.tr alL axL1077 (by decide)
                  have hP : va_P D vwCl (mw ad kk ks.1 V1076 L1077) H := hP
                  have hD : va_D A (mw ad kk ks.1 V1076 L1077) := hD
                  have hMV1076 : rgd bM V1076 := hMV1076
                  have ajV1076 : agr [(0, 7), (0, 8), (0, 48), (0, 50)] [35, 36, 37, 38, 45, 46, 47] V1045 V1076 := ajV1076
                  have agV1076 : agr [(0, 7), (0, 8), (0, 48), (0, 50)] [27, 28, 29, 30, 31, 32, 33, 34, 35, 36, 37, 38, 45, 46, 47] V V1076 := agV1045.tr ajV1076 (by decide) (by decide)
                  have rgz1064 : 0 ≤ z1064.toInt ∧ z1064.toInt ≤ 20000 := rgz1064
                  have t1067 : Imp ((V1076 0 8).toInt = 0) ((V1076 0 48).toInt - (V1045 0 48).toInt ≤ 2 * ((V1076 0 7).toInt - (V1045 0 7).toInt) + 1) := t1067
                  have t1068 : (V1076 0 48).toInt ≤ 8060 := t1068
                  have t1069 : (V1045 0 48).toInt ≤ (V1076 0 48).toInt := t1069
                  have t1070 : z1064.toInt = (V1045 0 49).toInt + (V1045 0 48).toInt := t1070
                  have t1071 : RdM (gT) ((nx (sN gs 3 1) 1)) (fun k => Iexpr 0 :: k) (fun k => k) (V1076 0 8).toInt (fun s9 => RelM V1076 L1077 (bq) (gn) (gT) s9 (gl) ∧ keepS ((nx (sN gs 3 1) 1)) 1 s9) := t1071
                  have t1072 : RoV 35 (bq) V1045 V1076 := t1072
                  have t1073 : RoV 37 (bq) V1045 V1076 := t1073
                  have t1074 : RoL 36 20 (bq) L L1077 := t1074
                  have t1075 : RoL 38 20 (bq) L L1077 := t1075
                  have r1078 : 0 ≤ ((V1076 0 48)).toInt ∧ ((V1076 0 48)).toInt ≤ 10000 := hMV1076 0 48
                  have r1079 : 0 ≤ ((V1076 0 8)).toInt ∧ ((V1076 0 8)).toInt ≤ 70000 := hMV1076 0 8
                  have pq1080 : (V1045 0 49).toInt = ((V 0 49)).toInt := congrArg Int32.toInt ((ajV1045 0 49 rfl).trans (ajV712 0 49 rfl))
                  have r1081 : 0 ≤ ((V 0 49)).toInt ∧ ((V 0 49)).toInt ≤ 10000 := hMV 0 49
                  rcases t1071 with ⟨q1082, sx1083, h1084, rl1085, kp1086⟩ | ⟨q1082, h1084⟩
                  · skip
                    have hr1087 : ∀ k, Rc gT (Crun gs (Imember :: k)) (Crun sx1083 (Itake 59 :: Imember :: k)) := fun k => (hr1052 k).tr (h1084 (Itake 59 :: Imember :: k))
                    have fz1088 := RelM.rg rl1085
                    have ps1089 := (kp1086).1
                    refine va_iast (D := D) (i := p0) (x := z1064) hx hb hK hP hD hS 26 25 rfl rfl (i_in (a := p0.toInt) rfl (by first | omega | ((try (have i_t1067 := Imp.go t1067 (by omega))); omega))) dX12_member_95 (fun H locs hP hD hS => ?_)
                    obtain ⟨V1090, hV1090⟩ : ∃ z, z = up2 V1076 33 (Int32.toNatClampNeg p0) z1064 := ⟨_, rfl⟩
                    have hP : va_P D vwCl (mw ad kk ks.1 V1090 L1077) H := by rw [hV1090]; exact hP
                    have hD : va_D A (mw ad kk ks.1 V1090 L1077) := by rw [hV1090]; exact hD
                    have hMV1090 : rgd bM V1090 := hMV1076.put hV1090 (i_full _)
                    have agV1090 : agr [(0, 7), (0, 8), (0, 48), (0, 50)] [27, 28, 29, 30, 31, 32, 33, 34, 35, 36, 37, 38, 45, 46, 47] V V1090 := agV1076.up hV1090 rfl
                    refine lv_goto (tgt := 187) hx hb dX12_member_96 (by decide) ?_
                    refine lv_aload_n hx hb dX12_member_187 rfl (lv_at hl 0 rfl) ?_
                    refine lv_bipush (v := 59) hx hb dX12_member_188 (by decide) ?_
                    have rl1091 : RelM V1090 L1077 bq gn gT sx1083 gl := RelM.ag rl1085 (show agr [] [33] V1076 V1090 from (agr.up agr.rf hV1090 rfl)) (by decide) (show agL [] L1077 L1077 from agL.rf) (by decide)
                    have r1092 : Int32.toInt 59 = 59 := by decide
                    refine gA_void (gA_runV (As := [.int 59]) (rest := []) (ci := 12) (q0 := 0) hx hb hml hown hg hP hD hK hS hA hnw hgk (s_takeSignA l D ks H.size ad kk V1090 L1077 59 (bq) (gn) (gT) (sx1083) (gl) hMV1090 rl1091 (sg_yes (j := 59) (by decide) (by decide) (by decide))) w2075 w2077 w96 w172 w2078 rfl rfl hdV_yX12_takeSign ⟨Nat.le_of_ble_eq_true rfl, Nat.le_of_ble_eq_true rfl⟩ rfl hl.1 rfl (Nat.le_of_ble_eq_true rfl) dX12_member_190 ⟨Nat.le_of_ble_eq_true rfl, Nat.le_of_ble_eq_true rfl⟩) hP hD hK hS hA (fun u1094 H locs w1095 hP hD hK hS => ?_)
                    obtain ⟨V1097, L1098⟩ := u1094
                    obtain ⟨hMV1097, ajV1097, axL1098, t1096⟩ := w1095
                    have axL1098 : L1077 = L1098 := Eq.symm axL1098
                    subst axL1098
                    have hP : va_P D vwCl (mw ad kk ks.1 V1097 L1077) H := hP
                    have hD : va_D A (mw ad kk ks.1 V1097 L1077) := hD
                    have hMV1097 : rgd bM V1097 := hMV1097
                    have ajV1097 : agr [(0, 7), (0, 8)] [] V1090 V1097 := ajV1097
                    have agV1097 : agr [(0, 7), (0, 8), (0, 48), (0, 50)] [27, 28, 29, 30, 31, 32, 33, 34, 35, 36, 37, 38, 45, 46, 47] V V1097 := agV1090.tr ajV1097 (by decide) (by decide)
                    have t1096 : ((V1097 0 8).toInt = 0 ∧ (gT).1 ((sx1083).1 0) = (Int32.toInt 59) ∧ RelM V1097 L1077 (bq) (gn) (gT) (nx (sx1083) 1) (gl)) ∨ (1 ≤ (V1097 0 8).toInt ∧ (gT).1 ((sx1083).1 0) ≠ (Int32.toInt 59) ∧ (V1097 0 8).toInt = 1 + 16 * (gT).2.2 ((sx1083).1 0)) := t1096
                    rcases t1096 with ⟨q1099, h1100, rl1101⟩ | ⟨q1099, h1100, rl1101⟩
                    · skip
                      have kd1102 : gT.1 (sx1083.1 0) = 59 := h1100.trans (by decide)
                      have hr1103 : ∀ k, Rc gT (Crun gs (Imember :: k)) (Crun (nx sx1083 1) (Imember :: k)) := fun k => Rc.go1 (hr1087 k) (tk_y kd1102)
                      have ps1104 : (nx sx1083 1).1 0 = sx1083.1 0 + 1 := rfl
                      have fz1105 := RelM.rg rl1101
                      have r1106 : 0 ≤ ((V1097 0 8)).toInt ∧ ((V1097 0 8)).toInt ≤ 70000 := hMV1097 0 8
                      have pq1107 : (V1097 0 48).toInt = ((V1076 0 48)).toInt := congrArg Int32.toInt ((ajV1097 0 48 rfl).trans (up2_o hV1090 (by decide)))
                      have ps1108 : gs.1 0 + 1 ≤ (nx gs 1).1 0 := ((keepS.n1 1)).1
                      have ps1109 : (nx (sN gs 3 1) 1).1 0 = (nx gs 1).1 0 := rfl
                      have ps1110 : (nx (sN gs 3 1) 1).1 0 + 1 ≤ sx1083.1 0 := (kp1086).1
                      have ps1111 : sx1083.1 0 + 1 ≤ (nx sx1083 1).1 0 := ((keepS.n1 1)).1
                      have cs1112 : 0 ≤ (V1097 33 gc).toInt := by have h9 : V1097 33 (Int32.toNatClampNeg p0) = z1064 := ((ajV1097 33 (Int32.toNatClampNeg p0) rfl).trans (up2_s hV1090)); rw [kgc] at h9; rw [h9]; omega
                      have rw1113 : RoV 35 bq V V1097 := (fun k hk => ((ajV1097 35 k rfl).trans ((up2_o hV1090 (by decide)).trans ((t1072 k hk).trans ((ajV1045 35 k rfl).trans ((ajV712 35 k rfl).trans rfl))))))
                      have rw1114 : RoV 37 bq V V1097 := (fun k hk => ((ajV1097 37 k rfl).trans ((up2_o hV1090 (by decide)).trans ((t1073 k hk).trans ((ajV1045 37 k rfl).trans ((ajV712 37 k rfl).trans rfl))))))
                      have rw1115 : RoL 36 20 bq L L1077 := (fun k hk => ((t1074 k hk).trans rfl))
                      have rw1116 : RoL 38 20 bq L L1077 := (fun k hk => ((t1075 k hk).trans rfl))
                      exact W.vret hx hb hr (fun t ht hW => ⟨⟨(V1097, L1077), rfl, ⟨hMV1097, agV1097, alL1077, (Imp.mk (fun hp => have hp : (V1097 0 8).toInt = 0 := hp; (show (V1097 0 48).toInt ≤ 2 * (V1097 0 7).toInt from by first | omega | ((try (have i_t1067 := Imp.go t1067 (by omega))); omega)))), (show (V1097 0 48).toInt ≤ 8120 from by first | omega | ((try (have i_t1067 := Imp.go t1067 (by omega))); omega)), (Or.inl ⟨W0 rl1101, (nx sx1083 1), hr1103, rl1101, (by omega), (OWm.cl ow (keepS.tr (keepS.tr (keepS.rf : keepS (nx (sN gs 3 1) 1) 0 (nx (sN gs 3 1) 1)) kp1086) (keepS.n1 1)) (Rc.ml (hr1103 [])) (show V1097 27 gc = V 27 gc from ((ajV1097 27 _ rfl).trans ((up2_o hV1090 (by decide)).trans ((ajV1076 27 _ rfl).trans ((ajV1045 27 _ rfl).trans ((ajV712 27 _ rfl).trans rfl)))))) (show V1097 32 gc = V 32 gc from ((ajV1097 32 _ rfl).trans ((up2_o hV1090 (by decide)).trans ((ajV1076 32 _ rfl).trans ((ajV1045 32 _ rfl).trans ((ajV712 32 _ rfl).trans rfl)))))) cs1112 (fun f hf => ((show agr [(0, 7), (0, 8), (0, 48), (0, 50)] [33, 35, 36, 37, 38, 45, 46, 47] V V1097 from (agr.tr (agr.up (agr.tr (agr.tr (agr.tr agr.rf ajV712 (by decide) (by decide)) ajV1045 (by decide) (by decide)) ajV1076 (by decide) (by decide)) hV1090 rfl) ajV1097 (by decide) (by decide))) 34 _ rfl))), ((((keepS.n1 1)).2.2.1 2 (by decide)).trans (((kp1086).2.2.1 2 (by decide)).trans ((rfl : (nx (sN gs 3 1) 1).2.1 2 = (nx gs 1).2.1 2).trans ((((keepS.n1 1)).2.2.1 2 (by decide)).trans (rfl : gs.2.1 2 = gs.2.1 2))))), ((congrArg (fun q9 => q9.1) ((keepS.n1 1)).2.2.2).trans ((congrArg (fun q9 => q9.1) (kp1086).2.2.2).trans ((rfl : (nx (sN gs 3 1) 1).2.2.1 = (nx gs 1).2.2.1).trans ((congrArg (fun q9 => q9.1) ((keepS.n1 1)).2.2.2).trans (rfl : gs.2.2.1 = gs.2.2.1)))))⟩), rw1113, rw1114, rw1115, rw1116⟩, by rw [ht]; exact hP, va_K.moved hW.alike hK, hD⟩, hS.F ht⟩) hS.2.2 dX12_member_193
                    · skip
                      have kd1117 : gT.1 (sx1083.1 0) ≠ 59 := fun h9 => h1100 (h9.trans (by decide))
                      have hb1118 : ∀ k, Rc gT (Crun gs (Imember :: k)) (Cbad (V1097 0 8).toInt) := fun k => Rc.go1 (hr1087 k) ((tk_n kd1117).trans (fl_eq rfl rl1101))
                      have r1119 : 0 ≤ ((V1097 0 8)).toInt ∧ ((V1097 0 8)).toInt ≤ 70000 := hMV1097 0 8
                      have pq1120 : (V1097 0 48).toInt = ((V1076 0 48)).toInt := congrArg Int32.toInt ((ajV1097 0 48 rfl).trans (up2_o hV1090 (by decide)))
                      have rw1121 : RoV 35 bq V V1097 := (fun k hk => ((ajV1097 35 k rfl).trans ((up2_o hV1090 (by decide)).trans ((t1072 k hk).trans ((ajV1045 35 k rfl).trans ((ajV712 35 k rfl).trans rfl))))))
                      have rw1122 : RoV 37 bq V V1097 := (fun k hk => ((ajV1097 37 k rfl).trans ((up2_o hV1090 (by decide)).trans ((t1073 k hk).trans ((ajV1045 37 k rfl).trans ((ajV712 37 k rfl).trans rfl))))))
                      have rw1123 : RoL 36 20 bq L L1077 := (fun k hk => ((t1074 k hk).trans rfl))
                      have rw1124 : RoL 38 20 bq L L1077 := (fun k hk => ((t1075 k hk).trans rfl))
                      exact W.vret hx hb hr (fun t ht hW => ⟨⟨(V1097, L1077), rfl, ⟨hMV1097, agV1097, alL1077, (Imp.mk (fun hp => have hp : (V1097 0 8).toInt = 0 := hp; (show (V1097 0 48).toInt ≤ 2 * (V1097 0 7).toInt from by first | omega | ((try (have i_t1067 := Imp.go t1067 (by omega))); omega)))), (show (V1097 0 48).toInt ≤ 8120 from by first | omega | ((try (have i_t1067 := Imp.go t1067 (by omega))); omega)), (Or.inr ⟨(show 1 ≤ (V1097 0 8).toInt from by omega), hb1118⟩), rw1121, rw1122, rw1123, rw1124⟩, by rw [ht]; exact hP, va_K.moved hW.alike hK, hD⟩, hS.F ht⟩) hS.2.2 dX12_member_193
                  · skip
                    have hb1125 : ∀ k, Rc gT (Crun gs (Imember :: k)) (Cbad (V1076 0 8).toInt) := fun k => (hr1052 k).tr (h1084 (Itake 59 :: Imember :: k))
                    refine va_iast (D := D) (i := p0) (x := z1064) hx hb hK hP hD hS 26 25 rfl rfl (i_in (a := p0.toInt) rfl (by first | omega | ((try (have i_t1067 := Imp.go t1067 (by omega))); omega))) dX12_member_95 (fun H locs hP hD hS => ?_)
                    obtain ⟨V1126, hV1126⟩ : ∃ z, z = up2 V1076 33 (Int32.toNatClampNeg p0) z1064 := ⟨_, rfl⟩
                    have hP : va_P D vwCl (mw ad kk ks.1 V1126 L1077) H := by rw [hV1126]; exact hP
                    have hD : va_D A (mw ad kk ks.1 V1126 L1077) := by rw [hV1126]; exact hD
                    have hMV1126 : rgd bM V1126 := hMV1076.put hV1126 (i_full _)
                    have agV1126 : agr [(0, 7), (0, 8), (0, 48), (0, 50)] [27, 28, 29, 30, 31, 32, 33, 34, 35, 36, 37, 38, 45, 46, 47] V V1126 := agV1076.up hV1126 rfl
                    refine lv_goto (tgt := 187) hx hb dX12_member_96 (by decide) ?_
                    refine lv_aload_n hx hb dX12_member_187 rfl (lv_at hl 0 rfl) ?_
                    refine lv_bipush (v := 59) hx hb dX12_member_188 (by decide) ?_
                    have r1127 : Int32.toInt 59 = 59 := by decide
                    have pq1128 : (V1126 0 8).toInt = ((V1076 0 8)).toInt := congrArg Int32.toInt (up2_o hV1126 (by decide))
                    refine gA_void (gA_runV (As := [.int 59]) (rest := []) (ci := 12) (q0 := 0) hx hb hml hown hg hP hD hK hS hA hnw hgk (s_takeSignB l D ks H.size ad kk V1126 L1077 59 hMV1126 (show 1 ≤ (V1126 0 8).toInt from by first | omega | ((try (have i_t1067 := Imp.go t1067 (by omega))); omega))) w2075 w2077 w96 w172 w2078 rfl rfl hdV_yX12_takeSign ⟨Nat.le_of_ble_eq_true rfl, Nat.le_of_ble_eq_true rfl⟩ rfl hl.1 rfl (Nat.le_of_ble_eq_true rfl) dX12_member_190 ⟨Nat.le_of_ble_eq_true rfl, Nat.le_of_ble_eq_true rfl⟩) hP hD hK hS hA (fun u1130 H locs w1131 hP hD hK hS => ?_)
                    obtain ⟨V1133, L1134⟩ := u1130
                    obtain ⟨hMV1133, ajV1133, axL1134, t1132⟩ := w1131
                    have axL1134 : L1077 = L1134 := Eq.symm axL1134
                    subst axL1134
                    have hP : va_P D vwCl (mw ad kk ks.1 V1133 L1077) H := hP
                    have hD : va_D A (mw ad kk ks.1 V1133 L1077) := hD
                    have hMV1133 : rgd bM V1133 := hMV1133
                    have ajV1133 : agr [(0, 7), (0, 8)] [] V1126 V1133 := ajV1133
                    have agV1133 : agr [(0, 7), (0, 8), (0, 48), (0, 50)] [27, 28, 29, 30, 31, 32, 33, 34, 35, 36, 37, 38, 45, 46, 47] V V1133 := agV1126.tr ajV1133 (by decide) (by decide)
                    have t1132 : (V1133 0 8).toInt = (V1126 0 8).toInt := t1132
                    have r1135 : 0 ≤ ((V1133 0 8)).toInt ∧ ((V1133 0 8)).toInt ≤ 70000 := hMV1133 0 8
                    have pq1136 : (V1133 0 48).toInt = ((V1076 0 48)).toInt := congrArg Int32.toInt ((ajV1133 0 48 rfl).trans (up2_o hV1126 (by decide)))
                    have rw1137 : RoV 35 bq V V1133 := (fun k hk => ((ajV1133 35 k rfl).trans ((up2_o hV1126 (by decide)).trans ((t1072 k hk).trans ((ajV1045 35 k rfl).trans ((ajV712 35 k rfl).trans rfl))))))
                    have rw1138 : RoV 37 bq V V1133 := (fun k hk => ((ajV1133 37 k rfl).trans ((up2_o hV1126 (by decide)).trans ((t1073 k hk).trans ((ajV1045 37 k rfl).trans ((ajV712 37 k rfl).trans rfl))))))
                    have rw1139 : RoL 36 20 bq L L1077 := (fun k hk => ((t1074 k hk).trans rfl))
                    have rw1140 : RoL 38 20 bq L L1077 := (fun k hk => ((t1075 k hk).trans rfl))
                    exact W.vret hx hb hr (fun t ht hW => ⟨⟨(V1133, L1077), rfl, ⟨hMV1133, agV1133, alL1077, (Imp.mk (fun hp => have hp : (V1133 0 8).toInt = 0 := hp; (show (V1133 0 48).toInt ≤ 2 * (V1133 0 7).toInt from by first | omega | ((try (have i_t1067 := Imp.go t1067 (by omega))); omega)))), (show (V1133 0 48).toInt ≤ 8120 from by first | omega | ((try (have i_t1067 := Imp.go t1067 (by omega))); omega)), (Or.inr ⟨(show 1 ≤ (V1133 0 8).toInt from by omega), (fun k => by rw [show (V1133 0 8).toInt = (V1076 0 8).toInt from by omega]; exact hb1125 k)⟩), rw1137, rw1138, rw1139, rw1140⟩, by rw [ht]; exact hP, va_K.moved hW.alike hK, hD⟩, hS.F ht⟩) hS.2.2 dX12_member_193
              · skip
                have kd1141 : gT.1 (gs.1 0) ≠ 141 := fun h9 => h1048 (h9.trans (by decide))
                have fz1142 := RelM.rg rl1049
                have pq1143 : (V1045 0 8).toInt = ((V 0 8)).toInt := congrArg Int32.toInt ((ajV1045 0 8 rfl).trans (ajV712 0 8 rfl))
                refine lv_if_eq (tgt := 99) hx hb dX12_member_83 (by decide) (fun c1144 => ?_) (fun c1144 => ?_)
                · skip
                  have f1145 : z1041.toInt = 0 := b_eq rfl (by decide) c1144
                  refine lv_aload_n hx hb dX12_member_99 rfl (lv_at hl 0 rfl) ?_
                  refine lv_bipush (v := 14) hx hb dX12_member_100 (by decide) ?_
                  have r1146 : Int32.toInt 14 = 14 := by decide
                  refine gA_int (gA_runV (As := [.int 14]) (rest := []) (ci := 12) (q0 := 0) hx hb hml hown hg hP hD hK hS hA hnw hgk (s_hasWordA l D ks H.size ad kk V1045 L 14 (bq) (gn) (gT) (gs) (gl) hMV1045 (by decide) rl1049) w2051 w2053 w90 w172 w2054 rfl rfl hdV_yX12_hasWord ⟨Nat.le_of_ble_eq_true rfl, Nat.le_of_ble_eq_true rfl⟩ rfl hl.1 rfl (Nat.le_of_ble_eq_true rfl) dX12_member_102 ⟨Nat.le_of_ble_eq_true rfl, Nat.le_of_ble_eq_true rfl⟩) hP hD hK hS hA (fun z1147 u1148 H locs w1149 hP hD hK hS => ?_)
                  obtain ⟨V1151, L1152⟩ := u1148
                  obtain ⟨hMV1151, ajV1151, axL1152, rgz1147, t1150⟩ := w1149
                  have axL1152 : L = L1152 := Eq.symm axL1152
                  subst axL1152
                  have hP : va_P D vwCl (mw ad kk ks.1 V1151 L) H := hP
                  have hD : va_D A (mw ad kk ks.1 V1151 L) := hD
                  have hMV1151 : rgd bM V1151 := hMV1151
                  have ajV1151 : agr [(0, 7)] [] V1045 V1151 := ajV1151
                  have agV1151 : agr [(0, 7), (0, 8), (0, 48), (0, 50)] [27, 28, 29, 30, 31, 32, 33, 34, 35, 36, 37, 38, 45, 46, 47] V V1151 := agV1045.tr ajV1151 (by decide) (by decide)
                  have rgz1147 : 0 ≤ z1147.toInt ∧ z1147.toInt ≤ 1 := rgz1147
                  have t1150 : (z1147.toInt = 1 ∧ (gT).1 ((gs).1 0) = 128 + (Int32.toInt 14) ∧ RelM V1151 L (bq) (gn) (gT) (nx (gs) 1) (gl)) ∨ (z1147.toInt = 0 ∧ (gT).1 ((gs).1 0) ≠ 128 + (Int32.toInt 14) ∧ RelM V1151 L (bq) (gn) (gT) (gs) (gl)) := t1150
                  rcases t1150 with ⟨q1153, h1154, rl1155⟩ | ⟨q1153, h1154, rl1155⟩
                  · skip
                    have kd1156 : gT.1 (gs.1 0) = 142 := h1154.trans (by decide)
                    have hr1157 : ∀ k, Rc gT (Crun gs (Imember :: k)) (Crun gs (Imember :: k)) := fun k => Rc.rf
                    have hr1158 : ∀ k, Rc gT (Crun gs (Imember :: k)) (Crun (nx gs 1) (ImethN :: Iexpr 0 :: Itake 59 :: Imember :: k)) := fun k => Rc.go1 (hr1157 k) (mb_142 kd1156)
                    have ps1159 : (nx gs 1).1 0 = gs.1 0 + 1 := rfl
                    have fz1160 := RelM.rg rl1155
                    have pq1161 : (V1151 0 8).toInt = ((V 0 8)).toInt := congrArg Int32.toInt ((ajV1151 0 8 rfl).trans ((ajV1045 0 8 rfl).trans (ajV712 0 8 rfl)))
                    refine lv_if_eq (tgt := 182) hx hb dX12_member_105 (by decide) (fun c1162 => ?_) (fun c1162 => ?_)
                    · skip
                      have f1163 : z1147.toInt = 0 := b_eq rfl (by decide) c1162
                      exfalso; omega
                    · skip
                      have f1164 : z1147.toInt ≠ 0 := b_neq rfl (by decide) c1162
                      refine lv_aload_n hx hb dX12_member_108 rfl (lv_at hl 0 rfl) ?_
                      refine lv_aload_n hx hb dX12_member_109 rfl (lv_at hl 0 rfl) ?_
                      refine va_get (D := D) (ci := 12) (v := .ref (ad 36)) (C := RX12) (T := TX12) (N := 100) hx hb hg inX12 hown hK hP 0 rfl rfl 36 (by decide) (hg _ w1742) (fun _ h9 => h9) rfl dX12_member_110 ?_
                      refine lv_aload_n hx hb dX12_member_113 rfl (lv_at hl 0 rfl) ?_
                      refine va_get (D := D) (ci := 12) (v := .ref (ad 35)) (C := RX12) (T := TX12) (N := 100) hx hb hg inX12 hown hK hP 0 rfl rfl 35 (by decide) (hg _ w1741) (fun _ h9 => h9) rfl dX12_member_114 ?_
                      refine gA_int (gA_runV (As := [.ref (ad 36), .ref (ad 35)]) (rest := []) (ci := 12) (q0 := 0) hx hb hml hown hg hP hD hK hS hA hnw hgk (s_takeWordOf3 l D ks H.size ad kk V1151 L (bq) (gn) (gT) ((nx gs 1)) (gl) hMV1151 rl1155) w2100 w2102 w102 w172 w2103 rfl rfl hdV_yX12_takeWordOf ⟨Nat.le_of_ble_eq_true rfl, Nat.le_of_ble_eq_true rfl⟩ rfl hl.1 rfl (Nat.le_of_ble_eq_true rfl) dX12_member_117 ⟨Nat.le_of_ble_eq_true rfl, Nat.le_of_ble_eq_true rfl⟩) hP hD hK hS hA (fun z1165 u1166 H locs w1167 hP hD hK hS => ?_)
                      obtain ⟨V1173, L1174⟩ := u1166
                      obtain ⟨hMV1173, ajV1173, axL1174, rgz1165, t1168, t1169, t1170, t1171, t1172⟩ := w1167
                      have alL1174 : agL [27, 28, 29, 30, 31, 32, 33, 34, 35, 36, 37, 38, 45, 46, 47] L L1174 := agL.tr alL axL1174 (by decide)
                      have hP : va_P D vwCl (mw ad kk ks.1 V1173 L1174) H := hP
                      have hD : va_D A (mw ad kk ks.1 V1173 L1174) := hD
                      have hMV1173 : rgd bM V1173 := hMV1173
                      have ajV1173 : agr [(0, 7), (0, 8)] [35, 36, 37, 38] V1151 V1173 := ajV1173
                      have agV1173 : agr [(0, 7), (0, 8), (0, 48), (0, 50)] [27, 28, 29, 30, 31, 32, 33, 34, 35, 36, 37, 38, 45, 46, 47] V V1173 := agV1151.tr ajV1173 (by decide) (by decide)
                      have rgz1165 : (-1) ≤ z1165.toInt ∧ z1165.toInt ≤ 19 := rgz1165
                      have t1168 : KmS (mthW (gT) ((nx gs 1)) 3) (V1173 0 8).toInt (fun x9 => RelM V1173 L1174 (bq) (gn) (gT) x9.2 (gl) ∧ z1165.toInt = ((x9.1 : Nat) : Int) ∧ x9.1 < 20 ∧ keepS ((nx gs 1)) 1 x9.2 ∧ MTX (gT) ((nx gs 1)) 3 x9) := t1168
                      have t1169 : RoV 35 (bq) V1151 V1173 := t1169
                      have t1170 : RoV 37 (bq) V1151 V1173 := t1170
                      have t1171 : RoL 36 20 (bq) L L1174 := t1171
                      have t1172 : RoL 38 20 (bq) L L1174 := t1172
                      rcases t1168 with ⟨q1175, mx1176, h1177, rl1178, hf1179, hb1180, kp1181, mt1182⟩ | ⟨q1175, h1177⟩
                      · skip
                        have ps1183 := kp1181.1
                        have fz1184 := RelM.rg rl1178
                        have r1185 : 0 ≤ ((V1173 0 8)).toInt ∧ ((V1173 0 8)).toInt ≤ 70000 := hMV1173 0 8
                        refine lv_istore_n (lv' := [(2, .int z1165), (0, .ref (ad 0)), (1, .int p0)]) hx hb dX12_member_120 rfl hl (by decide) rfl (fun ls hl => ?_)
                        refine lv_aload_n hx hb dX12_member_121 rfl (lv_at hl 1 rfl) ?_
                        refine va_get (D := D) (ci := 12) (v := .int (V1173 0 8)) (C := RX12) (T := TX12) (N := 100) hx hb hg inX12 hown hK hP 0 rfl rfl 8 (by decide) (hg _ w1714) (fun _ h9 => h9) rfl dX12_member_122 ?_
                        refine lv_if_ne (tgt := 157) hx hb dX12_member_125 (by decide) (fun c1186 => ?_) (fun c1186 => ?_)
                        · skip
                          have f1187 : ((V1173 0 8)).toInt ≠ 0 := b_neq rfl (by decide) c1186
                          exfalso; omega
                        · skip
                          have f1188 : ((V1173 0 8)).toInt = 0 := b_eq rfl (by decide) c1186
                          refine lv_aload_n hx hb dX12_member_128 rfl (lv_at hl 1 rfl) ?_
                          refine va_get (D := D) (ci := 12) (v := .ref (ad 34)) (C := RX12) (T := TX12) (N := 100) hx hb hg inX12 hown hK hP 0 rfl rfl 34 (by decide) (hg _ w1740) (fun _ h9 => h9) rfl dX12_member_129 ?_
                          refine lv_bipush (v := 20) hx hb dX12_member_132 (by decide) ?_
                          refine lv_iload_n hx hb dX12_member_134 rfl (lv_at hl 2 rfl) ?_
                          refine lv_imul hx hb dX12_member_135 ?_
                          refine lv_topi (fun z1189 ez1189 => ?_)
                          have hz1189 : z1189.toInt = 20 * p0.toInt := i_mul ez1189 (by decide) rfl (by omega)
                          refine lv_iload_n hx hb dX12_member_136 rfl (lv_at hl 0 rfl) ?_
                          refine lv_iadd hx hb dX12_member_137 ?_
                          refine lv_topi (fun z1190 ez1190 => ?_)
                          have hz1190 : z1190.toInt = z1189.toInt + z1165.toInt := i_add ez1190 rfl rfl (by omega)
                          refine va_iald (D := D) (i := z1190) hx hb hK hP 27 26 rfl rfl (i_in (a := z1190.toInt) rfl (by omega)) dX12_member_138 ?_
                          refine g_top (v := (V 34 (Int32.toNatClampNeg z1190))) ((ajV1173 34 (Int32.toNatClampNeg z1190) rfl).trans ((ajV1151 34 (Int32.toNatClampNeg z1190) rfl).trans ((ajV1045 34 (Int32.toNatClampNeg z1190) rfl).trans (ajV712 34 (Int32.toNatClampNeg z1190) rfl)))) ?_
                          have kc1192 : Int32.toNatClampNeg z1190 = 20 * gc + mx1176.1 := by have h9 := i_clamp (x := z1190) rfl (by omega); omega
                          have ma1191 : (V 34 (Int32.toNatClampNeg z1190)).toInt = (V 34 (20 * gc + mx1176.1)).toInt := by rw [kc1192]
                          have ow5 := ow.2.2.2.2.1 mx1176.1 hb1180
                          have oS : (nx gs 1).2.2.2 = gs.2.2.2 := congrArg (fun q9 => q9.2) ((keepS.tr (keepS.rf : keepS gs 0 gs) (keepS.n1 1))).2.2.2
                          have oL : (nx gs 1).2.1 3 = gs.2.1 3 := rfl
                          refine lv_if_lt (tgt := 157) hx hb dX12_member_139 (by decide) (fun c1193 => ?_) (fun c1193 => ?_)
                          · skip
                            have f1194 : ((V 34 (Int32.toNatClampNeg z1190))).toInt < 0 := b_lt rfl (by decide) c1193
                            refine lv_aload_n hx hb dX12_member_157 rfl (lv_at hl 1 rfl) ?_
                            refine va_get (D := D) (ci := 12) (v := .int (V1173 0 8)) (C := RX12) (T := TX12) (N := 100) hx hb hg inX12 hown hK hP 0 rfl rfl 8 (by decide) (hg _ w1714) (fun _ h9 => h9) rfl dX12_member_158 ?_
                            refine lv_if_ne (tgt := 179) hx hb dX12_member_161 (by decide) (fun c1195 => ?_) (fun c1195 => ?_)
                            · skip
                              have f1196 : ((V1173 0 8)).toInt ≠ 0 := b_neq rfl (by decide) c1195
                              exfalso; omega
                            · skip
                              have f1197 : ((V1173 0 8)).toInt = 0 := b_eq rfl (by decide) c1195
                              have nt9 : mx1176.1 ∉ (nx gs 1).2.2.2 := by rw [oS]; exact fun q9 => absurd (ow5.mpr q9) (by omega)
                              have hr1198 : ∀ k, Rc gT (Crun gs (Imember :: k)) (Crun (sT mx1176.2 (mx1176.1 :: (nx gs 1).2.2.2)) (Iexpr 0 :: Itake 59 :: Imember :: k)) := fun k => Rc.go1 (hr1158 k) (mn_y (MTX.new mt1182 h1177 nt9))
                              have ps1199 : (sT mx1176.2 (mx1176.1 :: (nx gs 1).2.2.2)).1 0 = mx1176.2.1 0 := rfl
                              have rl1200 : RelM V1173 L1174 bq gn gT (sT mx1176.2 (mx1176.1 :: (nx gs 1).2.2.2)) gl := RelM.tl rl1178
                              refine lv_aload_n hx hb dX12_member_164 rfl (lv_at hl 1 rfl) ?_
                              refine va_get (D := D) (ci := 12) (v := .ref (ad 34)) (C := RX12) (T := TX12) (N := 100) hx hb hg inX12 hown hK hP 0 rfl rfl 34 (by decide) (hg _ w1740) (fun _ h9 => h9) rfl dX12_member_165 ?_
                              refine lv_bipush (v := 20) hx hb dX12_member_168 (by decide) ?_
                              refine lv_iload_n hx hb dX12_member_170 rfl (lv_at hl 2 rfl) ?_
                              refine lv_imul hx hb dX12_member_171 ?_
                              refine lv_topi (fun z1201 ez1201 => ?_)
                              have hz1201 : z1201.toInt = 20 * p0.toInt := i_mul ez1201 (by decide) rfl (by omega)
                              refine lv_iload_n hx hb dX12_member_172 rfl (lv_at hl 0 rfl) ?_
                              refine lv_iadd hx hb dX12_member_173 ?_
                              refine lv_topi (fun z1202 ez1202 => ?_)
                              have hz1202 : z1202.toInt = z1201.toInt + z1165.toInt := i_add ez1202 rfl rfl (by omega)
                              refine lv_aload_n hx hb dX12_member_174 rfl (lv_at hl 1 rfl) ?_
                              have pq1203 : (V1173 0 48).toInt = ((V 0 48)).toInt := congrArg Int32.toInt ((ajV1173 0 48 rfl).trans ((ajV1151 0 48 rfl).trans ((ajV1045 0 48 rfl).trans (ajV712 0 48 rfl))))
                              have pq1204 : (V1173 0 51).toInt = ((V 0 51)).toInt := congrArg Int32.toInt ((ajV1173 0 51 rfl).trans ((ajV1151 0 51 rfl).trans ((ajV1045 0 51 rfl).trans (ajV712 0 51 rfl))))
                              have pq1205 : (V1173 0 52).toInt = ((V 0 52)).toInt := congrArg Int32.toInt ((ajV1173 0 52 rfl).trans ((ajV1151 0 52 rfl).trans ((ajV1045 0 52 rfl).trans (ajV712 0 52 rfl))))
                              refine gA_int (gA_runV (As := []) (rest := [.int z1202, .ref (ad 34)]) (ci := 12) (q0 := 0) hx hb hml hown hg hP hD hK hS hA hnw hgk (s_codeA l D ks H.size ad kk V1173 L1174 (bq) (gn) (gT) ((sT mx1176.2 (mx1176.1 :: (nx gs 1).2.2.2))) (gl) hMV1173 rl1200 (show (V1173 0 48).toInt ≤ 2 * (V1173 0 7).toInt from by omega) (EM.o2 (o := gc) (show (V1173 27 gc).toInt = ((mx1176.2.1 1 : Nat) : Int) from by rw [(by rw [(funext (fun q => ajV1173 27 q rfl) : V1173 27 = V1151 27), (funext (fun q => ajV1151 27 q rfl) : V1151 27 = V1045 27), (funext (fun q => ajV1045 27 q rfl) : V1045 27 = V712 27), (funext (fun q => ajV712 27 q rfl) : V712 27 = V 27)] : V1173 27 = V 27)]; exact (by rw [((keepS.tr (keepS.tr (keepS.rf : keepS gs 0 gs) (keepS.n1 1)) kp1181)).2.1 1 (by decide)]; exact ow.1)) (show mx1176.2.1 4 = 0 from (by rw [((keepS.tr (keepS.tr (keepS.rf : keepS gs 0 gs) (keepS.n1 1)) kp1181)).2.1 4 (by decide)]; exact ow.2.2.2.1)) (by omega) (by omega))) w2112 w2114 w105 w172 w2115 rfl rfl hdV_yX12_code ⟨Nat.le_of_ble_eq_true rfl, Nat.le_of_ble_eq_true rfl⟩ rfl hl.1 rfl (Nat.le_of_ble_eq_true rfl) dX12_member_175 ⟨Nat.le_of_ble_eq_true rfl, Nat.le_of_ble_eq_true rfl⟩) hP hD hK hS hA (fun z1206 u1207 H locs w1208 hP hD hK hS => ?_)
                              obtain ⟨V1218, L1219⟩ := u1207
                              obtain ⟨hMV1218, ajV1218, axL1219, rgz1206, t1209, t1210, t1211, t1212, t1213, t1214, t1215, t1216, t1217⟩ := w1208
                              have alL1219 : agL [27, 28, 29, 30, 31, 32, 33, 34, 35, 36, 37, 38, 45, 46, 47] L L1219 := agL.tr alL1174 axL1219 (by decide)
                              have hP : va_P D vwCl (mw ad kk ks.1 V1218 L1219) H := hP
                              have hD : va_D A (mw ad kk ks.1 V1218 L1219) := hD
                              have hMV1218 : rgd bM V1218 := hMV1218
                              have ajV1218 : agr [(0, 7), (0, 8), (0, 48), (0, 50)] [35, 36, 37, 38, 45, 46, 47] V1173 V1218 := ajV1218
                              have agV1218 : agr [(0, 7), (0, 8), (0, 48), (0, 50)] [27, 28, 29, 30, 31, 32, 33, 34, 35, 36, 37, 38, 45, 46, 47] V V1218 := agV1173.tr ajV1218 (by decide) (by decide)
                              have rgz1206 : 0 ≤ z1206.toInt ∧ z1206.toInt ≤ 20000 := rgz1206
                              have t1209 : Imp ((V1218 0 8).toInt = 0) ((V1218 0 48).toInt - (V1173 0 48).toInt ≤ 2 * ((V1218 0 7).toInt - (V1173 0 7).toInt) + 1) := t1209
                              have t1210 : (V1218 0 48).toInt ≤ 8060 := t1210
                              have t1211 : (V1173 0 48).toInt ≤ (V1218 0 48).toInt := t1211
                              have t1212 : z1206.toInt = (V1173 0 49).toInt + (V1173 0 48).toInt := t1212
                              have t1213 : RdM (gT) ((sT mx1176.2 (mx1176.1 :: (nx gs 1).2.2.2))) (fun k => Iexpr 0 :: k) (fun k => k) (V1218 0 8).toInt (fun s9 => RelM V1218 L1219 (bq) (gn) (gT) s9 (gl) ∧ keepS ((sT mx1176.2 (mx1176.1 :: (nx gs 1).2.2.2))) 1 s9) := t1213
                              have t1214 : RoV 35 (bq) V1173 V1218 := t1214
                              have t1215 : RoV 37 (bq) V1173 V1218 := t1215
                              have t1216 : RoL 36 20 (bq) L1174 L1219 := t1216
                              have t1217 : RoL 38 20 (bq) L1174 L1219 := t1217
                              have r1220 : 0 ≤ ((V1218 0 48)).toInt ∧ ((V1218 0 48)).toInt ≤ 10000 := hMV1218 0 48
                              have r1221 : 0 ≤ ((V1218 0 8)).toInt ∧ ((V1218 0 8)).toInt ≤ 70000 := hMV1218 0 8
                              have pq1222 : (V1173 0 49).toInt = ((V 0 49)).toInt := congrArg Int32.toInt ((ajV1173 0 49 rfl).trans ((ajV1151 0 49 rfl).trans ((ajV1045 0 49 rfl).trans (ajV712 0 49 rfl))))
                              have r1223 : 0 ≤ ((V 0 49)).toInt ∧ ((V 0 49)).toInt ≤ 10000 := hMV 0 49
                              rcases t1213 with ⟨q1224, sx1225, h1226, rl1227, kp1228⟩ | ⟨q1224, h1226⟩
                              · skip
                                have hr1229 : ∀ k, Rc gT (Crun gs (Imember :: k)) (Crun sx1225 (Itake 59 :: Imember :: k)) := fun k => (hr1198 k).tr (h1226 (Itake 59 :: Imember :: k))
                                have fz1230 := RelM.rg rl1227
                                have ps1231 := (kp1228).1
                                refine va_iast (D := D) (i := z1202) (x := z1206) hx hb hK hP hD hS 27 26 rfl rfl (i_in (a := z1202.toInt) rfl (by first | omega | ((try (have i_t1209 := Imp.go t1209 (by omega))); omega))) dX12_member_178 (fun H locs hP hD hS => ?_)
                                obtain ⟨V1232, hV1232⟩ : ∃ z, z = up2 V1218 34 (Int32.toNatClampNeg z1202) z1206 := ⟨_, rfl⟩
                                have hP : va_P D vwCl (mw ad kk ks.1 V1232 L1219) H := by rw [hV1232]; exact hP
                                have hD : va_D A (mw ad kk ks.1 V1232 L1219) := by rw [hV1232]; exact hD
                                have hMV1232 : rgd bM V1232 := hMV1218.put hV1232 (i_full _)
                                have agV1232 : agr [(0, 7), (0, 8), (0, 48), (0, 50)] [27, 28, 29, 30, 31, 32, 33, 34, 35, 36, 37, 38, 45, 46, 47] V V1232 := agV1218.up hV1232 rfl
                                refine lv_goto (tgt := 187) hx hb dX12_member_179 (by decide) ?_
                                refine lv_aload_n hx hb dX12_member_187 rfl (lv_at hl 1 rfl) ?_
                                refine lv_bipush (v := 59) hx hb dX12_member_188 (by decide) ?_
                                have rl1233 : RelM V1232 L1219 bq gn gT sx1225 gl := RelM.ag rl1227 (show agr [] [34] V1218 V1232 from (agr.up agr.rf hV1232 rfl)) (by decide) (show agL [] L1219 L1219 from agL.rf) (by decide)
                                have r1234 : Int32.toInt 59 = 59 := by decide
                                refine gA_void (gA_runV (As := [.int 59]) (rest := []) (ci := 12) (q0 := 0) hx hb hml hown hg hP hD hK hS hA hnw hgk (s_takeSignA l D ks H.size ad kk V1232 L1219 59 (bq) (gn) (gT) (sx1225) (gl) hMV1232 rl1233 (sg_yes (j := 59) (by decide) (by decide) (by decide))) w2075 w2077 w96 w172 w2078 rfl rfl hdV_yX12_takeSign ⟨Nat.le_of_ble_eq_true rfl, Nat.le_of_ble_eq_true rfl⟩ rfl hl.1 rfl (Nat.le_of_ble_eq_true rfl) dX12_member_190 ⟨Nat.le_of_ble_eq_true rfl, Nat.le_of_ble_eq_true rfl⟩) hP hD hK hS hA (fun u1236 H locs w1237 hP hD hK hS => ?_)
                                obtain ⟨V1239, L1240⟩ := u1236
                                obtain ⟨hMV1239, ajV1239, axL1240, t1238⟩ := w1237
                                have axL1240 : L1219 = L1240 := Eq.symm axL1240
                                subst axL1240
                                have hP : va_P D vwCl (mw ad kk ks.1 V1239 L1219) H := hP
                                have hD : va_D A (mw ad kk ks.1 V1239 L1219) := hD
                                have hMV1239 : rgd bM V1239 := hMV1239
                                have ajV1239 : agr [(0, 7), (0, 8)] [] V1232 V1239 := ajV1239
                                have agV1239 : agr [(0, 7), (0, 8), (0, 48), (0, 50)] [27, 28, 29, 30, 31, 32, 33, 34, 35, 36, 37, 38, 45, 46, 47] V V1239 := agV1232.tr ajV1239 (by decide) (by decide)
                                have t1238 : ((V1239 0 8).toInt = 0 ∧ (gT).1 ((sx1225).1 0) = (Int32.toInt 59) ∧ RelM V1239 L1219 (bq) (gn) (gT) (nx (sx1225) 1) (gl)) ∨ (1 ≤ (V1239 0 8).toInt ∧ (gT).1 ((sx1225).1 0) ≠ (Int32.toInt 59) ∧ (V1239 0 8).toInt = 1 + 16 * (gT).2.2 ((sx1225).1 0)) := t1238
                                rcases t1238 with ⟨q1241, h1242, rl1243⟩ | ⟨q1241, h1242, rl1243⟩
                                · skip
                                  have kd1244 : gT.1 (sx1225.1 0) = 59 := h1242.trans (by decide)
                                  have hr1245 : ∀ k, Rc gT (Crun gs (Imember :: k)) (Crun (nx sx1225 1) (Imember :: k)) := fun k => Rc.go1 (hr1229 k) (tk_y kd1244)
                                  have ps1246 : (nx sx1225 1).1 0 = sx1225.1 0 + 1 := rfl
                                  have fz1247 := RelM.rg rl1243
                                  have r1248 : 0 ≤ ((V1239 0 8)).toInt ∧ ((V1239 0 8)).toInt ≤ 70000 := hMV1239 0 8
                                  have pq1249 : (V1239 0 48).toInt = ((V1218 0 48)).toInt := congrArg Int32.toInt ((ajV1239 0 48 rfl).trans (up2_o hV1232 (by decide)))
                                  have ps1250 : gs.1 0 + 1 ≤ (nx gs 1).1 0 := ((keepS.n1 1)).1
                                  have ps1251 : (nx gs 1).1 0 + 1 ≤ mx1176.2.1 0 := (kp1181).1
                                  have ps1252 : (sT mx1176.2 (mx1176.1 :: (nx gs 1).2.2.2)).1 0 = mx1176.2.1 0 := rfl
                                  have ps1253 : (sT mx1176.2 (mx1176.1 :: (nx gs 1).2.2.2)).1 0 + 1 ≤ sx1225.1 0 := (kp1228).1
                                  have ps1254 : sx1225.1 0 + 1 ≤ (nx sx1225 1).1 0 := ((keepS.n1 1)).1
                                  have k34 : (Int32.toNatClampNeg z1202) = 20 * gc + mx1176.1 := by have h9 := i_clamp (x := z1202) rfl (by omega); omega
                                  have cs1255 : 0 ≤ (V1239 34 (20 * gc + mx1176.1)).toInt := by have h9 : V1239 34 (Int32.toNatClampNeg z1202) = z1206 := ((ajV1239 34 (Int32.toNatClampNeg z1202) rfl).trans (up2_s hV1232)); rw [k34] at h9; rw [h9]; omega
                                  have rw1256 : RoV 35 bq V V1239 := (fun k hk => ((ajV1239 35 k rfl).trans ((up2_o hV1232 (by decide)).trans ((t1214 k hk).trans ((t1169 k hk).trans ((ajV1151 35 k rfl).trans ((ajV1045 35 k rfl).trans ((ajV712 35 k rfl).trans rfl))))))))
                                  have rw1257 : RoV 37 bq V V1239 := (fun k hk => ((ajV1239 37 k rfl).trans ((up2_o hV1232 (by decide)).trans ((t1215 k hk).trans ((t1170 k hk).trans ((ajV1151 37 k rfl).trans ((ajV1045 37 k rfl).trans ((ajV712 37 k rfl).trans rfl))))))))
                                  have rw1258 : RoL 36 20 bq L L1219 := (fun k hk => ((t1216 k hk).trans ((t1171 k hk).trans rfl)))
                                  have rw1259 : RoL 38 20 bq L L1219 := (fun k hk => ((t1217 k hk).trans ((t1172 k hk).trans rfl)))
                                  exact W.vret hx hb hr (fun t ht hW => ⟨⟨(V1239, L1219), rfl, ⟨hMV1239, agV1239, alL1219, (Imp.mk (fun hp => have hp : (V1239 0 8).toInt = 0 := hp; (show (V1239 0 48).toInt ≤ 2 * (V1239 0 7).toInt from by first | omega | ((try (have i_t1209 := Imp.go t1209 (by omega))); omega)))), (show (V1239 0 48).toInt ≤ 8120 from by first | omega | ((try (have i_t1209 := Imp.go t1209 (by omega))); omega)), (Or.inl ⟨W0 rl1243, (nx sx1225 1), hr1245, rl1243, (by omega), (OWm.mt (m := 1) ow (keepS.le (keepS.tr (keepS.rf : keepS gs 0 gs) (keepS.n1 1)) (by decide)) (Nat.le_refl _) kp1181 (MTX.le mt1182).1 (MTX.le mt1182).2 (keepS.le (keepS.tr (keepS.tr (keepS.rf : keepS (sT mx1176.2 (mx1176.1 :: (nx gs 1).2.2.2)) 0 (sT mx1176.2 (mx1176.1 :: (nx gs 1).2.2.2))) kp1228) (keepS.n1 1)) (by decide)) (show (mx1176.2.2.1 3).length ≤ ((nx sx1225 1).2.1 3).length from by have h9 := Rc.ml (h1226 []); exact h9) (show V1239 27 gc = V 27 gc from ((ajV1239 27 _ rfl).trans ((up2_o hV1232 (by decide)).trans ((ajV1218 27 _ rfl).trans ((ajV1173 27 _ rfl).trans ((ajV1151 27 _ rfl).trans ((ajV1045 27 _ rfl).trans ((ajV712 27 _ rfl).trans rfl)))))))) (show V1239 32 gc = V 32 gc from ((ajV1239 32 _ rfl).trans ((up2_o hV1232 (by decide)).trans ((ajV1218 32 _ rfl).trans ((ajV1173 32 _ rfl).trans ((ajV1151 32 _ rfl).trans ((ajV1045 32 _ rfl).trans ((ajV712 32 _ rfl).trans rfl)))))))) (show V1239 33 gc = V 33 gc from ((ajV1239 33 _ rfl).trans ((up2_o hV1232 (by decide)).trans ((ajV1218 33 _ rfl).trans ((ajV1173 33 _ rfl).trans ((ajV1151 33 _ rfl).trans ((ajV1045 33 _ rfl).trans ((ajV712 33 _ rfl).trans rfl)))))))) cs1255 (fun f hf hne => ((ajV1239 34 _ rfl).trans ((up2_k hV1232 (by omega)).trans ((ajV1218 34 _ rfl).trans ((ajV1173 34 _ rfl).trans ((ajV1151 34 _ rfl).trans ((ajV1045 34 _ rfl).trans ((ajV712 34 _ rfl).trans rfl))))))))), ((((keepS.n1 1)).2.2.1 2 (by decide)).trans (((kp1228).2.2.1 2 (by decide)).trans ((rfl : (sT mx1176.2 (mx1176.1 :: (nx gs 1).2.2.2)).2.1 2 = mx1176.2.2.1 2).trans (((kp1181).2.2.1 2 (by decide)).trans ((((keepS.n1 1)).2.2.1 2 (by decide)).trans (rfl : gs.2.1 2 = gs.2.1 2)))))), ((congrArg (fun q9 => q9.1) ((keepS.n1 1)).2.2.2).trans ((congrArg (fun q9 => q9.1) (kp1228).2.2.2).trans ((rfl : (sT mx1176.2 (mx1176.1 :: (nx gs 1).2.2.2)).2.2.1 = mx1176.2.2.2.1).trans ((congrArg (fun q9 => q9.1) (kp1181).2.2.2).trans ((congrArg (fun q9 => q9.1) ((keepS.n1 1)).2.2.2).trans (rfl : gs.2.2.1 = gs.2.2.1))))))⟩), rw1256, rw1257, rw1258, rw1259⟩, by rw [ht]; exact hP, va_K.moved hW.alike hK, hD⟩, hS.F ht⟩) hS.2.2 dX12_member_193
                                · skip
                                  have kd1260 : gT.1 (sx1225.1 0) ≠ 59 := fun h9 => h1242 (h9.trans (by decide))
                                  have hb1261 : ∀ k, Rc gT (Crun gs (Imember :: k)) (Cbad (V1239 0 8).toInt) := fun k => Rc.go1 (hr1229 k) ((tk_n kd1260).trans (fl_eq rfl rl1243))
                                  have r1262 : 0 ≤ ((V1239 0 8)).toInt ∧ ((V1239 0 8)).toInt ≤ 70000 := hMV1239 0 8
                                  have pq1263 : (V1239 0 48).toInt = ((V1218 0 48)).toInt := congrArg Int32.toInt ((ajV1239 0 48 rfl).trans (up2_o hV1232 (by decide)))
                                  have rw1264 : RoV 35 bq V V1239 := (fun k hk => ((ajV1239 35 k rfl).trans ((up2_o hV1232 (by decide)).trans ((t1214 k hk).trans ((t1169 k hk).trans ((ajV1151 35 k rfl).trans ((ajV1045 35 k rfl).trans ((ajV712 35 k rfl).trans rfl))))))))
                                  have rw1265 : RoV 37 bq V V1239 := (fun k hk => ((ajV1239 37 k rfl).trans ((up2_o hV1232 (by decide)).trans ((t1215 k hk).trans ((t1170 k hk).trans ((ajV1151 37 k rfl).trans ((ajV1045 37 k rfl).trans ((ajV712 37 k rfl).trans rfl))))))))
                                  have rw1266 : RoL 36 20 bq L L1219 := (fun k hk => ((t1216 k hk).trans ((t1171 k hk).trans rfl)))
                                  have rw1267 : RoL 38 20 bq L L1219 := (fun k hk => ((t1217 k hk).trans ((t1172 k hk).trans rfl)))
                                  exact W.vret hx hb hr (fun t ht hW => ⟨⟨(V1239, L1219), rfl, ⟨hMV1239, agV1239, alL1219, (Imp.mk (fun hp => have hp : (V1239 0 8).toInt = 0 := hp; (show (V1239 0 48).toInt ≤ 2 * (V1239 0 7).toInt from by first | omega | ((try (have i_t1209 := Imp.go t1209 (by omega))); omega)))), (show (V1239 0 48).toInt ≤ 8120 from by first | omega | ((try (have i_t1209 := Imp.go t1209 (by omega))); omega)), (Or.inr ⟨(show 1 ≤ (V1239 0 8).toInt from by omega), hb1261⟩), rw1264, rw1265, rw1266, rw1267⟩, by rw [ht]; exact hP, va_K.moved hW.alike hK, hD⟩, hS.F ht⟩) hS.2.2 dX12_member_193
                              · skip
                                have hb1268 : ∀ k, Rc gT (Crun gs (Imember :: k)) (Cbad (V1218 0 8).toInt) := fun k => (hr1198 k).tr (h1226 (Itake 59 :: Imember :: k))
                                refine va_iast (D := D) (i := z1202) (x := z1206) hx hb hK hP hD hS 27 26 rfl rfl (i_in (a := z1202.toInt) rfl (by first | omega | ((try (have i_t1209 := Imp.go t1209 (by omega))); omega))) dX12_member_178 (fun H locs hP hD hS => ?_)
                                obtain ⟨V1269, hV1269⟩ : ∃ z, z = up2 V1218 34 (Int32.toNatClampNeg z1202) z1206 := ⟨_, rfl⟩
                                have hP : va_P D vwCl (mw ad kk ks.1 V1269 L1219) H := by rw [hV1269]; exact hP
                                have hD : va_D A (mw ad kk ks.1 V1269 L1219) := by rw [hV1269]; exact hD
                                have hMV1269 : rgd bM V1269 := hMV1218.put hV1269 (i_full _)
                                have agV1269 : agr [(0, 7), (0, 8), (0, 48), (0, 50)] [27, 28, 29, 30, 31, 32, 33, 34, 35, 36, 37, 38, 45, 46, 47] V V1269 := agV1218.up hV1269 rfl
                                refine lv_goto (tgt := 187) hx hb dX12_member_179 (by decide) ?_
                                refine lv_aload_n hx hb dX12_member_187 rfl (lv_at hl 1 rfl) ?_
                                refine lv_bipush (v := 59) hx hb dX12_member_188 (by decide) ?_
                                have r1270 : Int32.toInt 59 = 59 := by decide
                                have pq1271 : (V1269 0 8).toInt = ((V1218 0 8)).toInt := congrArg Int32.toInt (up2_o hV1269 (by decide))
                                refine gA_void (gA_runV (As := [.int 59]) (rest := []) (ci := 12) (q0 := 0) hx hb hml hown hg hP hD hK hS hA hnw hgk (s_takeSignB l D ks H.size ad kk V1269 L1219 59 hMV1269 (show 1 ≤ (V1269 0 8).toInt from by first | omega | ((try (have i_t1209 := Imp.go t1209 (by omega))); omega))) w2075 w2077 w96 w172 w2078 rfl rfl hdV_yX12_takeSign ⟨Nat.le_of_ble_eq_true rfl, Nat.le_of_ble_eq_true rfl⟩ rfl hl.1 rfl (Nat.le_of_ble_eq_true rfl) dX12_member_190 ⟨Nat.le_of_ble_eq_true rfl, Nat.le_of_ble_eq_true rfl⟩) hP hD hK hS hA (fun u1273 H locs w1274 hP hD hK hS => ?_)
                                obtain ⟨V1276, L1277⟩ := u1273
                                obtain ⟨hMV1276, ajV1276, axL1277, t1275⟩ := w1274
                                have axL1277 : L1219 = L1277 := Eq.symm axL1277
                                subst axL1277
                                have hP : va_P D vwCl (mw ad kk ks.1 V1276 L1219) H := hP
                                have hD : va_D A (mw ad kk ks.1 V1276 L1219) := hD
                                have hMV1276 : rgd bM V1276 := hMV1276
                                have ajV1276 : agr [(0, 7), (0, 8)] [] V1269 V1276 := ajV1276
                                have agV1276 : agr [(0, 7), (0, 8), (0, 48), (0, 50)] [27, 28, 29, 30, 31, 32, 33, 34, 35, 36, 37, 38, 45, 46, 47] V V1276 := agV1269.tr ajV1276 (by decide) (by decide)
                                have t1275 : (V1276 0 8).toInt = (V1269 0 8).toInt := t1275
                                have r1278 : 0 ≤ ((V1276 0 8)).toInt ∧ ((V1276 0 8)).toInt ≤ 70000 := hMV1276 0 8
                                have pq1279 : (V1276 0 48).toInt = ((V1218 0 48)).toInt := congrArg Int32.toInt ((ajV1276 0 48 rfl).trans (up2_o hV1269 (by decide)))
                                have rw1280 : RoV 35 bq V V1276 := (fun k hk => ((ajV1276 35 k rfl).trans ((up2_o hV1269 (by decide)).trans ((t1214 k hk).trans ((t1169 k hk).trans ((ajV1151 35 k rfl).trans ((ajV1045 35 k rfl).trans ((ajV712 35 k rfl).trans rfl))))))))
                                have rw1281 : RoV 37 bq V V1276 := (fun k hk => ((ajV1276 37 k rfl).trans ((up2_o hV1269 (by decide)).trans ((t1215 k hk).trans ((t1170 k hk).trans ((ajV1151 37 k rfl).trans ((ajV1045 37 k rfl).trans ((ajV712 37 k rfl).trans rfl))))))))
                                have rw1282 : RoL 36 20 bq L L1219 := (fun k hk => ((t1216 k hk).trans ((t1171 k hk).trans rfl)))
                                have rw1283 : RoL 38 20 bq L L1219 := (fun k hk => ((t1217 k hk).trans ((t1172 k hk).trans rfl)))
                                exact W.vret hx hb hr (fun t ht hW => ⟨⟨(V1276, L1219), rfl, ⟨hMV1276, agV1276, alL1219, (Imp.mk (fun hp => have hp : (V1276 0 8).toInt = 0 := hp; (show (V1276 0 48).toInt ≤ 2 * (V1276 0 7).toInt from by first | omega | ((try (have i_t1209 := Imp.go t1209 (by omega))); omega)))), (show (V1276 0 48).toInt ≤ 8120 from by first | omega | ((try (have i_t1209 := Imp.go t1209 (by omega))); omega)), (Or.inr ⟨(show 1 ≤ (V1276 0 8).toInt from by omega), (fun k => by rw [show (V1276 0 8).toInt = (V1218 0 8).toInt from by omega]; exact hb1268 k)⟩), rw1280, rw1281, rw1282, rw1283⟩, by rw [ht]; exact hP, va_K.moved hW.alike hK, hD⟩, hS.F ht⟩) hS.2.2 dX12_member_193
                          · skip
                            have f1284 : 0 ≤ ((V 34 (Int32.toNatClampNeg z1190))).toInt := b_nlt rfl (by decide) c1193
                            refine lv_aload_n hx hb dX12_member_142 rfl (lv_at hl 1 rfl) ?_
                            refine lv_dup hx hb dX12_member_143 rfl ?_
                            refine va_get (D := D) (ci := 12) (v := .int (V1173 0 7)) (C := RX12) (T := TX12) (N := 100) hx hb hg inX12 hown hK hP 0 rfl rfl 7 (by decide) (hg _ w1713) (fun _ h9 => h9) rfl dX12_member_144 ?_
                            refine lv_iconst (v := 1) hx hb dX12_member_147 (by decide) ?_
                            refine lv_isub hx hb dX12_member_148 ?_
                            refine lv_topi (fun z1285 ez1285 => ?_)
                            have hz1285 : z1285.toInt = ((V1173 0 7)).toInt - 1 := i_sub ez1285 rfl (by decide) (by omega)
                            refine va_put (D := D) (ci := 12) (v := .int z1285) (ty := tyX12 7) (C := RX12) (T := TX12) (N := 100) hx hb hg inX12 tyX12 tyX12_ok nmX12 hown hK hP hD hS 0 rfl rfl 7 (by decide) (hg _ w1713) (fun _ h9 => h9) rfl (tyX12_ok 7 (by decide)) rfl rfl (Nat.le_of_ble_eq_true rfl) dX12_member_149 (fun H locs hP hD hS => ?_)
                            obtain ⟨V1286, hV1286⟩ : ∃ z, z = up2 V1173 0 7 z1285 := ⟨_, rfl⟩
                            have hP : va_P D vwCl (mw ad kk ks.1 V1286 L1174) H := by rw [hV1286]; exact hP
                            have hD : va_D A (mw ad kk ks.1 V1286 L1174) := by rw [hV1286]; exact hD
                            have hMV1286 : rgd bM V1286 := hMV1173.put hV1286 (i_full _)
                            have agV1286 : agr [(0, 7), (0, 8), (0, 48), (0, 50)] [27, 28, 29, 30, 31, 32, 33, 34, 35, 36, 37, 38, 45, 46, 47] V V1286 := agV1173.up hV1286 rfl
                            have tx := MTX.told mt1182 (by rw [oS]; exact ow5.mp (by omega)) (by rw [oS, oL]; exact ow.2.2.2.2.2)
                            have rl1287 : RelM V1286 L1174 bq gn gT (nx gs 1) gl := RelM.v8 (by rw [← tx.2]; exact rl1178) hV1286 (by omega)
                            have fz1288 := RelM.rg rl1287
                            have pq1289 : (V1286 0 8).toInt = ((V1173 0 8)).toInt := congrArg Int32.toInt (up2_k hV1286 (by decide))
                            have pq1290 : (V1286 0 7).toInt = z1285.toInt := congrArg Int32.toInt (up2_s hV1286)
                            have mn3 : ∀ k, mst gT (Crun (nx gs 1) (ImethN :: k)) = fl gT (nx gs 1) 3 := fun k => mthN_3 (mth_k3 h1177) tx.1 _
                            refine lv_aload_n hx hb dX12_member_152 rfl (lv_at hl 1 rfl) ?_
                            refine lv_iconst (v := 3) hx hb dX12_member_153 (by decide) ?_
                            have r1291 : Int32.toInt 3 = 3 := by decide
                            refine gA_void (gA_runV (As := [.int 3]) (rest := []) (ci := 12) (q0 := 0) hx hb hml hown hg hP hD hK hS hA hnw hgk (s_wrongA l D ks H.size ad kk V1286 L1174 3 (bq) (gn) (gT) ((nx gs 1)) (gl) hMV1286 (by decide) rl1287) w2035 w2037 w86 w172 w2038 rfl rfl hdV_yX12_wrong ⟨Nat.le_of_ble_eq_true rfl, Nat.le_of_ble_eq_true rfl⟩ rfl hl.1 rfl (Nat.le_of_ble_eq_true rfl) dX12_member_154 ⟨Nat.le_of_ble_eq_true rfl, Nat.le_of_ble_eq_true rfl⟩) hP hD hK hS hA (fun u1293 H locs w1294 hP hD hK hS => ?_)
                            obtain ⟨V1297, L1298⟩ := u1293
                            obtain ⟨hMV1297, ajV1297, axL1298, t1295, t1296⟩ := w1294
                            have axL1298 : L1174 = L1298 := Eq.symm axL1298
                            subst axL1298
                            have hP : va_P D vwCl (mw ad kk ks.1 V1297 L1174) H := hP
                            have hD : va_D A (mw ad kk ks.1 V1297 L1174) := hD
                            have hMV1297 : rgd bM V1297 := hMV1297
                            have ajV1297 : agr [(0, 8)] [] V1286 V1297 := ajV1297
                            have agV1297 : agr [(0, 7), (0, 8), (0, 48), (0, 50)] [27, 28, 29, 30, 31, 32, 33, 34, 35, 36, 37, 38, 45, 46, 47] V V1297 := agV1286.tr ajV1297 (by decide) (by decide)
                            have t1295 : 1 ≤ (V1297 0 8).toInt := t1295
                            have t1296 : (V1297 0 8).toInt = (Int32.toInt 3) + 16 * (gT).2.2 (((nx gs 1)).1 0) := t1296
                            have r1299 : 0 ≤ ((V1297 0 8)).toInt ∧ ((V1297 0 8)).toInt ≤ 70000 := hMV1297 0 8
                            have hb1300 : ∀ k, Rc gT (Crun gs (Imember :: k)) (Cbad (V1297 0 8).toInt) := fun k => Rc.go1 (hr1158 k) ((mn3 _).trans (fl_eq rfl (show (V1297 0 8).toInt = 3 + 16 * gT.2.2 ((nx gs 1).1 0) from by omega)))
                            refine lv_aload_n hx hb dX12_member_157 rfl (lv_at hl 1 rfl) ?_
                            refine va_get (D := D) (ci := 12) (v := .int (V1297 0 8)) (C := RX12) (T := TX12) (N := 100) hx hb hg inX12 hown hK hP 0 rfl rfl 8 (by decide) (hg _ w1714) (fun _ h9 => h9) rfl dX12_member_158 ?_
                            refine lv_if_ne (tgt := 179) hx hb dX12_member_161 (by decide) (fun c1301 => ?_) (fun c1301 => ?_)
                            · skip
                              have f1302 : ((V1297 0 8)).toInt ≠ 0 := b_neq rfl (by decide) c1301
                              refine lv_goto (tgt := 187) hx hb dX12_member_179 (by decide) ?_
                              refine lv_aload_n hx hb dX12_member_187 rfl (lv_at hl 1 rfl) ?_
                              refine lv_bipush (v := 59) hx hb dX12_member_188 (by decide) ?_
                              have r1303 : Int32.toInt 59 = 59 := by decide
                              refine gA_void (gA_runV (As := [.int 59]) (rest := []) (ci := 12) (q0 := 0) hx hb hml hown hg hP hD hK hS hA hnw hgk (s_takeSignB l D ks H.size ad kk V1297 L1174 59 hMV1297 (show 1 ≤ (V1297 0 8).toInt from by omega)) w2075 w2077 w96 w172 w2078 rfl rfl hdV_yX12_takeSign ⟨Nat.le_of_ble_eq_true rfl, Nat.le_of_ble_eq_true rfl⟩ rfl hl.1 rfl (Nat.le_of_ble_eq_true rfl) dX12_member_190 ⟨Nat.le_of_ble_eq_true rfl, Nat.le_of_ble_eq_true rfl⟩) hP hD hK hS hA (fun u1305 H locs w1306 hP hD hK hS => ?_)
                              obtain ⟨V1308, L1309⟩ := u1305
                              obtain ⟨hMV1308, ajV1308, axL1309, t1307⟩ := w1306
                              have axL1309 : L1174 = L1309 := Eq.symm axL1309
                              subst axL1309
                              have hP : va_P D vwCl (mw ad kk ks.1 V1308 L1174) H := hP
                              have hD : va_D A (mw ad kk ks.1 V1308 L1174) := hD
                              have hMV1308 : rgd bM V1308 := hMV1308
                              have ajV1308 : agr [(0, 7), (0, 8)] [] V1297 V1308 := ajV1308
                              have agV1308 : agr [(0, 7), (0, 8), (0, 48), (0, 50)] [27, 28, 29, 30, 31, 32, 33, 34, 35, 36, 37, 38, 45, 46, 47] V V1308 := agV1297.tr ajV1308 (by decide) (by decide)
                              have t1307 : (V1308 0 8).toInt = (V1297 0 8).toInt := t1307
                              have r1310 : 0 ≤ ((V1308 0 8)).toInt ∧ ((V1308 0 8)).toInt ≤ 70000 := hMV1308 0 8
                              have pq1311 : (V1308 0 48).toInt = ((V 0 48)).toInt := congrArg Int32.toInt ((ajV1308 0 48 rfl).trans ((ajV1297 0 48 rfl).trans ((up2_k hV1286 (by decide)).trans ((ajV1173 0 48 rfl).trans ((ajV1151 0 48 rfl).trans ((ajV1045 0 48 rfl).trans (ajV712 0 48 rfl)))))))
                              have rw1312 : RoV 35 bq V V1308 := (fun k hk => ((ajV1308 35 k rfl).trans ((ajV1297 35 k rfl).trans ((up2_o hV1286 (by decide)).trans ((t1169 k hk).trans ((ajV1151 35 k rfl).trans ((ajV1045 35 k rfl).trans ((ajV712 35 k rfl).trans rfl))))))))
                              have rw1313 : RoV 37 bq V V1308 := (fun k hk => ((ajV1308 37 k rfl).trans ((ajV1297 37 k rfl).trans ((up2_o hV1286 (by decide)).trans ((t1170 k hk).trans ((ajV1151 37 k rfl).trans ((ajV1045 37 k rfl).trans ((ajV712 37 k rfl).trans rfl))))))))
                              have rw1314 : RoL 36 20 bq L L1174 := (fun k hk => ((t1171 k hk).trans rfl))
                              have rw1315 : RoL 38 20 bq L L1174 := (fun k hk => ((t1172 k hk).trans rfl))
                              exact W.vret hx hb hr (fun t ht hW => ⟨⟨(V1308, L1174), rfl, ⟨hMV1308, agV1308, alL1174, (Imp.mk (fun hp => have hp : (V1308 0 8).toInt = 0 := hp; (show (V1308 0 48).toInt ≤ 2 * (V1308 0 7).toInt from by omega))), (show (V1308 0 48).toInt ≤ 8120 from by omega), (Or.inr ⟨(show 1 ≤ (V1308 0 8).toInt from by omega), (fun k => by rw [show (V1308 0 8).toInt = (V1297 0 8).toInt from by omega]; exact hb1300 k)⟩), rw1312, rw1313, rw1314, rw1315⟩, by rw [ht]; exact hP, va_K.moved hW.alike hK, hD⟩, hS.F ht⟩) hS.2.2 dX12_member_193
                            · skip
                              have f1316 : ((V1297 0 8)).toInt = 0 := b_eq rfl (by decide) c1301
                              exfalso; omega
                      · skip
                        have hb1317 : ∀ k, Rc gT (Crun gs (Imember :: k)) (Cbad (V1173 0 8).toInt) := fun k => Rc.go1 (hr1158 k) (mn_b (Km_mthN h1177))
                        have r1318 : 0 ≤ ((V1173 0 8)).toInt ∧ ((V1173 0 8)).toInt ≤ 70000 := hMV1173 0 8
                        refine lv_istore_n (lv' := [(2, .int z1165), (0, .ref (ad 0)), (1, .int p0)]) hx hb dX12_member_120 rfl hl (by decide) rfl (fun ls hl => ?_)
                        refine lv_aload_n hx hb dX12_member_121 rfl (lv_at hl 1 rfl) ?_
                        refine va_get (D := D) (ci := 12) (v := .int (V1173 0 8)) (C := RX12) (T := TX12) (N := 100) hx hb hg inX12 hown hK hP 0 rfl rfl 8 (by decide) (hg _ w1714) (fun _ h9 => h9) rfl dX12_member_122 ?_
                        refine lv_if_ne (tgt := 157) hx hb dX12_member_125 (by decide) (fun c1319 => ?_) (fun c1319 => ?_)
                        · skip
                          have f1320 : ((V1173 0 8)).toInt ≠ 0 := b_neq rfl (by decide) c1319
                          refine lv_aload_n hx hb dX12_member_157 rfl (lv_at hl 1 rfl) ?_
                          refine va_get (D := D) (ci := 12) (v := .int (V1173 0 8)) (C := RX12) (T := TX12) (N := 100) hx hb hg inX12 hown hK hP 0 rfl rfl 8 (by decide) (hg _ w1714) (fun _ h9 => h9) rfl dX12_member_158 ?_
                          refine lv_if_ne (tgt := 179) hx hb dX12_member_161 (by decide) (fun c1321 => ?_) (fun c1321 => ?_)
                          · skip
                            have f1322 : ((V1173 0 8)).toInt ≠ 0 := b_neq rfl (by decide) c1321
                            refine lv_goto (tgt := 187) hx hb dX12_member_179 (by decide) ?_
                            refine lv_aload_n hx hb dX12_member_187 rfl (lv_at hl 1 rfl) ?_
                            refine lv_bipush (v := 59) hx hb dX12_member_188 (by decide) ?_
                            have r1323 : Int32.toInt 59 = 59 := by decide
                            refine gA_void (gA_runV (As := [.int 59]) (rest := []) (ci := 12) (q0 := 0) hx hb hml hown hg hP hD hK hS hA hnw hgk (s_takeSignB l D ks H.size ad kk V1173 L1174 59 hMV1173 (show 1 ≤ (V1173 0 8).toInt from by omega)) w2075 w2077 w96 w172 w2078 rfl rfl hdV_yX12_takeSign ⟨Nat.le_of_ble_eq_true rfl, Nat.le_of_ble_eq_true rfl⟩ rfl hl.1 rfl (Nat.le_of_ble_eq_true rfl) dX12_member_190 ⟨Nat.le_of_ble_eq_true rfl, Nat.le_of_ble_eq_true rfl⟩) hP hD hK hS hA (fun u1325 H locs w1326 hP hD hK hS => ?_)
                            obtain ⟨V1328, L1329⟩ := u1325
                            obtain ⟨hMV1328, ajV1328, axL1329, t1327⟩ := w1326
                            have axL1329 : L1174 = L1329 := Eq.symm axL1329
                            subst axL1329
                            have hP : va_P D vwCl (mw ad kk ks.1 V1328 L1174) H := hP
                            have hD : va_D A (mw ad kk ks.1 V1328 L1174) := hD
                            have hMV1328 : rgd bM V1328 := hMV1328
                            have ajV1328 : agr [(0, 7), (0, 8)] [] V1173 V1328 := ajV1328
                            have agV1328 : agr [(0, 7), (0, 8), (0, 48), (0, 50)] [27, 28, 29, 30, 31, 32, 33, 34, 35, 36, 37, 38, 45, 46, 47] V V1328 := agV1173.tr ajV1328 (by decide) (by decide)
                            have t1327 : (V1328 0 8).toInt = (V1173 0 8).toInt := t1327
                            have r1330 : 0 ≤ ((V1328 0 8)).toInt ∧ ((V1328 0 8)).toInt ≤ 70000 := hMV1328 0 8
                            have pq1331 : (V1328 0 48).toInt = ((V 0 48)).toInt := congrArg Int32.toInt ((ajV1328 0 48 rfl).trans ((ajV1173 0 48 rfl).trans ((ajV1151 0 48 rfl).trans ((ajV1045 0 48 rfl).trans (ajV712 0 48 rfl)))))
                            have rw1332 : RoV 35 bq V V1328 := (fun k hk => ((ajV1328 35 k rfl).trans ((t1169 k hk).trans ((ajV1151 35 k rfl).trans ((ajV1045 35 k rfl).trans ((ajV712 35 k rfl).trans rfl))))))
                            have rw1333 : RoV 37 bq V V1328 := (fun k hk => ((ajV1328 37 k rfl).trans ((t1170 k hk).trans ((ajV1151 37 k rfl).trans ((ajV1045 37 k rfl).trans ((ajV712 37 k rfl).trans rfl))))))
                            have rw1334 : RoL 36 20 bq L L1174 := (fun k hk => ((t1171 k hk).trans rfl))
                            have rw1335 : RoL 38 20 bq L L1174 := (fun k hk => ((t1172 k hk).trans rfl))
                            exact W.vret hx hb hr (fun t ht hW => ⟨⟨(V1328, L1174), rfl, ⟨hMV1328, agV1328, alL1174, (Imp.mk (fun hp => have hp : (V1328 0 8).toInt = 0 := hp; (show (V1328 0 48).toInt ≤ 2 * (V1328 0 7).toInt from by omega))), (show (V1328 0 48).toInt ≤ 8120 from by omega), (Or.inr ⟨(show 1 ≤ (V1328 0 8).toInt from by omega), (fun k => by rw [show (V1328 0 8).toInt = (V1173 0 8).toInt from by omega]; exact hb1317 k)⟩), rw1332, rw1333, rw1334, rw1335⟩, by rw [ht]; exact hP, va_K.moved hW.alike hK, hD⟩, hS.F ht⟩) hS.2.2 dX12_member_193
                          · skip
                            have f1336 : ((V1173 0 8)).toInt = 0 := b_eq rfl (by decide) c1321
                            exfalso; omega
                        · skip
                          have f1337 : ((V1173 0 8)).toInt = 0 := b_eq rfl (by decide) c1319
                          exfalso; omega
                  · skip
                    have kd1338 : gT.1 (gs.1 0) ≠ 142 := fun h9 => h1154 (h9.trans (by decide))
                    have fz1339 := RelM.rg rl1155
                    have pq1340 : (V1151 0 8).toInt = ((V 0 8)).toInt := congrArg Int32.toInt ((ajV1151 0 8 rfl).trans ((ajV1045 0 8 rfl).trans (ajV712 0 8 rfl)))
                    refine lv_if_eq (tgt := 182) hx hb dX12_member_105 (by decide) (fun c1341 => ?_) (fun c1341 => ?_)
                    · skip
                      have f1342 : z1147.toInt = 0 := b_eq rfl (by decide) c1341
                      refine lv_aload_n hx hb dX12_member_182 rfl (lv_at hl 0 rfl) ?_
                      refine lv_iconst (v := 1) hx hb dX12_member_183 (by decide) ?_
                      have r1343 : Int32.toInt 1 = 1 := by decide
                      refine gA_void (gA_runV (As := [.int 1]) (rest := []) (ci := 12) (q0 := 0) hx hb hml hown hg hP hD hK hS hA hnw hgk (s_wrongA l D ks H.size ad kk V1151 L 1 (bq) (gn) (gT) (gs) (gl) hMV1151 (by decide) rl1155) w2035 w2037 w86 w172 w2038 rfl rfl hdV_yX12_wrong ⟨Nat.le_of_ble_eq_true rfl, Nat.le_of_ble_eq_true rfl⟩ rfl hl.1 rfl (Nat.le_of_ble_eq_true rfl) dX12_member_184 ⟨Nat.le_of_ble_eq_true rfl, Nat.le_of_ble_eq_true rfl⟩) hP hD hK hS hA (fun u1345 H locs w1346 hP hD hK hS => ?_)
                      obtain ⟨V1349, L1350⟩ := u1345
                      obtain ⟨hMV1349, ajV1349, axL1350, t1347, t1348⟩ := w1346
                      have axL1350 : L = L1350 := Eq.symm axL1350
                      subst axL1350
                      have hP : va_P D vwCl (mw ad kk ks.1 V1349 L) H := hP
                      have hD : va_D A (mw ad kk ks.1 V1349 L) := hD
                      have hMV1349 : rgd bM V1349 := hMV1349
                      have ajV1349 : agr [(0, 8)] [] V1151 V1349 := ajV1349
                      have agV1349 : agr [(0, 7), (0, 8), (0, 48), (0, 50)] [27, 28, 29, 30, 31, 32, 33, 34, 35, 36, 37, 38, 45, 46, 47] V V1349 := agV1151.tr ajV1349 (by decide) (by decide)
                      have t1347 : 1 ≤ (V1349 0 8).toInt := t1347
                      have t1348 : (V1349 0 8).toInt = (Int32.toInt 1) + 16 * (gT).2.2 ((gs).1 0) := t1348
                      have r1351 : 0 ≤ ((V1349 0 8)).toInt ∧ ((V1349 0 8)).toInt ≤ 70000 := hMV1349 0 8
                      have hr1352 : ∀ k, Rc gT (Crun gs (Imember :: k)) (Crun gs (Imember :: k)) := fun k => Rc.rf
                      have hb1353 : ∀ k, Rc gT (Crun gs (Imember :: k)) (Cbad (V1349 0 8).toInt) := fun k => Rc.go1 (hr1352 k) ((mb_f kn125 kd143 (Or.inl kd809) (Or.inl kd1141) kd1338).trans (fl_eq rfl (show (V1349 0 8).toInt = 1 + 16 * gT.2.2 (gs.1 0) from by omega)))
                      refine lv_aload_n hx hb dX12_member_187 rfl (lv_at hl 0 rfl) ?_
                      refine lv_bipush (v := 59) hx hb dX12_member_188 (by decide) ?_
                      have r1354 : Int32.toInt 59 = 59 := by decide
                      refine gA_void (gA_runV (As := [.int 59]) (rest := []) (ci := 12) (q0 := 0) hx hb hml hown hg hP hD hK hS hA hnw hgk (s_takeSignB l D ks H.size ad kk V1349 L 59 hMV1349 (show 1 ≤ (V1349 0 8).toInt from by omega)) w2075 w2077 w96 w172 w2078 rfl rfl hdV_yX12_takeSign ⟨Nat.le_of_ble_eq_true rfl, Nat.le_of_ble_eq_true rfl⟩ rfl hl.1 rfl (Nat.le_of_ble_eq_true rfl) dX12_member_190 ⟨Nat.le_of_ble_eq_true rfl, Nat.le_of_ble_eq_true rfl⟩) hP hD hK hS hA (fun u1356 H locs w1357 hP hD hK hS => ?_)
                      obtain ⟨V1359, L1360⟩ := u1356
                      obtain ⟨hMV1359, ajV1359, axL1360, t1358⟩ := w1357
                      have axL1360 : L = L1360 := Eq.symm axL1360
                      subst axL1360
                      have hP : va_P D vwCl (mw ad kk ks.1 V1359 L) H := hP
                      have hD : va_D A (mw ad kk ks.1 V1359 L) := hD
                      have hMV1359 : rgd bM V1359 := hMV1359
                      have ajV1359 : agr [(0, 7), (0, 8)] [] V1349 V1359 := ajV1359
                      have agV1359 : agr [(0, 7), (0, 8), (0, 48), (0, 50)] [27, 28, 29, 30, 31, 32, 33, 34, 35, 36, 37, 38, 45, 46, 47] V V1359 := agV1349.tr ajV1359 (by decide) (by decide)
                      have t1358 : (V1359 0 8).toInt = (V1349 0 8).toInt := t1358
                      have r1361 : 0 ≤ ((V1359 0 8)).toInt ∧ ((V1359 0 8)).toInt ≤ 70000 := hMV1359 0 8
                      have pq1362 : (V1359 0 48).toInt = ((V 0 48)).toInt := congrArg Int32.toInt ((ajV1359 0 48 rfl).trans ((ajV1349 0 48 rfl).trans ((ajV1151 0 48 rfl).trans ((ajV1045 0 48 rfl).trans (ajV712 0 48 rfl)))))
                      have rw1363 : RoV 35 bq V V1359 := (fun k hk => ((ajV1359 35 k rfl).trans ((ajV1349 35 k rfl).trans ((ajV1151 35 k rfl).trans ((ajV1045 35 k rfl).trans ((ajV712 35 k rfl).trans rfl))))))
                      have rw1364 : RoV 37 bq V V1359 := (fun k hk => ((ajV1359 37 k rfl).trans ((ajV1349 37 k rfl).trans ((ajV1151 37 k rfl).trans ((ajV1045 37 k rfl).trans ((ajV712 37 k rfl).trans rfl))))))
                      have rw1365 : RoL 36 20 bq L L := (fun k hk => rfl)
                      have rw1366 : RoL 38 20 bq L L := (fun k hk => rfl)
                      exact W.vret hx hb hr (fun t ht hW => ⟨⟨(V1359, L), rfl, ⟨hMV1359, agV1359, alL, (Imp.mk (fun hp => have hp : (V1359 0 8).toInt = 0 := hp; (show (V1359 0 48).toInt ≤ 2 * (V1359 0 7).toInt from by omega))), (show (V1359 0 48).toInt ≤ 8120 from by omega), (Or.inr ⟨(show 1 ≤ (V1359 0 8).toInt from by omega), (fun k => by rw [show (V1359 0 8).toInt = (V1349 0 8).toInt from by omega]; exact hb1353 k)⟩), rw1363, rw1364, rw1365, rw1366⟩, by rw [ht]; exact hP, va_K.moved hW.alike hK, hD⟩, hS.F ht⟩) hS.2.2 dX12_member_193
                    · skip
                      have f1367 : z1147.toInt ≠ 0 := b_neq rfl (by decide) c1341
                      exfalso; omega
                · skip
                  have f1368 : z1041.toInt ≠ 0 := b_neq rfl (by decide) c1144
                  exfalso; omega
          · skip
            have f1369 : z708.toInt ≠ 0 := b_neq rfl (by decide) c813
            exfalso; omega
    · skip
      have f1370 : z5.toInt ≠ 0 := b_neq rfl (by decide) c144
      exfalso; omega
