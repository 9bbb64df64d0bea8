/-! the methods' table never shrinks -/
def GL (N : Nat) : Cf → Prop
  | .inl c => N ≤ (c.1.2.1 3).length
  | .inr _ => True
section GLs
variable {N : Nat} {T : Tk} {s : St}
theorem GL.ub (f : Nat → List Int64) (t : Nat) (w : Int64) (h : N ≤ (f 3).length) : N ≤ (upB f t w 3).length := by
  unfold upB
  split
  · rw [List.length_append]; exact Nat.le_trans h (Nat.le_add_right _ _)
  · exact h
theorem GL.i2 {p : Prop} [Decidable p] {a b : Cf} (ha : GL N a) (hb : GL N b) : GL N (if p then a else b) := by
  split
  · exact ha
  · exact hb
theorem GL.lk {l : List Int64} {k : Nat → Cf} (h : ∀ f, GL N (k f)) : GL N (look T s l k) := by
  unfold look
  split
  · exact trivial
  · split
    · exact trivial
    · exact h _
theorem GL.nw {k : Int64 → Cf} (h : ∀ f, GL N (k f)) : GL N (newN T s k) := by
  unfold newN
  split
  · exact trivial
  · split
    · exact trivial
    · exact h _
theorem GL.nb {j : Nat} {k : Nat × St → Cf} (hs : N ≤ (s.2.1 3).length) (h : ∀ x : Nat × St, N ≤ (x.2.2.1 3).length → GL N (k x)) : GL N (nbrW T s j k) := by
  unfold nbrW
  split
  · exact h _ hs
  · split
    · exact trivial
    · exact h _ (GL.ub _ _ _ hs)
theorem GL.mw {j : Nat} {k : Nat × St → Cf} (hs : N ≤ (s.2.1 3).length) (h : ∀ x : Nat × St, N ≤ (x.2.2.1 3).length → GL N (k x)) : GL N (mthW T s j k) := by
  unfold mthW
  split
  · exact trivial
  · exact GL.nb hs h
theorem GL.mn {k : Nat × St → Cf} (hs : N ≤ (s.2.1 3).length) (h : ∀ x : Nat × St, N ≤ (x.2.2.1 3).length → GL N (k x)) : GL N (mthN T s k) := by
  unfold mthN
  split
  · exact trivial
  · exact GL.mw hs h
theorem GL.nu {lo hi : Int} {k : Nat → Cf} (h : ∀ v, GL N (k v)) : GL N (numW T s lo hi k) := by
  unfold numW
  exact GL.i2 trivial (GL.i2 trivial (h _))
theorem GL.em {o : Nat} {x : List Int64} {y : Nat} (h : N ≤ (s.2.1 3).length) : N ≤ ((emL s o x y).2.1 3).length := by rw [emS_5 s o x y 3 (by decide)]; exact h
theorem GL.sl {j : Nat} {x : List Int64} (h : N ≤ (s.2.1 3).length) (hj : 5 ≤ j) : N ≤ ((sLl s j x).2.1 3).length := by rw [sL_o s x (by omega)]; exact h
theorem GL.wr {m : Nat} {a : Int} {l : List Nat} (h : N ≤ (s.2.1 3).length) : N ≤ ((wrS s m a l).2.1 3).length := by rw [wrS_o s m a l (Or.inl (by omega))]; exact h
theorem GL.it {k : List It} (h : N ≤ (s.2.1 3).length) : (i : It) → GL N (itW T s k i)
  | (0, _, _, _, _, _) => GL.i2 h trivial
  | (1, _, _, _, _, _) => h
  | (2, _, _, _, _, _) => GL.i2 h h
  | (3, _, _, _, _, _) => h
  | (4, _, _, _, _, _) => GL.i2 h h
  | (5, _, _, _, _, _) => h
  | (6, _, _, _, _, _) => GL.i2 h h
  | (7, _, _, _, _, _) => GL.i2 trivial (GL.i2 trivial (by
    have eb : N ≤ ((bgS s).2.1 3).length := GL.em (s := nx s 1) h
    unfold partW
    exact GL.i2 (GL.em (s := bgS s) eb) (GL.i2 eb (GL.i2 eb (GL.i2 eb (GL.i2 eb (GL.i2 eb (GL.i2 eb (GL.i2 eb eb)))))))))
  | (8, _, _, _, _, _) => GL.i2 trivial (GL.i2 trivial h)
  | (9, _, _, _, _, _) => GL.lk (fun _ => GL.em (s := nx s 1) h)
  | (10, _, _, _, _, _) => GL.mw h (fun _ q => q)
  | (11, _, _, _, _, _) => GL.mw h (fun _ q => q)
  | (12, _, _, _, _, _) => by
    show GL N (stmtW T s k)
    unfold stmtW
    exact GL.i2 trivial (GL.i2 (GL.i2 trivial h) (GL.i2 (GL.i2 trivial h) (GL.i2 (GL.i2 trivial h) (GL.i2 (GL.i2 trivial h) trivial))))
  | (13, _, _, _, _, _) => GL.nw (k := fun w => Crun (nx s 1) (Ilike w :: k)) (fun _ => h)
  | (14, _, _, _, _, _) => GL.lk (fun _ => GL.i2 trivial (GL.i2 trivial h))
  | (15, _, _, _, w, _) => GL.ub s.2.1 0 w h
  | (16, _, _, _, _, _) => GL.nw (k := fun w => Crun (nx s 1) (IsetN w :: k)) (fun _ => h)
  | (17, _, _, _, w, _) => GL.ub s.2.1 1 w h
  | (18, _, _, _, _, _) => GL.nw (k := fun w => Crun (nx s 1) (Itake 132 :: Itypes 1 w 0 [] :: k)) (fun _ => h)
  | (19, _, _, _, _, _) => GL.i2 trivial h
  | (20, _, _, _, _, _) => GL.i2 h h
  | (21, _, _, _, _, _) => GL.i2 h h
  | (22, _, _, _, _, _) => GL.i2 h h
  | (23, _, _, _, w, _) => GL.ub s.2.1 2 w h
  | (24, _, _, _, _, _) => by
    show GL N (memberW T s k)
    unfold memberW
    exact GL.i2 h (GL.i2 (GL.i2 trivial h) (GL.i2 (GL.i2 trivial (GL.sl (s := nx (sN s 2 1) 1) h (by omega))) (GL.i2 (GL.i2 trivial (GL.sl (s := nx (sN s 3 1) 1) h (by omega))) (GL.i2 h trivial))))
  | (25, _, _, _, _, _) => GL.lk (fun _ => GL.i2 h h)
  | (26, _, _, _, _, _) => h
  | (27, _, _, _, _, _) => GL.mn h (fun x q => GL.sl (s := sT x.2 (x.1 :: s.2.2.2)) q (by omega))
  | (28, _, _, _, _, _) => GL.lk (fun _ => h)
  | (29, _, _, _, _, _) => GL.mw h (fun _ q => q)
  | (30, _, _, _, _, _) => GL.i2 trivial (GL.i2 trivial h)
  | (31, _, _, _, _, _) => GL.wr h
  | (32, _, _, _, _, _) => GL.i2 h h
  | (33, _, _, _, _, _) => GL.i2 h h
  | (34, _, _, _, _, _) => GL.i2 h (GL.i2 h h)
  | (35, _, _, _, _, _) => GL.i2 h h
  | (36, _, _, _, w, _) => GL.nu (T := T) (s := s) (lo := 0) (hi := 999999999) (k := fun v => Crun (nx s 1) (Itake 59 :: IaddSe w v :: Istmt :: k)) (fun _ => h)
  | (37, _, _, _, _, _) => GL.i2 h h
  | (38, _, _, _, _, _) => GL.mw h (fun _ q => q)
  | (39, m, sc, _, w, l) => GL.nu (T := T) (s := s) (lo := 0) (hi := 9) (k := fun v => Crun (nx s 1) (IwhenI m sc w (v :: l) :: k)) (fun _ => h)
  | (40, _, _, _, _, _) => GL.lk (fun _ => h)
  | (41, m, sc, _, w, l) => GL.nu (T := T) (s := s) (lo := 0) (hi := 999999999) (k := fun v => Crun (nx s 1) (Itake 123 :: IaddNm m sc w (v :: l) :: Imember :: k)) (fun _ => h)
  | (42, _, _, _, _, _) => GL.em h
  | (43, _, _, _, _, _) => GL.em h
  | (44, _, _, _, _, l) => GL.sl (s := emS s 13 0 0) (GL.em h) (by omega)
  | (45, _, _, _, _, _) => GL.sl h (by omega)
  | (46, d, _, _, _, _) => GL.nu (T := T) (s := s) (lo := 0) (hi := ((s.1 1 : Nat) : Int) - 1) (k := fun v => Crun (nx s 1) (Itake 46 :: IofM d v :: k)) (fun _ => h)
  | (47, _, _, _, _, _) => GL.em h
  | (48, _, _, _, _, _) => GL.nu (T := T) (s := s) (lo := 1) (hi := 9) (k := fun v => Crun (emS (nx s 1) 10 v 0) k) (fun _ => GL.em (s := nx s 1) h)
  | (49, f, _, _, _, l) => GL.nu (T := T) (s := s) (lo := 0) (hi := 99) (k := fun v => Crun (nx s 1) (Iphase (l.headD 0) [f, v] :: k)) (fun _ => h)
  | (_ + 50, _, _, _, _, _) => h
theorem GL.st {c : Cf} (h : GL N c) : GL N (mst T c) := by
  cases c with
  | inr c => exact trivial
  | inl c =>
    obtain ⟨s, k⟩ := c
    cases k with
    | nil => exact h
    | cons i k => exact GL.it (s := s) h i
theorem GL.run (n : Nat) : ∀ {c : Cf}, GL N c → GL N (mrun T n c) := by
  induction n with
  | zero => exact fun h => h
  | succ n ih => exact fun h => ih (GL.st h)
end GLs
theorem Rc.ml {T : Tk} {s s' : St} {k k' : List It} (h : Rc T (Crun s k) (Crun s' k')) : (s.2.1 3).length ≤ (s'.2.1 3).length := by
  obtain ⟨n, e⟩ := h
  have z : GL (s.2.1 3).length (mrun T n (Crun s k)) := GL.run n (Nat.le_refl _)
  rw [e] at z
  exact z
/-! members of the reference -/
theorem nar_01 {z : Int32} (h : z.toInt = 0 ∨ z.toInt = 1) : (vp_nar .boolean z).toInt = z.toInt := by
  rcases h with h | h
  · have e : z = 0 := Int32.toInt_inj.mp h
    subst e
    decide
  · have e : z = 1 := Int32.toInt_inj.mp h
    subst e
    decide
theorem mb_f {T : Tk} {s : St} {k : List It} (h1 : T.1 (s.1 0) ≠ 125) (h2 : T.1 (s.1 0) ≠ 137) (h3 : T.1 (s.1 0) ≠ 140 ∨ s.1 2 = 1) (h4 : T.1 (s.1 0) ≠ 141 ∨ s.1 3 = 1) (h5 : T.1 (s.1 0) ≠ 142) : mst T (Crun s (Imember :: k)) = fl T s 1 := by
  by_cases c : T.1 (s.1 0) = 140
  · exact mb_140f c (h3.resolve_left (fun q => q c))
  · by_cases d : T.1 (s.1 0) = 141
    · exact mb_141f d (h4.resolve_left (fun q => q d))
    · exact mb_x h1 h2 c d h5
theorem mth_k3 {T : Tk} {s : St} {j : Nat} {x : Nat × St} (h : ∀ kk, mthW T s j kk = kk x) : T.1 (s.1 0) = 3 := by
  by_cases c : T.1 (s.1 0) = 3
  · exact c
  · have z := (mth_1 (j := j) c (fun _ => Cdone s)).symm.trans (h _)
    unfold fl at z
    exact absurd z (fun e => by cases e)
theorem MTX.told {T : Tk} {s : St} {x : Nat × St} (m : MTX T s 3 x) (t : x.1 ∈ s.2.2.2) (l : ∀ f ∈ s.2.2.2, f < (s.2.1 3).length) : mTold s (T.2.1 (s.1 0)) = true ∧ x.2 = nx s 1 := by
  rcases m with ⟨a, b⟩ | ⟨a, b, c⟩
  · exact ⟨(mTold_s a).trans (List.contains_iff_mem.mpr t), b⟩
  · have z := l _ t
    omega
theorem MTX.new {T : Tk} {s : St} {x : Nat × St} (m : MTX T s 3 x) (h : ∀ kk, mthW T s 3 kk = kk x) (t : x.1 ∉ s.2.2.2) (kk : Nat × St → Cf) : mthN T s kk = kk x := by
  have hn : mTold s (T.2.1 (s.1 0)) = false := by
    rcases m with ⟨a, b⟩ | ⟨a, b, c⟩
    · rw [mTold_s a]
      exact Bool.eq_false_iff.mpr (fun q => t (List.contains_iff_mem.mp q))
    · exact mTold_n a
  exact (mthN_y (fun q => by rw [hn] at q; exact absurd q.2 (by decide)) kk).trans (h kk)
theorem MTX.le {T : Tk} {s : St} {x : Nat × St} (m : MTX T s 3 x) : (s.2.1 3).length ≤ (x.2.2.1 3).length ∧ x.1 < (x.2.2.1 3).length := by
  rcases m with ⟨a, b⟩ | ⟨a, b, c⟩
  · rw [b]
    refine ⟨Nat.le_refl _, ?_⟩
    unfold fndI at a
    rw [List.findIdx?_eq_some_iff_getElem] at a
    exact a.1
  · have e : (x.2.2.1 3).length = (s.2.1 3).length + 1 := by
      rw [c]
      show ((if 3 = 3 then s.2.1 3 ++ [T.2.1 (s.1 0)] else s.2.1 3)).length = _
      rw [if_pos rfl, List.length_append]
      rfl
    omega
theorem RelM.tl {V : Vf} {L : Lf} {q n : Nat} {T : Tk} {s : St} {l2 : List Int64} {l : List Nat} (h : RelM V L q n T s l2) : RelM V L q n T (sT s l) l2 := h
theorem EM.o {V : Vf} {o : Nat} {s : St} (h : OWm V o s) (e51 : (V 0 51).toInt = (o : Int)) (e52 : (V 0 52).toInt = 0) : EM V s := by
  have k : Int32.toNatClampNeg (V 0 51) = o := by
    have := i_clamp (x := V 0 51) rfl (by (first | exact om_c441fb90eac3 e51 | omega))
    omega
  have z := h.2.2.2.1
  refine ⟨⟨fun _ => z, fun _ => by omega⟩, ⟨fun q => by omega, fun q => by omega⟩, fun _ => ?_⟩
  rw [k]
  exact h.1
theorem EM.o2 {V : Vf} {o : Nat} {s : St} (c27 : (V 27 o).toInt = ((s.1 1 : Nat) : Int)) (z : s.1 4 = 0) (e51 : (V 0 51).toInt = (o : Int)) (e52 : (V 0 52).toInt = 0) : EM V s := by
  have k : Int32.toNatClampNeg (V 0 51) = o := by
    have := i_clamp (x := V 0 51) rfl (by (first | exact om_c441fb90eac3 e51 | omega))
    omega
  refine ⟨⟨fun _ => z, fun _ => by omega⟩, ⟨fun q => by omega, fun q => by omega⟩, fun _ => ?_⟩
  rw [k]
  exact c27
section OWs
variable {V W : Vf} {o m : Nat} {s s' : St}
theorem OWm.nd (h : OWm V o s) (k : keepS s m s') (l : (s.2.1 3).length ≤ (s'.2.1 3).length) (e27 : (W 27 o).toInt = (V 27 o).toInt + 1) (e32 : W 32 o = V 32 o) (e33 : W 33 o = V 33 o) (e34 : ∀ f, f < 20 → W 34 (20 * o + f) = V 34 (20 * o + f)) {a : Int} {f9 c9 : Nat} : OWm W o (ndS s' a f9 c9) := by
  have k1 := k.2.1 1 (by decide)
  have n1 : (ndS s' a f9 c9).1 1 = s.1 1 + 1 := (show ndf s'.1 ((s'.2.1 2).length - 1) a.toNat f9 c9 1 = s.1 1 + 1 from (ndf_1 _ _ _ _ _).trans (congrArg (· + 1) k1))
  have n2 : (ndS s' a f9 c9).1 2 = s.1 2 := (show ndf s'.1 ((s'.2.1 2).length - 1) a.toNat f9 c9 2 = s.1 2 from (ndf_lo (by decide) (by decide)).trans (k.2.1 2 (by decide)))
  have n3 : (ndS s' a f9 c9).1 3 = s.1 3 := (show ndf s'.1 ((s'.2.1 2).length - 1) a.toNat f9 c9 3 = s.1 3 from (ndf_lo (by decide) (by decide)).trans (k.2.1 3 (by decide)))
  have n4 : (ndS s' a f9 c9).1 4 = s.1 4 := (show ndf s'.1 ((s'.2.1 2).length - 1) a.toNat f9 c9 4 = s.1 4 from (ndf_lo (by decide) (by decide)).trans (k.2.1 4 (by decide)))
  refine ⟨?_, ?_, ?_, ?_, ?_, ?_⟩
  · rw [e27, h.1, n1]
    omega
  · rw [e32, n2]
    exact h.2.1
  · rw [e33, n3]
    exact h.2.2.1
  · rw [n4]
    exact h.2.2.2.1
  · intro f hf
    show _ ↔ f ∈ s'.2.2.2
    rw [e34 f hf, k.2.2.2]
    exact h.2.2.2.2.1 f hf
  · show ∀ f ∈ s'.2.2.2, f < (s'.2.1 3).length
    rw [k.2.2.2]
    exact fun f hf => Nat.lt_of_lt_of_le (h.2.2.2.2.2 f hf) l
theorem OWm.op (h : OWm V o s) (k : keepS (nx (sN s 2 1) 1) m s') (l : (s.2.1 3).length ≤ (s'.2.1 3).length) (e27 : W 27 o = V 27 o) (c32 : 0 ≤ (W 32 o).toInt) (e33 : W 33 o = V 33 o) (e34 : ∀ f, f < 20 → W 34 (20 * o + f) = V 34 (20 * o + f)) : OWm W o s' := by
  have k1 : s'.1 1 = s.1 1 := k.2.1 1 (by decide)
  have k2 : s'.1 2 = 1 := k.2.1 2 (by decide)
  have k3 : s'.1 3 = s.1 3 := k.2.1 3 (by decide)
  have k4 : s'.1 4 = s.1 4 := k.2.1 4 (by decide)
  have kt : s'.2.2 = s.2.2 := k.2.2.2
  refine ⟨by rw [e27, k1]; exact h.1, ⟨fun q => absurd q (by omega), fun q => absurd k2 q⟩, by rw [e33, k3]; exact h.2.2.1, by rw [k4]; exact h.2.2.2.1, fun f hf => by rw [e34 f hf, kt]; exact h.2.2.2.2.1 f hf, by rw [kt]; exact fun f hf => Nat.lt_of_lt_of_le (h.2.2.2.2.2 f hf) l⟩
theorem OWm.cl (h : OWm V o s) (k : keepS (nx (sN s 3 1) 1) m s') (l : (s.2.1 3).length ≤ (s'.2.1 3).length) (e27 : W 27 o = V 27 o) (e32 : W 32 o = V 32 o) (c33 : 0 ≤ (W 33 o).toInt) (e34 : ∀ f, f < 20 → W 34 (20 * o + f) = V 34 (20 * o + f)) : OWm W o s' := by
  have k1 : s'.1 1 = s.1 1 := k.2.1 1 (by decide)
  have k2 : s'.1 2 = s.1 2 := k.2.1 2 (by decide)
  have k3 : s'.1 3 = 1 := k.2.1 3 (by decide)
  have k4 : s'.1 4 = s.1 4 := k.2.1 4 (by decide)
  have kt : s'.2.2 = s.2.2 := k.2.2.2
  refine ⟨by rw [e27, k1]; exact h.1, by rw [e32, k2]; exact h.2.1, ⟨fun q => absurd q (by omega), fun q => absurd k3 q⟩, by rw [k4]; exact h.2.2.2.1, fun f hf => by rw [e34 f hf, kt]; exact h.2.2.2.2.1 f hf, by rw [kt]; exact fun f hf => Nat.lt_of_lt_of_le (h.2.2.2.2.2 f hf) l⟩
theorem OWm.mt {x : Nat × St} {a : St} (h : OWm V o s) (ka : keepS s m a) (la : (s.2.1 3).length ≤ (a.2.1 3).length) (kx : keepS a 1 x.2) (lx : (a.2.1 3).length ≤ (x.2.2.1 3).length) (hx : x.1 < (x.2.2.1 3).length) (k : keepS (sT x.2 (x.1 :: a.2.2.2)) m s') (l : (x.2.2.1 3).length ≤ (s'.2.1 3).length) (e27 : W 27 o = V 27 o) (e32 : W 32 o = V 32 o) (e33 : W 33 o = V 33 o) (c34 : 0 ≤ (W 34 (20 * o + x.1)).toInt) (e34 : ∀ f, f < 20 → f ≠ x.1 → W 34 (20 * o + f) = V 34 (20 * o + f)) : OWm W o s' := by
  have kk : ∀ i, 1 ≤ i → s'.1 i = s.1 i := fun i hi => ((k.2.1 i hi).trans (kx.2.1 i hi)).trans (ka.2.1 i hi)
  have kt : s'.2.2.2 = x.1 :: s.2.2.2 := by
    have z : s'.2.2.2 = x.1 :: a.2.2.2 := congrArg (fun q => q.2) k.2.2.2
    have z2 : a.2.2.2 = s.2.2.2 := congrArg (fun q => q.2) ka.2.2.2
    rw [z, z2]
  refine ⟨by rw [e27, kk 1 (by decide)]; exact h.1, by rw [e32, kk 2 (by decide)]; exact h.2.1, by rw [e33, kk 3 (by decide)]; exact h.2.2.1, by rw [kk 4 (by decide)]; exact h.2.2.2.1, fun f hf => ?_, fun f hf => ?_⟩
  · rw [kt, List.mem_cons]
    by_cases c : f = x.1
    · rw [c]
      exact ⟨fun _ => Or.inl rfl, fun _ => c34⟩
    · rw [e34 f hf c, h.2.2.2.2.1 f hf]
      exact ⟨fun q => Or.inr q, fun q => q.elim (fun z => absurd z c) id⟩
  · rw [kt, List.mem_cons] at hf
    rcases hf with hf | hf
    · omega
    · have := h.2.2.2.2.2 f hf
      omega
end OWs
theorem keepC.tn {s : St} {i v n : Nat} (h : i < 10) : keepC (nx s n) (nx (sN s i v) n) := ⟨fun j hj => by
  show upN (upN s.1 i v) 0 (upN s.1 i v 0 + n) j = upN s.1 0 (s.1 0 + n) j
  rw [upN_o _ _ _ (show j ≠ 0 from by omega), upN_o _ _ _ (show j ≠ i from by omega), upN_o _ _ _ (show j ≠ 0 from by omega)], fun _ _ => rfl⟩
/-! a need of the reference -/
def NDW (o p : Nat) (V W : Vf) (a : Int) (f ca : Nat) : Prop := (∀ x k : Nat, 28 ≤ x → x ≤ 31 → k ≠ p → W x k = V x k) ∧ (W 28 p).toInt = ((f : Nat) : Int) ∧ ((W 29 p).toInt = 1 ↔ a.toNat = 1) ∧ ((W 30 p).toInt = 1 ↔ a.toNat = 2) ∧ (W 31 p).toInt + 1 = ((ca : Nat) : Int) ∧ ∀ k, k ≠ o → W 27 k = V 27 k
abbrev RdN (T : Tk) (s : St) (flt : Int) (P : St → Int → Nat → Nat → Prop) : Prop := (flt = 0 ∧ ∃ (s' : St) (a : Int) (f ca : Nat), (∀ k, Rc T (Crun s (IneedK :: k)) (Crun s' (Itake 59 :: IaddNeed a f ca :: Imember :: k))) ∧ P s' a f ca) ∨ (1 ≤ flt ∧ ∀ k, Rc T (Crun s (IneedK :: k)) (Cbad flt))
def okQm (fs : List (Nat × Nat)) (cs : List Nat) : Bool := cs.all (fun c => !([15, 18, 21, 22, 23, 24, 25, 26].contains c)) && fs.all (fun x => !(([] : List (Nat × Nat)).contains x) && decide (x.1 ≤ 0))
theorem CNm.nd2 {V W : Vf} {q o f ca : Nat} {a : Int} {s : St} {fs : List (Nat × Nat)} {cs : List Nat} (h : CNm V q s) (ho : o + 1 = 24 * q + (s.2.1 2).length) (hb : 24 * q ≤ o) (h1 : (V 27 o).toInt = ((s.1 1 : Nat) : Int)) (h8 : s.1 1 < 8) (ag : agr fs cs V W) (k : okQm fs cs = true) (n27 : (W 27 o).toInt = (V 27 o).toInt + 1) (w : NDW o (8 * o + s.1 1) V W a f ca) : CNm W q (ndS s a f ca) := by
  refine h.nd ho hb h1 h8 (funext fun q => okm_use ag k (x := 15) rfl (Or.inl (by decide))) (funext fun q => okm_use ag k (x := 18) rfl (Or.inl (by decide))) (fun x a1 a2 => ?_) w.2.2.2.2.2 n27 w.1 w.2.1 w.2.2.1 w.2.2.2.1 w.2.2.2.2.1
  have z : x = 21 ∨ x = 22 ∨ x = 23 ∨ x = 24 ∨ x = 25 ∨ x = 26 := by omega
  rcases z with z | z | z | z | z | z <;> (subst z; exact funext fun q => okm_use ag k rfl (Or.inl (by decide)))
theorem HDn.mv6 {V W : Vf} {o m sc ca ra ws wv : Nat} (h : HDn V o m sc ca ra ws wv) (e0 : ∀ g, g < 24 → W 21 (24 * o + g) = V 21 (24 * o + g)) (e22 : W 22 o = V 22 o) (e23 : W 23 o = V 23 o) (e24 : W 24 o = V 24 o) (e25 : W 25 o = V 25 o) (e26 : W 26 o = V 26 o) : HDn W o m sc ca ra ws wv := by
  unfold HDn at h ⊢
  rw [e22, e23, e24, e25, e26]
  exact ⟨fun g hg => by rw [e0 g hg]; exact h.1 g hg, h.2⟩


abbrev r_s_takeNeedB : Room := { frames := 0, cells := 0, slots := 0, locals := 0 }
abbrev q_s_takeNeedB (D : va_G) (ks : KS) (ad : Nat → Nat) (kk : Nat → ClassId) (V : Vf) (L : Lf) (p0 : Int32) (A : Nat → Prop) : Array Value → State → Outcome → State → Prop := va_Qv (fun (u : Vf × Lf) => rgd bM u.1 ∧ agr [(0, 7), (0, 8)] [27, 28, 29, 30, 31, 35, 36, 37, 38] V u.1 ∧ agL [27, 28, 29, 30, 31, 35, 36, 37, 38] L u.2 ∧ ((u.1 0 8).toInt = (V 0 8).toInt) ∧ (NoV 35 V u.1) ∧ (NoV 37 V u.1) ∧ (NoL 36 L u.2) ∧ (NoL 38 L u.2)) (fun u t => gq D A (mw ad kk ks.1 u.1 u.2) (mty kk) t) A
set_option maxHeartbeats 4000000 in
set_option maxRecDepth 100000 in
theorem s_takeNeedB (l : Launch) (D : va_G) (ks : KS) (sz : Nat) (ad : Nat → Nat) (kk : Nat → ClassId) (V : Vf) (L : Lf) (p0 : Int32) (hMV : rgd bM V) (rg_p0 : 0 ≤ p0.toInt ∧ p0.toInt ≤ 47) (bf : 1 ≤ (V 0 8).toInt)  : Met l yX12_takeNeed (Cond.code yX12_takeNeed cX12_takeNeed 3 none :: GW) r_s_takeNeedB (va_Pc [.ref (ad 0), .int p0] (gp D ks (mw ad kk ks.1 V L) (mty kk) sz)) (q_s_takeNeedB D ks ad kk V L p0 (va_A (mw ad kk ks.1 V L) sz)) 0 0 (va_A (mw ad kk ks.1 V L) sz) := by
  refine g_met (q_s_takeNeedB D ks ad kk V L p0) (by decide) (Nat.le_of_ble_eq_true rfl) ?_
  intro p e s m below meth c A ls H locs hx hb hr hml hown hg hlocks hin hnw hgk hP hK hD hS hA hl
  replace hown : s.vm.findClass RX12 = some m.cls := hown
  replace hl : lv_has ls 3 [(0, .ref (ad 0)), (1, .int p0)] := hl
  replace hP : va_P D vwCl (mw ad kk ks.1 V L) H := hP
  replace hD : va_D A (mw ad kk ks.1 V L) := hD
  replace hK : va_K D vwCl (mty kk) s := hK
  have agV : agr [(0, 7), (0, 8)] [27, 28, 29, 30, 31, 35, 36, 37, 38] V V := agr.rf
  have alL : agL [27, 28, 29, 30, 31, 35, 36, 37, 38] L L := agL.rf
  have rf_p0 := i_full p0
  have r1 : 0 ≤ ((V 0 8)).toInt ∧ ((V 0 8)).toInt ≤ 70000 := hMV 0 8
  refine lv_aload_n hx hb dX12_takeNeed_0 rfl (lv_at hl 0 rfl) ?_
  refine va_get (D := D) (ci := 12) (v := .int (V 0 8)) (C := RX12) (T := TX12) (N := 100) hx hb hg inX12 hown hK hP 0 rfl rfl 8 (by decide) (hg _ w1714) (fun _ h9 => h9) rfl dX12_takeNeed_1 ?_
  refine lv_if_le (tgt := 8) hx hb dX12_takeNeed_4 (by decide) (fun c2 => ?_) (fun c2 => ?_)
  · skip
    have f3 : ((V 0 8)).toInt ≤ 0 := b_le rfl (by decide) c2
    exfalso; (first | exact om_f4ec09d15507 bf f3 | omega)
  · skip
    have f4 : 0 < ((V 0 8)).toInt := b_nle rfl (by decide) c2
    have rw5 : NoV 35 V V := (fun k => rfl)
    have rw6 : NoV 37 V V := (fun k => rfl)
    have rw7 : NoL 36 L L := (fun k => rfl)
    have rw8 : NoL 38 L L := (fun k => rfl)
    exact W.vret hx hb hr (fun t ht hW => ⟨⟨(V, L), rfl, ⟨hMV, agV, alL, (show (V 0 8).toInt = (V 0 8).toInt from by (first | exact om_4c2c879c4424 | omega)), rw5, rw6, rw7, rw8⟩, by rw [ht]; exact hP, va_K.moved hW.alike hK, hD⟩, hS.F ht⟩) hS.2.2 dX12_takeNeed_7
abbrev r_s_takeNeedA : Room := { frames := 3, cells := 0, slots := 0, locals := 71 }
abbrev q_s_takeNeedA (D : va_G) (ks : KS) (ad : Nat → Nat) (kk : Nat → ClassId) (V : Vf) (L : Lf) (p0 : Int32) (bq : Nat) (gn : Nat) (gT : Tk) (gs : St) (gl : List Int64) (gc : Nat) (A : Nat → Prop) : Array Value → State → Outcome → State → Prop := va_Qv (fun (u : Vf × Lf) => rgd bM u.1 ∧ agr [(0, 7), (0, 8)] [27, 28, 29, 30, 31, 35, 36, 37, 38] V u.1 ∧ agL [27, 28, 29, 30, 31, 35, 36, 37, 38] L u.2 ∧ ((u.1 27 gc).toInt = (V 27 gc).toInt + 1) ∧ (RdN gT gs (u.1 0 8).toInt (fun s9 a9 f9 c9 => RelM u.1 u.2 bq gn gT s9 gl ∧ keepS gs 1 s9 ∧ keepL gs s9 ∧ NDW gc (8 * gc + (V 27 gc).toInt.toNat) V u.1 a9 f9 c9)) ∧ (RoV 35 bq V u.1) ∧ (RoV 37 bq V u.1) ∧ (RoL 36 20 bq L u.2) ∧ (RoL 38 20 bq L u.2)) (fun u t => gq D A (mw ad kk ks.1 u.1 u.2) (mty kk) t) A
set_option maxHeartbeats 4000000 in
set_option maxRecDepth 100000 in
theorem s_takeNeedA (l : Launch) (D : va_G) (ks : KS) (sz : Nat) (ad : Nat → Nat) (kk : Nat → ClassId) (V : Vf) (L : Lf) (p0 : Int32) (bq : Nat) (gn : Nat) (gT : Tk) (gs : St) (gl : List Int64) (gc : Nat) (hMV : rgd bM V) (rg_p0 : 0 ≤ p0.toInt ∧ p0.toInt ≤ 47) (rel : RelM V L bq gn gT gs gl) (pgc : p0.toInt = (gc : Int)) (gc48 : gc < 48) (n7 : (V 27 gc).toInt ≤ 7)  : Met l yX12_takeNeed (Cond.code yX12_takeNeed cX12_takeNeed 3 none :: GW) r_s_takeNeedA (va_Pc [.ref (ad 0), .int p0] (gp D ks (mw ad kk ks.1 V L) (mty kk) sz)) (q_s_takeNeedA D ks ad kk V L p0 bq gn gT gs gl gc (va_A (mw ad kk ks.1 V L) sz)) 0 0 (va_A (mw ad kk ks.1 V L) sz) := by
  refine g_met (q_s_takeNeedA D ks ad kk V L p0 bq gn gT gs gl gc) (by decide) (Nat.le_of_ble_eq_true rfl) ?_
  intro p e s m below meth c A ls H locs hx hb hr hml hown hg hlocks hin hnw hgk hP hK hD hS hA hl
  replace hown : s.vm.findClass RX12 = some m.cls := hown
  replace hl : lv_has ls 3 [(0, .ref (ad 0)), (1, .int p0)] := hl
  replace hP : va_P D vwCl (mw ad kk ks.1 V L) H := hP
  replace hD : va_D A (mw ad kk ks.1 V L) := hD
  replace hK : va_K D vwCl (mty kk) s := hK
  have agV : agr [(0, 7), (0, 8)] [27, 28, 29, 30, 31, 35, 36, 37, 38] V V := agr.rf
  have alL : agL [27, 28, 29, 30, 31, 35, 36, 37, 38] L L := agL.rf
  have rf_p0 := i_full p0
  have r1 : 0 ≤ ((V 27 gc)).toInt ∧ ((V 27 gc)).toInt ≤ 8 := hMV 27 gc
  have rg0 := RelM.rg rel
  have cl0 := RelM.cl rel
  have cq0 := RelM.cq rel
  have kgc : Int32.toNatClampNeg p0 = gc := by have h9 := i_clamp (x := p0) rfl (by (first | exact om_c441fb90eac3 pgc | omega)); (first | exact om_c4e1e142d663 pgc h9 | omega)
  have q27 : (V 27 (Int32.toNatClampNeg p0)).toInt = (V 27 gc).toInt := by rw [kgc]
  have q32 : (V 32 (Int32.toNatClampNeg p0)).toInt = (V 32 gc).toInt := by rw [kgc]
  have q33 : (V 33 (Int32.toNatClampNeg p0)).toInt = (V 33 gc).toInt := by rw [kgc]
  refine lv_aload_n hx hb dX12_takeNeed_0 rfl (lv_at hl 0 rfl) ?_
  refine va_get (D := D) (ci := 12) (v := .int (V 0 8)) (C := RX12) (T := TX12) (N := 100) hx hb hg inX12 hown hK hP 0 rfl rfl 8 (by decide) (hg _ w1714) (fun _ h9 => h9) rfl dX12_takeNeed_1 ?_
  have r2 : 0 ≤ ((V 0 8)).toInt ∧ ((V 0 8)).toInt ≤ 70000 := hMV 0 8
  refine lv_if_le (tgt := 8) hx hb dX12_takeNeed_4 (by decide) (fun c3 => ?_) (fun c3 => ?_)
  · skip
    have f4 : ((V 0 8)).toInt ≤ 0 := b_le rfl (by decide) c3
    refine lv_bipush (v := 8) hx hb dX12_takeNeed_8 (by decide) ?_
    refine lv_iload_n hx hb dX12_takeNeed_10 rfl (lv_at hl 1 rfl) ?_
    refine lv_imul hx hb dX12_takeNeed_11 ?_
    refine lv_topi (fun z5 ez5 => ?_)
    have hz5 : z5.toInt = 8 * p0.toInt := i_mul ez5 (by decide) rfl (by (first | exact om_cb3e5861dc77 rg_p0.1 rg_p0.2 | omega))
    refine lv_aload_n hx hb dX12_takeNeed_12 rfl (lv_at hl 0 rfl) ?_
    refine va_get (D := D) (ci := 12) (v := .ref (ad 27)) (C := RX12) (T := TX12) (N := 100) hx hb hg inX12 hown hK hP 0 rfl rfl 27 (by decide) (hg _ w1733) (fun _ h9 => h9) rfl dX12_takeNeed_13 ?_
    refine lv_iload_n hx hb dX12_takeNeed_16 rfl (lv_at hl 1 rfl) ?_
    refine va_iald (D := D) (i := p0) hx hb hK hP 20 19 rfl rfl (i_in (a := p0.toInt) rfl (by (first | exact om_1e1c00761020 rg_p0.1 rg_p0.2 | omega))) dX12_takeNeed_17 ?_
    have r6 : 0 ≤ ((V 27 (Int32.toNatClampNeg p0))).toInt ∧ ((V 27 (Int32.toNatClampNeg p0))).toInt ≤ 8 := hMV 27 (Int32.toNatClampNeg p0)
    refine lv_iadd hx hb dX12_takeNeed_18 ?_
    refine lv_topi (fun z7 ez7 => ?_)
    have hz7 : z7.toInt = z5.toInt + ((V 27 (Int32.toNatClampNeg p0))).toInt := i_add ez7 rfl rfl (by (first | exact om_eee2c3e985a0 rg_p0.1 rg_p0.2 n7 r1.1 q27 hz5 | omega))
    refine lv_istore_n (lv' := [(2, .int z7), (0, .ref (ad 0)), (1, .int p0)]) hx hb dX12_takeNeed_19 rfl hl (by decide) rfl (fun ls hl => ?_)
    refine lv_aload_n hx hb dX12_takeNeed_20 rfl (lv_at hl 1 rfl) ?_
    refine va_get (D := D) (ci := 12) (v := .ref (ad 29)) (C := RX12) (T := TX12) (N := 100) hx hb hg inX12 hown hK hP 0 rfl rfl 29 (by decide) (hg _ w1735) (fun _ h9 => h9) rfl dX12_takeNeed_21 ?_
    refine lv_iload_n hx hb dX12_takeNeed_24 rfl (lv_at hl 0 rfl) ?_
    refine lv_aload_n hx hb dX12_takeNeed_25 rfl (lv_at hl 1 rfl) ?_
    refine lv_bipush (v := 10) hx hb dX12_takeNeed_26 (by decide) ?_
    have r8 : Int32.toInt 10 = 10 := by decide
    refine gA_int (gA_runV (As := [.int 10]) (rest := [.int z7, .ref (ad 29)]) (ci := 12) (q0 := 0) hx hb hml hown hg hP hD hK hS hA hnw hgk (s_hasWordA l D ks H.size ad kk V L 10 (bq) (gn) (gT) (gs) (gl) hMV (by decide) rel) w2051 w2053 w90 w172 w2054 rfl rfl hdV_yX12_hasWord ⟨Nat.le_of_ble_eq_true rfl, Nat.le_of_ble_eq_true rfl⟩ rfl hl.1 rfl (Nat.le_of_ble_eq_true rfl) dX12_takeNeed_28 ⟨Nat.le_of_ble_eq_true rfl, Nat.le_of_ble_eq_true rfl⟩) hP hD hK hS hA (fun z9 u10 H locs w11 hP hD hK hS => ?_)
    obtain ⟨V13, L14⟩ := u10
    obtain ⟨hMV13, ajV13, axL14, rgz9, t12⟩ := w11
    have axL14 : L = L14 := Eq.symm axL14
    subst axL14
    replace hP : va_P D vwCl (mw ad kk ks.1 V13 L) H := hP
    replace hD : va_D A (mw ad kk ks.1 V13 L) := hD
    replace hMV13 : rgd bM V13 := hMV13
    replace ajV13 : agr [(0, 7)] [] V V13 := ajV13
    have agV13 : agr [(0, 7), (0, 8)] [27, 28, 29, 30, 31, 35, 36, 37, 38] V V13 := agV.tr ajV13 (by decide) (by decide)
    replace rgz9 : 0 ≤ z9.toInt ∧ z9.toInt ≤ 1 := rgz9
    replace t12 : (z9.toInt = 1 ∧ (gT).1 ((gs).1 0) = 128 + (Int32.toInt 10) ∧ RelM V13 L (bq) (gn) (gT) (nx (gs) 1) (gl)) ∨ (z9.toInt = 0 ∧ (gT).1 ((gs).1 0) ≠ 128 + (Int32.toInt 10) ∧ RelM V13 L (bq) (gn) (gT) (gs) (gl)) := t12
    rcases t12 with ⟨q15, h16, rl17⟩ | ⟨q15, h16, rl17⟩
    · skip
      have kd18 : gT.1 (gs.1 0) = 138 := h16.trans (by decide)
      have hr19 : ∀ k, Rc gT (Crun gs (IneedK :: k)) (Crun gs (IneedK :: k)) := fun k => Rc.rf
      have hr20 : ∀ k, Rc gT (Crun gs (IneedK :: k)) (Crun (nx gs 1) (IneedT 1 :: k)) := fun k => Rc.go1 (hr19 k) (needK_l kd18)
      have ps21 : (nx gs 1).1 0 = gs.1 0 + 1 := rfl
      have fz22 := RelM.rg rl17
      have pq23 : (V13 0 8).toInt = ((V 0 8)).toInt := congrArg Int32.toInt (ajV13 0 8 rfl)
      refine va_zast (D := D) (i := z7) (x := z9) hx hb hK hP hD hS 22 21 rfl rfl (i_in (a := z7.toInt) rfl (by (first | exact om_b7136b496ad5 rg_p0.1 rg_p0.2 n7 r1.1 q27 hz5 hz7 | omega))) dX12_takeNeed_31 (fun H locs hP hD hS => ?_)
      obtain ⟨V24, hV24⟩ : ∃ z, z = up2 V13 29 (Int32.toNatClampNeg z7) (vp_nar .boolean z9) := ⟨_, rfl⟩
      have hP : va_P D vwCl (mw ad kk ks.1 V24 L) H := by rw [hV24]; exact hP
      have hD : va_D A (mw ad kk ks.1 V24 L) := by rw [hV24]; exact hD
      have hMV24 : rgd bM V24 := hMV13.put hV24 (nar_b _)
      have agV24 : agr [(0, 7), (0, 8)] [27, 28, 29, 30, 31, 35, 36, 37, 38] V V24 := agV13.up hV24 rfl
      refine lv_aload_n hx hb dX12_takeNeed_32 rfl (lv_at hl 1 rfl) ?_
      refine va_get (D := D) (ci := 12) (v := .ref (ad 30)) (C := RX12) (T := TX12) (N := 100) hx hb hg inX12 hown hK hP 0 rfl rfl 30 (by decide) (hg _ w1736) (fun _ h9 => h9) rfl dX12_takeNeed_33 ?_
      refine lv_iload_n hx hb dX12_takeNeed_36 rfl (lv_at hl 0 rfl) ?_
      refine lv_aload_n hx hb dX12_takeNeed_37 rfl (lv_at hl 1 rfl) ?_
      refine va_get (D := D) (ci := 12) (v := .ref (ad 29)) (C := RX12) (T := TX12) (N := 100) hx hb hg inX12 hown hK hP 0 rfl rfl 29 (by decide) (hg _ w1735) (fun _ h9 => h9) rfl dX12_takeNeed_38 ?_
      refine lv_iload_n hx hb dX12_takeNeed_41 rfl (lv_at hl 0 rfl) ?_
      refine va_zald (D := D) (i := z7) hx hb hK hP 22 21 rfl rfl (i_in (a := z7.toInt) rfl (by (first | exact om_b7136b496ad5 rg_p0.1 rg_p0.2 n7 r1.1 q27 hz5 hz7 | omega))) dX12_takeNeed_42 ?_
      refine g_top (v := (vp_nar .boolean z9)) (up2_s hV24) ?_
      have nr25 : (vp_nar .boolean z9).toInt = z9.toInt := nar_01 (by omega)
      refine lv_if_ne (tgt := 59) hx hb dX12_takeNeed_43 (by decide) (fun c26 => ?_) (fun c26 => ?_)
      · skip
        have f27 : ((vp_nar .boolean z9)).toInt ≠ 0 := b_neq rfl (by decide) c26
        refine lv_iconst (v := 0) hx hb dX12_takeNeed_59 (by decide) ?_
        refine va_zast (D := D) (i := z7) (x := 0) hx hb hK hP hD hS 23 22 rfl rfl (i_in (a := z7.toInt) rfl (by (first | exact om_b7136b496ad5 rg_p0.1 rg_p0.2 n7 r1.1 q27 hz5 hz7 | omega))) dX12_takeNeed_60 (fun H locs hP hD hS => ?_)
        obtain ⟨V28, hV28⟩ : ∃ z, z = up2 V24 30 (Int32.toNatClampNeg z7) (vp_nar .boolean 0) := ⟨_, rfl⟩
        have hP : va_P D vwCl (mw ad kk ks.1 V28 L) H := by rw [hV28]; exact hP
        have hD : va_D A (mw ad kk ks.1 V28 L) := by rw [hV28]; exact hD
        have hMV28 : rgd bM V28 := hMV24.put hV28 (nar_b _)
        have agV28 : agr [(0, 7), (0, 8)] [27, 28, 29, 30, 31, 35, 36, 37, 38] V V28 := agV24.up hV28 rfl
        refine lv_aload_n hx hb dX12_takeNeed_61 rfl (lv_at hl 1 rfl) ?_
        refine va_get (D := D) (ci := 12) (v := .ref (ad 28)) (C := RX12) (T := TX12) (N := 100) hx hb hg inX12 hown hK hP 0 rfl rfl 28 (by decide) (hg _ w1734) (fun _ h9 => h9) rfl dX12_takeNeed_62 ?_
        refine lv_iload_n hx hb dX12_takeNeed_65 rfl (lv_at hl 0 rfl) ?_
        refine lv_aload_n hx hb dX12_takeNeed_66 rfl (lv_at hl 1 rfl) ?_
        have rl29 : RelM V28 L bq gn gT (nx gs 1) gl := RelM.ag rl17 (show agr [] [29, 30] V13 V28 from (agr.up (agr.up agr.rf hV24 rfl) hV28 rfl)) (by decide) (show agL [] L L from agL.rf) (by decide)
        refine gA_int (gA_runV (As := []) (rest := [.int z7, .ref (ad 28)]) (ci := 12) (q0 := 0) hx hb hml hown hg hP hD hK hS hA hnw hgk (s_takeTypeA l D ks H.size ad kk V28 L (bq) (gn) (gT) ((nx gs 1)) (gl) hMV28 rl29) w2059 w2061 w92 w172 w2062 rfl rfl hdV_yX12_takeType ⟨Nat.le_of_ble_eq_true rfl, Nat.le_of_ble_eq_true rfl⟩ rfl hl.1 rfl (Nat.le_of_ble_eq_true rfl) dX12_takeNeed_67 ⟨Nat.le_of_ble_eq_true rfl, Nat.le_of_ble_eq_true rfl⟩) hP hD hK hS hA (fun z30 u31 H locs w32 hP hD hK hS => ?_)
        obtain ⟨V34, L35⟩ := u31
        obtain ⟨hMV34, ajV34, axL35, rgz30, t33⟩ := w32
        have axL35 : L = L35 := Eq.symm axL35
        subst axL35
        replace hP : va_P D vwCl (mw ad kk ks.1 V34 L) H := hP
        replace hD : va_D A (mw ad kk ks.1 V34 L) := hD
        replace hMV34 : rgd bM V34 := hMV34
        replace ajV34 : agr [(0, 7), (0, 8)] [] V28 V34 := ajV34
        have agV34 : agr [(0, 7), (0, 8)] [27, 28, 29, 30, 31, 35, 36, 37, 38] V V34 := agV28.tr ajV34 (by decide) (by decide)
        replace rgz30 : (-1) ≤ z30.toInt ∧ z30.toInt ≤ 23 := rgz30
        replace t33 : KmN (look (gT) ((nx gs 1)) (((nx gs 1)).2.1 0)) (V34 0 8).toInt (fun f9 => RelM V34 L (bq) (gn) (gT) (nx ((nx gs 1)) 1) (gl) ∧ z30.toInt = ((f9 : Nat) : Int) ∧ f9 < 24) := t33
        rcases t33 with ⟨q36, fx37, h38, rl39, hf40, hb41⟩ | ⟨q36, h38⟩
        · skip
          have hr42 : ∀ k, Rc gT (Crun gs (IneedK :: k)) (Crun (nx (nx gs 1) 1) (Icalled 1 fx37 :: k)) := fun k => Rc.go1 (hr20 k) (nd_1 h38)
          have ps43 : (nx (nx gs 1) 1).1 0 = (nx gs 1).1 0 + 1 := rfl
          have fz44 := RelM.rg rl39
          have r45 : 0 ≤ ((V34 0 8)).toInt ∧ ((V34 0 8)).toInt ≤ 70000 := hMV34 0 8
          refine va_iast (D := D) (i := z7) (x := z30) hx hb hK hP hD hS 21 20 rfl rfl (i_in (a := z7.toInt) rfl (by (first | exact om_b7136b496ad5 rg_p0.1 rg_p0.2 n7 r1.1 q27 hz5 hz7 | omega))) dX12_takeNeed_70 (fun H locs hP hD hS => ?_)
          obtain ⟨V46, hV46⟩ : ∃ z, z = up2 V34 28 (Int32.toNatClampNeg z7) z30 := ⟨_, rfl⟩
          have hP : va_P D vwCl (mw ad kk ks.1 V46 L) H := by rw [hV46]; exact hP
          have hD : va_D A (mw ad kk ks.1 V46 L) := by rw [hV46]; exact hD
          have hMV46 : rgd bM V46 := hMV34.put hV46 (show (-1) ≤ z30.toInt ∧ z30.toInt ≤ 23 from by (first | exact om_b5ea211f5a81 rgz30.1 rgz30.2 | omega))
          have agV46 : agr [(0, 7), (0, 8)] [27, 28, 29, 30, 31, 35, 36, 37, 38] V V46 := agV34.up hV46 rfl
          refine lv_aload_n hx hb dX12_takeNeed_71 rfl (lv_at hl 1 rfl) ?_
          refine va_get (D := D) (ci := 12) (v := .ref (ad 31)) (C := RX12) (T := TX12) (N := 100) hx hb hg inX12 hown hK hP 0 rfl rfl 31 (by decide) (hg _ w1737) (fun _ h9 => h9) rfl dX12_takeNeed_72 ?_
          refine lv_iload_n hx hb dX12_takeNeed_75 rfl (lv_at hl 0 rfl) ?_
          refine lv_aload_n hx hb dX12_takeNeed_76 rfl (lv_at hl 1 rfl) ?_
          refine va_get (D := D) (ci := 12) (v := .ref (ad 30)) (C := RX12) (T := TX12) (N := 100) hx hb hg inX12 hown hK hP 0 rfl rfl 30 (by decide) (hg _ w1736) (fun _ h9 => h9) rfl dX12_takeNeed_77 ?_
          refine lv_iload_n hx hb dX12_takeNeed_80 rfl (lv_at hl 0 rfl) ?_
          refine va_zald (D := D) (i := z7) hx hb hK hP 23 22 rfl rfl (i_in (a := z7.toInt) rfl (by (first | exact om_b7136b496ad5 rg_p0.1 rg_p0.2 n7 r1.1 q27 hz5 hz7 | omega))) dX12_takeNeed_81 ?_
          refine g_top (v := (vp_nar .boolean 0)) ((up2_o hV46 (by decide)).trans ((ajV34 30 (Int32.toNatClampNeg z7) rfl).trans (up2_s hV28))) ?_
          have nr47 : (vp_nar .boolean 0).toInt = 0 := by decide
          refine lv_if_ne (tgt := 108) hx hb dX12_takeNeed_82 (by decide) (fun c48 => ?_) (fun c48 => ?_)
          · skip
            have f49 : ((vp_nar .boolean 0)).toInt ≠ 0 := b_neq rfl (by decide) c48
            exfalso; (first | exact om_0b51723c7ef6 nr47 f49 | omega)
          · skip
            have f50 : ((vp_nar .boolean 0)).toInt = 0 := b_eq rfl (by decide) c48
            refine lv_aload_n hx hb dX12_takeNeed_85 rfl (lv_at hl 1 rfl) ?_
            refine lv_iconst (v := 5) hx hb dX12_takeNeed_86 (by decide) ?_
            have rl51 : RelM V46 L bq gn gT (nx (nx gs 1) 1) gl := RelM.ag rl39 (show agr [] [28] V34 V46 from (agr.up agr.rf hV46 rfl)) (by decide) (show agL [] L L from agL.rf) (by decide)
            have r52 : Int32.toInt 5 = 5 := by decide
            refine gA_int (gA_runV (As := [.int 5]) (rest := [.int z7, .ref (ad 31)]) (ci := 12) (q0 := 0) hx hb hml hown hg hP hD hK hS hA hnw hgk (s_hasWordA l D ks H.size ad kk V46 L 5 (bq) (gn) (gT) ((nx (nx gs 1) 1)) (gl) hMV46 (by decide) rl51) w2051 w2053 w90 w172 w2054 rfl rfl hdV_yX12_hasWord ⟨Nat.le_of_ble_eq_true rfl, Nat.le_of_ble_eq_true rfl⟩ rfl hl.1 rfl (Nat.le_of_ble_eq_true rfl) dX12_takeNeed_87 ⟨Nat.le_of_ble_eq_true rfl, Nat.le_of_ble_eq_true rfl⟩) hP hD hK hS hA (fun z53 u54 H locs w55 hP hD hK hS => ?_)
            obtain ⟨V57, L58⟩ := u54
            obtain ⟨hMV57, ajV57, axL58, rgz53, t56⟩ := w55
            have axL58 : L = L58 := Eq.symm axL58
            subst axL58
            replace hP : va_P D vwCl (mw ad kk ks.1 V57 L) H := hP
            replace hD : va_D A (mw ad kk ks.1 V57 L) := hD
            replace hMV57 : rgd bM V57 := hMV57
            replace ajV57 : agr [(0, 7)] [] V46 V57 := ajV57
            have agV57 : agr [(0, 7), (0, 8)] [27, 28, 29, 30, 31, 35, 36, 37, 38] V V57 := agV46.tr ajV57 (by decide) (by decide)
            replace rgz53 : 0 ≤ z53.toInt ∧ z53.toInt ≤ 1 := rgz53
            replace t56 : (z53.toInt = 1 ∧ (gT).1 (((nx (nx gs 1) 1)).1 0) = 128 + (Int32.toInt 5) ∧ RelM V57 L (bq) (gn) (gT) (nx ((nx (nx gs 1) 1)) 1) (gl)) ∨ (z53.toInt = 0 ∧ (gT).1 (((nx (nx gs 1) 1)).1 0) ≠ 128 + (Int32.toInt 5) ∧ RelM V57 L (bq) (gn) (gT) ((nx (nx gs 1) 1)) (gl)) := t56
            rcases t56 with ⟨q59, h60, rl61⟩ | ⟨q59, h60, rl61⟩
            · skip
              have kd62 : gT.1 ((nx (nx gs 1) 1).1 0) = 133 := h60.trans (by decide)
              have hr63 : ∀ k, Rc gT (Crun gs (IneedK :: k)) (Crun (nx (nx (nx gs 1) 1) 1) (Iword 1 fx37 :: k)) := fun k => Rc.go1 (hr42 k) (called_y 1 fx37 kd62)
              have ps64 : (nx (nx (nx gs 1) 1) 1).1 0 = (nx (nx gs 1) 1).1 0 + 1 := rfl
              have fz65 := RelM.rg rl61
              have pq66 : (V57 0 8).toInt = ((V34 0 8)).toInt := congrArg Int32.toInt ((ajV57 0 8 rfl).trans (up2_o hV46 (by decide)))
              refine lv_if_eq (tgt := 108) hx hb dX12_takeNeed_90 (by decide) (fun c67 => ?_) (fun c67 => ?_)
              · skip
                have f68 : z53.toInt = 0 := b_eq rfl (by decide) c67
                exfalso; (first | exact om_495ee03a60ae q59 f68 | omega)
              · skip
                have f69 : z53.toInt ≠ 0 := b_neq rfl (by decide) c67
                refine lv_aload_n hx hb dX12_takeNeed_93 rfl (lv_at hl 1 rfl) ?_
                refine lv_aload_n hx hb dX12_takeNeed_94 rfl (lv_at hl 1 rfl) ?_
                refine va_get (D := D) (ci := 12) (v := .ref (ad 38)) (C := RX12) (T := TX12) (N := 100) hx hb hg inX12 hown hK hP 0 rfl rfl 38 (by decide) (hg _ w1744) (fun _ h9 => h9) rfl dX12_takeNeed_95 ?_
                refine lv_aload_n hx hb dX12_takeNeed_98 rfl (lv_at hl 1 rfl) ?_
                refine va_get (D := D) (ci := 12) (v := .ref (ad 37)) (C := RX12) (T := TX12) (N := 100) hx hb hg inX12 hown hK hP 0 rfl rfl 37 (by decide) (hg _ w1743) (fun _ h9 => h9) rfl dX12_takeNeed_99 ?_
                refine gA_int (gA_runV (As := [.ref (ad 38), .ref (ad 37)]) (rest := [.int z7, .ref (ad 31)]) (ci := 12) (q0 := 0) hx hb hml hown hg hP hD hK hS hA hnw hgk (s_takeWordOf4 l D ks H.size ad kk V57 L (bq) (gn) (gT) ((nx (nx (nx gs 1) 1) 1)) (gl) hMV57 rl61) w2100 w2102 w102 w172 w2103 rfl rfl hdV_yX12_takeWordOf ⟨Nat.le_of_ble_eq_true rfl, Nat.le_of_ble_eq_true rfl⟩ rfl hl.1 rfl (Nat.le_of_ble_eq_true rfl) dX12_takeNeed_102 ⟨Nat.le_of_ble_eq_true rfl, Nat.le_of_ble_eq_true rfl⟩) hP hD hK hS hA (fun z70 u71 H locs w72 hP hD hK hS => ?_)
                obtain ⟨V78, L79⟩ := u71
                obtain ⟨hMV78, ajV78, axL79, rgz70, t73, t74, t75, t76, t77⟩ := w72
                have alL79 : agL [27, 28, 29, 30, 31, 35, 36, 37, 38] L L79 := agL.tr alL axL79 (by decide)
                replace hP : va_P D vwCl (mw ad kk ks.1 V78 L79) H := hP
                replace hD : va_D A (mw ad kk ks.1 V78 L79) := hD
                replace hMV78 : rgd bM V78 := hMV78
                replace ajV78 : agr [(0, 7), (0, 8)] [35, 36, 37, 38] V57 V78 := ajV78
                have agV78 : agr [(0, 7), (0, 8)] [27, 28, 29, 30, 31, 35, 36, 37, 38] V V78 := agV57.tr ajV78 (by decide) (by decide)
                replace rgz70 : (-1) ≤ z70.toInt ∧ z70.toInt ≤ 19 := rgz70
                replace t73 : KmS (mthW (gT) ((nx (nx (nx gs 1) 1) 1)) 4) (V78 0 8).toInt (fun x9 => RelM V78 L79 (bq) (gn) (gT) x9.2 (gl) ∧ z70.toInt = ((x9.1 : Nat) : Int) ∧ x9.1 < 20 ∧ keepS ((nx (nx (nx gs 1) 1) 1)) 1 x9.2 ∧ MTX (gT) ((nx (nx (nx gs 1) 1) 1)) 4 x9) := t73
                replace t74 : RoV 35 (bq) V57 V78 := t74
                replace t75 : RoV 37 (bq) V57 V78 := t75
                replace t76 : RoL 36 20 (bq) L L79 := t76
                replace t77 : RoL 38 20 (bq) L L79 := t77
                rcases t73 with ⟨q80, mx81, h82, rl83, hf84, hb85, kp86, mt87⟩ | ⟨q80, h82⟩
                · skip
                  have ps88 := kp86.1
                  have hr89 : ∀ k, Rc gT (Crun gs (IneedK :: k)) (Crun mx81.2 (Itake 59 :: IaddNeed 1 fx37 (mx81.1 + 1) :: Imember :: k)) := fun k => Rc.go1 (hr63 k) (wo_y h82)
                  have fz90 := RelM.rg rl83
                  have r91 : 0 ≤ ((V78 0 8)).toInt ∧ ((V78 0 8)).toInt ≤ 70000 := hMV78 0 8
                  refine lv_goto (tgt := 109) hx hb dX12_takeNeed_105 (by decide) ?_
                  refine va_iast (D := D) (i := z7) (x := z70) hx hb hK hP hD hS 24 23 rfl rfl (i_in (a := z7.toInt) rfl (by (first | exact om_b7136b496ad5 rg_p0.1 rg_p0.2 n7 r1.1 q27 hz5 hz7 | omega))) dX12_takeNeed_109 (fun H locs hP hD hS => ?_)
                  obtain ⟨V92, hV92⟩ : ∃ z, z = up2 V78 31 (Int32.toNatClampNeg z7) z70 := ⟨_, rfl⟩
                  have hP : va_P D vwCl (mw ad kk ks.1 V92 L79) H := by rw [hV92]; exact hP
                  have hD : va_D A (mw ad kk ks.1 V92 L79) := by rw [hV92]; exact hD
                  have hMV92 : rgd bM V92 := hMV78.put hV92 (i_full _)
                  have agV92 : agr [(0, 7), (0, 8)] [27, 28, 29, 30, 31, 35, 36, 37, 38] V V92 := agV78.up hV92 rfl
                  refine lv_aload_n hx hb dX12_takeNeed_110 rfl (lv_at hl 1 rfl) ?_
                  refine va_get (D := D) (ci := 12) (v := .ref (ad 27)) (C := RX12) (T := TX12) (N := 100) hx hb hg inX12 hown hK hP 0 rfl rfl 27 (by decide) (hg _ w1733) (fun _ h9 => h9) rfl dX12_takeNeed_111 ?_
                  refine lv_iload_n hx hb dX12_takeNeed_114 rfl (lv_at hl 2 rfl) ?_
                  refine lv_dup2_11 hx hb dX12_takeNeed_115 rfl rfl ?_
                  refine va_iald (D := D) (i := p0) hx hb hK hP 20 19 rfl rfl (i_in (a := p0.toInt) rfl (by (first | exact om_1e1c00761020 rg_p0.1 rg_p0.2 | omega))) dX12_takeNeed_116 ?_
                  refine g_top (v := (V 27 (Int32.toNatClampNeg p0))) ((up2_o hV92 (by decide)).trans ((ajV78 27 (Int32.toNatClampNeg p0) rfl).trans ((ajV57 27 (Int32.toNatClampNeg p0) rfl).trans ((up2_o hV46 (by decide)).trans ((ajV34 27 (Int32.toNatClampNeg p0) rfl).trans ((up2_o hV28 (by decide)).trans ((up2_o hV24 (by decide)).trans (ajV13 27 (Int32.toNatClampNeg p0) rfl)))))))) ?_
                  refine lv_iconst (v := 1) hx hb dX12_takeNeed_117 (by decide) ?_
                  refine lv_iadd hx hb dX12_takeNeed_118 ?_
                  refine lv_topi (fun z93 ez93 => ?_)
                  have hz93 : z93.toInt = ((V 27 (Int32.toNatClampNeg p0))).toInt + 1 := i_add ez93 rfl (by decide) (by (first | exact om_bb6563b3cba5 n7 r1.1 q27 | omega))
                  refine va_iast (D := D) (i := p0) (x := z93) hx hb hK hP hD hS 20 19 rfl rfl (i_in (a := p0.toInt) rfl (by (first | exact om_1e1c00761020 rg_p0.1 rg_p0.2 | omega))) dX12_takeNeed_119 (fun H locs hP hD hS => ?_)
                  obtain ⟨V94, hV94⟩ : ∃ z, z = up2 V92 27 (Int32.toNatClampNeg p0) z93 := ⟨_, rfl⟩
                  have hP : va_P D vwCl (mw ad kk ks.1 V94 L79) H := by rw [hV94]; exact hP
                  have hD : va_D A (mw ad kk ks.1 V94 L79) := by rw [hV94]; exact hD
                  have hMV94 : rgd bM V94 := hMV92.put hV94 (show 0 ≤ z93.toInt ∧ z93.toInt ≤ 8 from by (first | exact om_f3c04a69af63 n7 r1.1 q27 hz93 | omega))
                  have agV94 : agr [(0, 7), (0, 8)] [27, 28, 29, 30, 31, 35, 36, 37, 38] V V94 := agV92.up hV94 rfl
                  have pq95 : (V94 27 (Int32.toNatClampNeg p0)).toInt = z93.toInt := congrArg Int32.toInt (up2_s hV94)
                  have rl96 : RelM V94 L79 bq gn gT mx81.2 gl := RelM.ag rl83 (show agr [] [27, 31] V78 V94 from (agr.up (agr.up agr.rf hV92 rfl) hV94 rfl)) (by decide) (show agL [] L79 L79 from agL.rf) (by decide)
                  have kz9 : (Int32.toNatClampNeg z7) = 8 * gc + (V 27 gc).toInt.toNat := by have h9 := i_clamp (x := z7) rfl (by (first | exact om_e418f5795471 rg_p0.1 r1.1 q27 hz5 hz7 | omega)); have h8 : 0 ≤ (V 27 gc).toInt := (hMV 27 gc).1; omega
                  have pq97 : (V94 28 (Int32.toNatClampNeg z7)).toInt = z30.toInt := congrArg Int32.toInt ((up2_o hV94 (by decide)).trans ((up2_o hV92 (by decide)).trans ((ajV78 28 (Int32.toNatClampNeg z7) rfl).trans ((ajV57 28 (Int32.toNatClampNeg z7) rfl).trans (up2_s hV46)))))
                  have pq98 : (V94 29 (Int32.toNatClampNeg z7)).toInt = ((vp_nar .boolean z9)).toInt := congrArg Int32.toInt ((up2_o hV94 (by decide)).trans ((up2_o hV92 (by decide)).trans ((ajV78 29 (Int32.toNatClampNeg z7) rfl).trans ((ajV57 29 (Int32.toNatClampNeg z7) rfl).trans ((up2_o hV46 (by decide)).trans ((ajV34 29 (Int32.toNatClampNeg z7) rfl).trans ((up2_o hV28 (by decide)).trans (up2_s hV24))))))))
                  have pq99 : (V94 30 (Int32.toNatClampNeg z7)).toInt = ((vp_nar .boolean 0)).toInt := congrArg Int32.toInt ((up2_o hV94 (by decide)).trans ((up2_o hV92 (by decide)).trans ((ajV78 30 (Int32.toNatClampNeg z7) rfl).trans ((ajV57 30 (Int32.toNatClampNeg z7) rfl).trans ((up2_o hV46 (by decide)).trans ((ajV34 30 (Int32.toNatClampNeg z7) rfl).trans (up2_s hV28)))))))
                  have pq100 : (V94 31 (Int32.toNatClampNeg z7)).toInt = z70.toInt := congrArg Int32.toInt ((up2_o hV94 (by decide)).trans (up2_s hV92))
                  have cc101 : (V94 28 (8 * gc + (V 27 gc).toInt.toNat)).toInt = ((fx37 : Nat) : Int) := by rw [← kz9]; omega
                  have cc102 : ((V94 29 (8 * gc + (V 27 gc).toInt.toNat)).toInt = 1 ↔ (1 : Int).toNat = 1) := by rw [← kz9]; exact iff_of_true (by omega) (by decide)
                  have cc103 : ((V94 30 (8 * gc + (V 27 gc).toInt.toNat)).toInt = 1 ↔ (1 : Int).toNat = 2) := by rw [← kz9]; exact iff_of_false (by omega) (by decide)
                  have cc104 : (V94 31 (8 * gc + (V 27 gc).toInt.toNat)).toInt + 1 = (((mx81.1 + 1) : Nat) : Int) := by rw [← kz9]; omega
                  have fr105 : ∀ x k : Nat, 28 ≤ x → x ≤ 31 → k ≠ (8 * gc + (V 27 gc).toInt.toNat) → V94 x k = V x k := fun x k a1 a2 hk => by have z9 : x = 28 ∨ x = 29 ∨ x = 30 ∨ x = 31 := (by omega); rcases z9 with z9 | z9 | z9 | z9; (subst z9; exact ((up2_o hV94 (by decide)).trans ((up2_o hV92 (by decide)).trans ((ajV78 28 _ rfl).trans ((ajV57 28 _ rfl).trans ((up2_k hV46 (fun h9 => hk (h9.trans kz9))).trans ((ajV34 28 _ rfl).trans ((up2_o hV28 (by decide)).trans ((up2_o hV24 (by decide)).trans ((ajV13 28 _ rfl).trans rfl)))))))))); (subst z9; exact ((up2_o hV94 (by decide)).trans ((up2_o hV92 (by decide)).trans ((ajV78 29 _ rfl).trans ((ajV57 29 _ rfl).trans ((up2_o hV46 (by decide)).trans ((ajV34 29 _ rfl).trans ((up2_o hV28 (by decide)).trans ((up2_k hV24 (fun h9 => hk (h9.trans kz9))).trans ((ajV13 29 _ rfl).trans rfl)))))))))); (subst z9; exact ((up2_o hV94 (by decide)).trans ((up2_o hV92 (by decide)).trans ((ajV78 30 _ rfl).trans ((ajV57 30 _ rfl).trans ((up2_o hV46 (by decide)).trans ((ajV34 30 _ rfl).trans ((up2_k hV28 (fun h9 => hk (h9.trans kz9))).trans ((up2_o hV24 (by decide)).trans ((ajV13 30 _ rfl).trans rfl)))))))))); (subst z9; exact ((up2_o hV94 (by decide)).trans ((up2_k hV92 (fun h9 => hk (h9.trans kz9))).trans ((ajV78 31 _ rfl).trans ((ajV57 31 _ rfl).trans ((up2_o hV46 (by decide)).trans ((ajV34 31 _ rfl).trans ((up2_o hV28 (by decide)).trans ((up2_o hV24 (by decide)).trans ((ajV13 31 _ rfl).trans rfl))))))))))
                  have rw106 : RoV 35 bq V V94 := (fun k hk => ((up2_o hV94 (by decide)).trans ((up2_o hV92 (by decide)).trans ((t74 k hk).trans ((ajV57 35 k rfl).trans ((up2_o hV46 (by decide)).trans ((ajV34 35 k rfl).trans ((up2_o hV28 (by decide)).trans ((up2_o hV24 (by decide)).trans ((ajV13 35 k rfl).trans rfl))))))))))
                  have rw107 : RoV 37 bq V V94 := (fun k hk => ((up2_o hV94 (by decide)).trans ((up2_o hV92 (by decide)).trans ((t75 k hk).trans ((ajV57 37 k rfl).trans ((up2_o hV46 (by decide)).trans ((ajV34 37 k rfl).trans ((up2_o hV28 (by decide)).trans ((up2_o hV24 (by decide)).trans ((ajV13 37 k rfl).trans rfl))))))))))
                  have rw108 : RoL 36 20 bq L L79 := (fun k hk => ((t76 k hk).trans rfl))
                  have rw109 : RoL 38 20 bq L L79 := (fun k hk => ((t77 k hk).trans rfl))
                  exact W.vret hx hb hr (fun t ht hW => ⟨⟨(V94, L79), rfl, ⟨hMV94, agV94, alL79, (show (V94 27 gc).toInt = (V 27 gc).toInt + 1 from by rw [← kgc]; omega), (Or.inl ⟨W0 rl96, mx81.2, 1, fx37, (mx81.1 + 1), hr89, rl96, keepS.le (keepS.tr (keepS.tr (keepS.tr (keepS.tr (keepS.rf : keepS gs 0 gs) (keepS.n1 1)) (keepS.n1 1)) (keepS.n1 1)) kp86) (by decide), (show keepL gs mx81.2 from fun j9 h9 => ((show ∀ j9, 5 ≤ j9 → mx81.2.2.1 j9 = (nx (nx (nx gs 1) 1) 1).2.1 j9 from (mth_e (j0 := 4) (by decide) h82)) j9 h9).trans ((show keepL gs (nx (nx (nx gs 1) 1) 1) from fun j9 h9 => ((show ∀ j9, 5 ≤ j9 → (nx (nx (nx gs 1) 1) 1).2.1 j9 = (nx (nx gs 1) 1).2.1 j9 from fun _ _ => rfl) j9 h9).trans ((show keepL gs (nx (nx gs 1) 1) from fun j9 h9 => ((show ∀ j9, 5 ≤ j9 → (nx (nx gs 1) 1).2.1 j9 = (nx gs 1).2.1 j9 from fun _ _ => rfl) j9 h9).trans ((show keepL gs (nx gs 1) from fun j9 h9 => ((show ∀ j9, 5 ≤ j9 → (nx gs 1).2.1 j9 = gs.2.1 j9 from fun _ _ => rfl) j9 h9).trans ((show keepL gs gs from fun _ _ => rfl) j9 h9)) j9 h9)) j9 h9)) j9 h9)), fr105, cc101, cc102, cc103, cc104, (fun k hk => ((up2_k hV94 (fun h9 => hk (h9.trans kgc))).trans ((up2_o hV92 (by decide)).trans ((ajV78 27 _ rfl).trans ((ajV57 27 _ rfl).trans ((up2_o hV46 (by decide)).trans ((ajV34 27 _ rfl).trans ((up2_o hV28 (by decide)).trans ((up2_o hV24 (by decide)).trans ((ajV13 27 _ rfl).trans rfl))))))))))⟩), rw106, rw107, rw108, rw109⟩, by rw [ht]; exact hP, va_K.moved hW.alike hK, hD⟩, hS.F ht⟩) hS.2.2 dX12_takeNeed_120
                · skip
                  have hb110 : ∀ k, Rc gT (Crun gs (IneedK :: k)) (Cbad (V78 0 8).toInt) := fun k => Rc.go1 (hr63 k) (wo_b h82)
                  have r111 : 0 ≤ ((V78 0 8)).toInt ∧ ((V78 0 8)).toInt ≤ 70000 := hMV78 0 8
                  refine lv_goto (tgt := 109) hx hb dX12_takeNeed_105 (by decide) ?_
                  refine va_iast (D := D) (i := z7) (x := z70) hx hb hK hP hD hS 24 23 rfl rfl (i_in (a := z7.toInt) rfl (by (first | exact om_b7136b496ad5 rg_p0.1 rg_p0.2 n7 r1.1 q27 hz5 hz7 | omega))) dX12_takeNeed_109 (fun H locs hP hD hS => ?_)
                  obtain ⟨V112, hV112⟩ : ∃ z, z = up2 V78 31 (Int32.toNatClampNeg z7) z70 := ⟨_, rfl⟩
                  have hP : va_P D vwCl (mw ad kk ks.1 V112 L79) H := by rw [hV112]; exact hP
                  have hD : va_D A (mw ad kk ks.1 V112 L79) := by rw [hV112]; exact hD
                  have hMV112 : rgd bM V112 := hMV78.put hV112 (i_full _)
                  have agV112 : agr [(0, 7), (0, 8)] [27, 28, 29, 30, 31, 35, 36, 37, 38] V V112 := agV78.up hV112 rfl
                  refine lv_aload_n hx hb dX12_takeNeed_110 rfl (lv_at hl 1 rfl) ?_
                  refine va_get (D := D) (ci := 12) (v := .ref (ad 27)) (C := RX12) (T := TX12) (N := 100) hx hb hg inX12 hown hK hP 0 rfl rfl 27 (by decide) (hg _ w1733) (fun _ h9 => h9) rfl dX12_takeNeed_111 ?_
                  refine lv_iload_n hx hb dX12_takeNeed_114 rfl (lv_at hl 2 rfl) ?_
                  refine lv_dup2_11 hx hb dX12_takeNeed_115 rfl rfl ?_
                  refine va_iald (D := D) (i := p0) hx hb hK hP 20 19 rfl rfl (i_in (a := p0.toInt) rfl (by (first | exact om_1e1c00761020 rg_p0.1 rg_p0.2 | omega))) dX12_takeNeed_116 ?_
                  refine g_top (v := (V 27 (Int32.toNatClampNeg p0))) ((up2_o hV112 (by decide)).trans ((ajV78 27 (Int32.toNatClampNeg p0) rfl).trans ((ajV57 27 (Int32.toNatClampNeg p0) rfl).trans ((up2_o hV46 (by decide)).trans ((ajV34 27 (Int32.toNatClampNeg p0) rfl).trans ((up2_o hV28 (by decide)).trans ((up2_o hV24 (by decide)).trans (ajV13 27 (Int32.toNatClampNeg p0) rfl)))))))) ?_
                  refine lv_iconst (v := 1) hx hb dX12_takeNeed_117 (by decide) ?_
                  refine lv_iadd hx hb dX12_takeNeed_118 ?_
                  refine lv_topi (fun z113 ez113 => ?_)
                  have hz113 : z113.toInt = ((V 27 (Int32.toNatClampNeg p0))).toInt + 1 := i_add ez113 rfl (by decide) (by (first | exact om_bb6563b3cba5 n7 r1.1 q27 | omega))
                  refine va_iast (D := D) (i := p0) (x := z113) hx hb hK hP hD hS 20 19 rfl rfl (i_in (a := p0.toInt) rfl (by (first | exact om_1e1c00761020 rg_p0.1 rg_p0.2 | omega))) dX12_takeNeed_119 (fun H locs hP hD hS => ?_)
                  obtain ⟨V114, hV114⟩ : ∃ z, z = up2 V112 27 (Int32.toNatClampNeg p0) z113 := ⟨_, rfl⟩
                  have hP : va_P D vwCl (mw ad kk ks.1 V114 L79) H := by rw [hV114]; exact hP
                  have hD : va_D A (mw ad kk ks.1 V114 L79) := by rw [hV114]; exact hD
                  have hMV114 : rgd bM V114 := hMV112.put hV114 (show 0 ≤ z113.toInt ∧ z113.toInt ≤ 8 from by (first | exact om_f3c04a69af63 n7 r1.1 q27 hz113 | omega))
                  have agV114 : agr [(0, 7), (0, 8)] [27, 28, 29, 30, 31, 35, 36, 37, 38] V V114 := agV112.up hV114 rfl
                  have pq115 : (V114 27 (Int32.toNatClampNeg p0)).toInt = z113.toInt := congrArg Int32.toInt (up2_s hV114)
                  have pq116 : (V114 0 8).toInt = ((V78 0 8)).toInt := congrArg Int32.toInt ((up2_o hV114 (by decide)).trans (up2_o hV112 (by decide)))
                  have rw117 : RoV 35 bq V V114 := (fun k hk => ((up2_o hV114 (by decide)).trans ((up2_o hV112 (by decide)).trans ((t74 k hk).trans ((ajV57 35 k rfl).trans ((up2_o hV46 (by decide)).trans ((ajV34 35 k rfl).trans ((up2_o hV28 (by decide)).trans ((up2_o hV24 (by decide)).trans ((ajV13 35 k rfl).trans rfl))))))))))
                  have rw118 : RoV 37 bq V V114 := (fun k hk => ((up2_o hV114 (by decide)).trans ((up2_o hV112 (by decide)).trans ((t75 k hk).trans ((ajV57 37 k rfl).trans ((up2_o hV46 (by decide)).trans ((ajV34 37 k rfl).trans ((up2_o hV28 (by decide)).trans ((up2_o hV24 (by decide)).trans ((ajV13 37 k rfl).trans rfl))))))))))
                  have rw119 : RoL 36 20 bq L L79 := (fun k hk => ((t76 k hk).trans rfl))
                  have rw120 : RoL 38 20 bq L L79 := (fun k hk => ((t77 k hk).trans rfl))
                  exact W.vret hx hb hr (fun t ht hW => ⟨⟨(V114, L79), rfl, ⟨hMV114, agV114, alL79, (show (V114 27 gc).toInt = (V 27 gc).toInt + 1 from by rw [← kgc]; omega), (Or.inr ⟨(show 1 ≤ (V114 0 8).toInt from by omega), (fun k => by rw [show (V114 0 8).toInt = (V78 0 8).toInt from by omega]; exact hb110 k)⟩), rw117, rw118, rw119, rw120⟩, by rw [ht]; exact hP, va_K.moved hW.alike hK, hD⟩, hS.F ht⟩) hS.2.2 dX12_takeNeed_120
            · skip
              have kd121 : gT.1 ((nx (nx gs 1) 1).1 0) ≠ 133 := fun h9 => h60 (h9.trans (by decide))
              have fz122 := RelM.rg rl61
              have pq123 : (V57 0 8).toInt = ((V34 0 8)).toInt := congrArg Int32.toInt ((ajV57 0 8 rfl).trans (up2_o hV46 (by decide)))
              refine lv_if_eq (tgt := 108) hx hb dX12_takeNeed_90 (by decide) (fun c124 => ?_) (fun c124 => ?_)
              · skip
                have f125 : z53.toInt = 0 := b_eq rfl (by decide) c124
                refine lv_iconst (v := (-1)) hx hb dX12_takeNeed_108 (by decide) ?_
                refine va_iast (D := D) (i := z7) (x := (-1)) hx hb hK hP hD hS 24 23 rfl rfl (i_in (a := z7.toInt) rfl (by (first | exact om_b7136b496ad5 rg_p0.1 rg_p0.2 n7 r1.1 q27 hz5 hz7 | omega))) dX12_takeNeed_109 (fun H locs hP hD hS => ?_)
                obtain ⟨V126, hV126⟩ : ∃ z, z = up2 V57 31 (Int32.toNatClampNeg z7) (-1) := ⟨_, rfl⟩
                have hP : va_P D vwCl (mw ad kk ks.1 V126 L) H := by rw [hV126]; exact hP
                have hD : va_D A (mw ad kk ks.1 V126 L) := by rw [hV126]; exact hD
                have hMV126 : rgd bM V126 := hMV57.put hV126 (i_full _)
                have agV126 : agr [(0, 7), (0, 8)] [27, 28, 29, 30, 31, 35, 36, 37, 38] V V126 := agV57.up hV126 rfl
                refine lv_aload_n hx hb dX12_takeNeed_110 rfl (lv_at hl 1 rfl) ?_
                refine va_get (D := D) (ci := 12) (v := .ref (ad 27)) (C := RX12) (T := TX12) (N := 100) hx hb hg inX12 hown hK hP 0 rfl rfl 27 (by decide) (hg _ w1733) (fun _ h9 => h9) rfl dX12_takeNeed_111 ?_
                refine lv_iload_n hx hb dX12_takeNeed_114 rfl (lv_at hl 2 rfl) ?_
                refine lv_dup2_11 hx hb dX12_takeNeed_115 rfl rfl ?_
                refine va_iald (D := D) (i := p0) hx hb hK hP 20 19 rfl rfl (i_in (a := p0.toInt) rfl (by (first | exact om_1e1c00761020 rg_p0.1 rg_p0.2 | omega))) dX12_takeNeed_116 ?_
                refine g_top (v := (V 27 (Int32.toNatClampNeg p0))) ((up2_o hV126 (by decide)).trans ((ajV57 27 (Int32.toNatClampNeg p0) rfl).trans ((up2_o hV46 (by decide)).trans ((ajV34 27 (Int32.toNatClampNeg p0) rfl).trans ((up2_o hV28 (by decide)).trans ((up2_o hV24 (by decide)).trans (ajV13 27 (Int32.toNatClampNeg p0) rfl))))))) ?_
                refine lv_iconst (v := 1) hx hb dX12_takeNeed_117 (by decide) ?_
                refine lv_iadd hx hb dX12_takeNeed_118 ?_
                refine lv_topi (fun z127 ez127 => ?_)
                have hz127 : z127.toInt = ((V 27 (Int32.toNatClampNeg p0))).toInt + 1 := i_add ez127 rfl (by decide) (by (first | exact om_bb6563b3cba5 n7 r1.1 q27 | omega))
                refine va_iast (D := D) (i := p0) (x := z127) hx hb hK hP hD hS 20 19 rfl rfl (i_in (a := p0.toInt) rfl (by (first | exact om_1e1c00761020 rg_p0.1 rg_p0.2 | omega))) dX12_takeNeed_119 (fun H locs hP hD hS => ?_)
                obtain ⟨V128, hV128⟩ : ∃ z, z = up2 V126 27 (Int32.toNatClampNeg p0) z127 := ⟨_, rfl⟩
                have hP : va_P D vwCl (mw ad kk ks.1 V128 L) H := by rw [hV128]; exact hP
                have hD : va_D A (mw ad kk ks.1 V128 L) := by rw [hV128]; exact hD
                have hMV128 : rgd bM V128 := hMV126.put hV128 (show 0 ≤ z127.toInt ∧ z127.toInt ≤ 8 from by (first | exact om_f3c04a69af63 n7 r1.1 q27 hz127 | omega))
                have agV128 : agr [(0, 7), (0, 8)] [27, 28, 29, 30, 31, 35, 36, 37, 38] V V128 := agV126.up hV128 rfl
                have pq129 : (V128 27 (Int32.toNatClampNeg p0)).toInt = z127.toInt := congrArg Int32.toInt (up2_s hV128)
                have hr130 : ∀ k, Rc gT (Crun gs (IneedK :: k)) (Crun (nx (nx gs 1) 1) (Itake 59 :: IaddNeed 1 fx37 0 :: Imember :: k)) := fun k => Rc.go1 (hr42 k) (called_n 1 fx37 kd121)
                have rl131 : RelM V128 L bq gn gT (nx (nx gs 1) 1) gl := RelM.ag rl61 (show agr [] [27, 31] V57 V128 from (agr.up (agr.up agr.rf hV126 rfl) hV128 rfl)) (by decide) (show agL [] L L from agL.rf) (by decide)
                have kz9 : (Int32.toNatClampNeg z7) = 8 * gc + (V 27 gc).toInt.toNat := by have h9 := i_clamp (x := z7) rfl (by (first | exact om_e418f5795471 rg_p0.1 r1.1 q27 hz5 hz7 | omega)); have h8 : 0 ≤ (V 27 gc).toInt := (hMV 27 gc).1; omega
                have pq132 : (V128 28 (Int32.toNatClampNeg z7)).toInt = z30.toInt := congrArg Int32.toInt ((up2_o hV128 (by decide)).trans ((up2_o hV126 (by decide)).trans ((ajV57 28 (Int32.toNatClampNeg z7) rfl).trans (up2_s hV46))))
                have pq133 : (V128 29 (Int32.toNatClampNeg z7)).toInt = ((vp_nar .boolean z9)).toInt := congrArg Int32.toInt ((up2_o hV128 (by decide)).trans ((up2_o hV126 (by decide)).trans ((ajV57 29 (Int32.toNatClampNeg z7) rfl).trans ((up2_o hV46 (by decide)).trans ((ajV34 29 (Int32.toNatClampNeg z7) rfl).trans ((up2_o hV28 (by decide)).trans (up2_s hV24)))))))
                have pq134 : (V128 30 (Int32.toNatClampNeg z7)).toInt = ((vp_nar .boolean 0)).toInt := congrArg Int32.toInt ((up2_o hV128 (by decide)).trans ((up2_o hV126 (by decide)).trans ((ajV57 30 (Int32.toNatClampNeg z7) rfl).trans ((up2_o hV46 (by decide)).trans ((ajV34 30 (Int32.toNatClampNeg z7) rfl).trans (up2_s hV28))))))
                have pq135 : (V128 31 (Int32.toNatClampNeg z7)).toInt = (-1) := (congrArg Int32.toInt ((up2_o hV128 (by decide)).trans (up2_s hV126))).trans (by decide)
                have cc136 : (V128 28 (8 * gc + (V 27 gc).toInt.toNat)).toInt = ((fx37 : Nat) : Int) := by rw [← kz9]; omega
                have cc137 : ((V128 29 (8 * gc + (V 27 gc).toInt.toNat)).toInt = 1 ↔ (1 : Int).toNat = 1) := by rw [← kz9]; exact iff_of_true (by omega) (by decide)
                have cc138 : ((V128 30 (8 * gc + (V 27 gc).toInt.toNat)).toInt = 1 ↔ (1 : Int).toNat = 2) := by rw [← kz9]; exact iff_of_false (by omega) (by decide)
                have cc139 : (V128 31 (8 * gc + (V 27 gc).toInt.toNat)).toInt + 1 = ((0 : Nat) : Int) := by rw [← kz9]; omega
                have fr140 : ∀ x k : Nat, 28 ≤ x → x ≤ 31 → k ≠ (8 * gc + (V 27 gc).toInt.toNat) → V128 x k = V x k := fun x k a1 a2 hk => by have z9 : x = 28 ∨ x = 29 ∨ x = 30 ∨ x = 31 := (by omega); rcases z9 with z9 | z9 | z9 | z9; (subst z9; exact ((up2_o hV128 (by decide)).trans ((up2_o hV126 (by decide)).trans ((ajV57 28 _ rfl).trans ((up2_k hV46 (fun h9 => hk (h9.trans kz9))).trans ((ajV34 28 _ rfl).trans ((up2_o hV28 (by decide)).trans ((up2_o hV24 (by decide)).trans ((ajV13 28 _ rfl).trans rfl))))))))); (subst z9; exact ((up2_o hV128 (by decide)).trans ((up2_o hV126 (by decide)).trans ((ajV57 29 _ rfl).trans ((up2_o hV46 (by decide)).trans ((ajV34 29 _ rfl).trans ((up2_o hV28 (by decide)).trans ((up2_k hV24 (fun h9 => hk (h9.trans kz9))).trans ((ajV13 29 _ rfl).trans rfl))))))))); (subst z9; exact ((up2_o hV128 (by decide)).trans ((up2_o hV126 (by decide)).trans ((ajV57 30 _ rfl).trans ((up2_o hV46 (by decide)).trans ((ajV34 30 _ rfl).trans ((up2_k hV28 (fun h9 => hk (h9.trans kz9))).trans ((up2_o hV24 (by decide)).trans ((ajV13 30 _ rfl).trans rfl))))))))); (subst z9; exact ((up2_o hV128 (by decide)).trans ((up2_k hV126 (fun h9 => hk (h9.trans kz9))).trans ((ajV57 31 _ rfl).trans ((up2_o hV46 (by decide)).trans ((ajV34 31 _ rfl).trans ((up2_o hV28 (by decide)).trans ((up2_o hV24 (by decide)).trans ((ajV13 31 _ rfl).trans rfl)))))))))
                have rw141 : RoV 35 bq V V128 := (fun k hk => ((up2_o hV128 (by decide)).trans ((up2_o hV126 (by decide)).trans ((ajV57 35 k rfl).trans ((up2_o hV46 (by decide)).trans ((ajV34 35 k rfl).trans ((up2_o hV28 (by decide)).trans ((up2_o hV24 (by decide)).trans ((ajV13 35 k rfl).trans rfl)))))))))
                have rw142 : RoV 37 bq V V128 := (fun k hk => ((up2_o hV128 (by decide)).trans ((up2_o hV126 (by decide)).trans ((ajV57 37 k rfl).trans ((up2_o hV46 (by decide)).trans ((ajV34 37 k rfl).trans ((up2_o hV28 (by decide)).trans ((up2_o hV24 (by decide)).trans ((ajV13 37 k rfl).trans rfl)))))))))
                have rw143 : RoL 36 20 bq L L := (fun k hk => rfl)
                have rw144 : RoL 38 20 bq L L := (fun k hk => rfl)
                exact W.vret hx hb hr (fun t ht hW => ⟨⟨(V128, L), rfl, ⟨hMV128, agV128, alL, (show (V128 27 gc).toInt = (V 27 gc).toInt + 1 from by rw [← kgc]; omega), (Or.inl ⟨W0 rl131, (nx (nx gs 1) 1), 1, fx37, 0, hr130, rl131, keepS.le (keepS.tr (keepS.tr (keepS.rf : keepS gs 0 gs) (keepS.n1 1)) (keepS.n1 1)) (by decide), (show keepL gs (nx (nx gs 1) 1) from fun j9 h9 => ((show ∀ j9, 5 ≤ j9 → (nx (nx gs 1) 1).2.1 j9 = (nx gs 1).2.1 j9 from fun _ _ => rfl) j9 h9).trans ((show keepL gs (nx gs 1) from fun j9 h9 => ((show ∀ j9, 5 ≤ j9 → (nx gs 1).2.1 j9 = gs.2.1 j9 from fun _ _ => rfl) j9 h9).trans ((show keepL gs gs from fun _ _ => rfl) j9 h9)) j9 h9)), fr140, cc136, cc137, cc138, cc139, (fun k hk => ((up2_k hV128 (fun h9 => hk (h9.trans kgc))).trans ((up2_o hV126 (by decide)).trans ((ajV57 27 _ rfl).trans ((up2_o hV46 (by decide)).trans ((ajV34 27 _ rfl).trans ((up2_o hV28 (by decide)).trans ((up2_o hV24 (by decide)).trans ((ajV13 27 _ rfl).trans rfl)))))))))⟩), rw141, rw142, rw143, rw144⟩, by rw [ht]; exact hP, va_K.moved hW.alike hK, hD⟩, hS.F ht⟩) hS.2.2 dX12_takeNeed_120
              · skip
                have f145 : z53.toInt ≠ 0 := b_neq rfl (by decide) c124
                exfalso; (first | exact om_fb320d7600b7 rgz53.1 q59 f145 | omega)
        · skip
          have hb146 : ∀ k, Rc gT (Crun gs (IneedK :: k)) (Cbad (V34 0 8).toInt) := fun k => Rc.go1 (hr20 k) (nd_b h38)
          have r147 : 0 ≤ ((V34 0 8)).toInt ∧ ((V34 0 8)).toInt ≤ 70000 := hMV34 0 8
          refine va_iast (D := D) (i := z7) (x := z30) hx hb hK hP hD hS 21 20 rfl rfl (i_in (a := z7.toInt) rfl (by (first | exact om_b7136b496ad5 rg_p0.1 rg_p0.2 n7 r1.1 q27 hz5 hz7 | omega))) dX12_takeNeed_70 (fun H locs hP hD hS => ?_)
          obtain ⟨V148, hV148⟩ : ∃ z, z = up2 V34 28 (Int32.toNatClampNeg z7) z30 := ⟨_, rfl⟩
          have hP : va_P D vwCl (mw ad kk ks.1 V148 L) H := by rw [hV148]; exact hP
          have hD : va_D A (mw ad kk ks.1 V148 L) := by rw [hV148]; exact hD
          have hMV148 : rgd bM V148 := hMV34.put hV148 (show (-1) ≤ z30.toInt ∧ z30.toInt ≤ 23 from by (first | exact om_b5ea211f5a81 rgz30.1 rgz30.2 | omega))
          have agV148 : agr [(0, 7), (0, 8)] [27, 28, 29, 30, 31, 35, 36, 37, 38] V V148 := agV34.up hV148 rfl
          refine lv_aload_n hx hb dX12_takeNeed_71 rfl (lv_at hl 1 rfl) ?_
          refine va_get (D := D) (ci := 12) (v := .ref (ad 31)) (C := RX12) (T := TX12) (N := 100) hx hb hg inX12 hown hK hP 0 rfl rfl 31 (by decide) (hg _ w1737) (fun _ h9 => h9) rfl dX12_takeNeed_72 ?_
          refine lv_iload_n hx hb dX12_takeNeed_75 rfl (lv_at hl 0 rfl) ?_
          refine lv_aload_n hx hb dX12_takeNeed_76 rfl (lv_at hl 1 rfl) ?_
          refine va_get (D := D) (ci := 12) (v := .ref (ad 30)) (C := RX12) (T := TX12) (N := 100) hx hb hg inX12 hown hK hP 0 rfl rfl 30 (by decide) (hg _ w1736) (fun _ h9 => h9) rfl dX12_takeNeed_77 ?_
          refine lv_iload_n hx hb dX12_takeNeed_80 rfl (lv_at hl 0 rfl) ?_
          refine va_zald (D := D) (i := z7) hx hb hK hP 23 22 rfl rfl (i_in (a := z7.toInt) rfl (by (first | exact om_b7136b496ad5 rg_p0.1 rg_p0.2 n7 r1.1 q27 hz5 hz7 | omega))) dX12_takeNeed_81 ?_
          refine g_top (v := (vp_nar .boolean 0)) ((up2_o hV148 (by decide)).trans ((ajV34 30 (Int32.toNatClampNeg z7) rfl).trans (up2_s hV28))) ?_
          have nr149 : (vp_nar .boolean 0).toInt = 0 := by decide
          refine lv_if_ne (tgt := 108) hx hb dX12_takeNeed_82 (by decide) (fun c150 => ?_) (fun c150 => ?_)
          · skip
            have f151 : ((vp_nar .boolean 0)).toInt ≠ 0 := b_neq rfl (by decide) c150
            exfalso; (first | exact om_0b51723c7ef6 nr149 f151 | omega)
          · skip
            have f152 : ((vp_nar .boolean 0)).toInt = 0 := b_eq rfl (by decide) c150
            refine lv_aload_n hx hb dX12_takeNeed_85 rfl (lv_at hl 1 rfl) ?_
            refine lv_iconst (v := 5) hx hb dX12_takeNeed_86 (by decide) ?_
            have r153 : Int32.toInt 5 = 5 := by decide
            have pq154 : (V148 0 8).toInt = ((V34 0 8)).toInt := congrArg Int32.toInt (up2_o hV148 (by decide))
            refine gA_int (gA_runV (As := [.int 5]) (rest := [.int z7, .ref (ad 31)]) (ci := 12) (q0 := 0) hx hb hml hown hg hP hD hK hS hA hnw hgk (s_hasWordB l D ks H.size ad kk V148 L 5 hMV148 (by decide) (show 1 ≤ (V148 0 8).toInt from by omega)) w2051 w2053 w90 w172 w2054 rfl rfl hdV_yX12_hasWord ⟨Nat.le_of_ble_eq_true rfl, Nat.le_of_ble_eq_true rfl⟩ rfl hl.1 rfl (Nat.le_of_ble_eq_true rfl) dX12_takeNeed_87 ⟨Nat.le_of_ble_eq_true rfl, Nat.le_of_ble_eq_true rfl⟩) hP hD hK hS hA (fun z155 u156 H locs w157 hP hD hK hS => ?_)
            obtain ⟨V159, L160⟩ := u156
            obtain ⟨hMV159, ajV159, axL160, rgz155, t158⟩ := w157
            have axL160 : L = L160 := Eq.symm axL160
            subst axL160
            replace hP : va_P D vwCl (mw ad kk ks.1 V159 L) H := hP
            replace hD : va_D A (mw ad kk ks.1 V159 L) := hD
            replace hMV159 : rgd bM V159 := hMV159
            replace ajV159 : agr [(0, 7)] [] V148 V159 := ajV159
            have agV159 : agr [(0, 7), (0, 8)] [27, 28, 29, 30, 31, 35, 36, 37, 38] V V159 := agV148.tr ajV159 (by decide) (by decide)
            replace rgz155 : 0 ≤ z155.toInt ∧ z155.toInt ≤ 0 := rgz155
            replace t158 : (V159 0 8).toInt = (V148 0 8).toInt := t158
            have pq161 : (V159 0 8).toInt = ((V34 0 8)).toInt := congrArg Int32.toInt ((ajV159 0 8 rfl).trans (up2_o hV148 (by decide)))
            refine lv_if_eq (tgt := 108) hx hb dX12_takeNeed_90 (by decide) (fun c162 => ?_) (fun c162 => ?_)
            · skip
              have f163 : z155.toInt = 0 := b_eq rfl (by decide) c162
              refine lv_iconst (v := (-1)) hx hb dX12_takeNeed_108 (by decide) ?_
              refine va_iast (D := D) (i := z7) (x := (-1)) hx hb hK hP hD hS 24 23 rfl rfl (i_in (a := z7.toInt) rfl (by (first | exact om_b7136b496ad5 rg_p0.1 rg_p0.2 n7 r1.1 q27 hz5 hz7 | omega))) dX12_takeNeed_109 (fun H locs hP hD hS => ?_)
              obtain ⟨V164, hV164⟩ : ∃ z, z = up2 V159 31 (Int32.toNatClampNeg z7) (-1) := ⟨_, rfl⟩
              have hP : va_P D vwCl (mw ad kk ks.1 V164 L) H := by rw [hV164]; exact hP
              have hD : va_D A (mw ad kk ks.1 V164 L) := by rw [hV164]; exact hD
              have hMV164 : rgd bM V164 := hMV159.put hV164 (i_full _)
              have agV164 : agr [(0, 7), (0, 8)] [27, 28, 29, 30, 31, 35, 36, 37, 38] V V164 := agV159.up hV164 rfl
              refine lv_aload_n hx hb dX12_takeNeed_110 rfl (lv_at hl 1 rfl) ?_
              refine va_get (D := D) (ci := 12) (v := .ref (ad 27)) (C := RX12) (T := TX12) (N := 100) hx hb hg inX12 hown hK hP 0 rfl rfl 27 (by decide) (hg _ w1733) (fun _ h9 => h9) rfl dX12_takeNeed_111 ?_
              refine lv_iload_n hx hb dX12_takeNeed_114 rfl (lv_at hl 2 rfl) ?_
              refine lv_dup2_11 hx hb dX12_takeNeed_115 rfl rfl ?_
              refine va_iald (D := D) (i := p0) hx hb hK hP 20 19 rfl rfl (i_in (a := p0.toInt) rfl (by (first | exact om_1e1c00761020 rg_p0.1 rg_p0.2 | omega))) dX12_takeNeed_116 ?_
              refine g_top (v := (V 27 (Int32.toNatClampNeg p0))) ((up2_o hV164 (by decide)).trans ((ajV159 27 (Int32.toNatClampNeg p0) rfl).trans ((up2_o hV148 (by decide)).trans ((ajV34 27 (Int32.toNatClampNeg p0) rfl).trans ((up2_o hV28 (by decide)).trans ((up2_o hV24 (by decide)).trans (ajV13 27 (Int32.toNatClampNeg p0) rfl))))))) ?_
              refine lv_iconst (v := 1) hx hb dX12_takeNeed_117 (by decide) ?_
              refine lv_iadd hx hb dX12_takeNeed_118 ?_
              refine lv_topi (fun z165 ez165 => ?_)
              have hz165 : z165.toInt = ((V 27 (Int32.toNatClampNeg p0))).toInt + 1 := i_add ez165 rfl (by decide) (by (first | exact om_bb6563b3cba5 n7 r1.1 q27 | omega))
              refine va_iast (D := D) (i := p0) (x := z165) hx hb hK hP hD hS 20 19 rfl rfl (i_in (a := p0.toInt) rfl (by (first | exact om_1e1c00761020 rg_p0.1 rg_p0.2 | omega))) dX12_takeNeed_119 (fun H locs hP hD hS => ?_)
              obtain ⟨V166, hV166⟩ : ∃ z, z = up2 V164 27 (Int32.toNatClampNeg p0) z165 := ⟨_, rfl⟩
              have hP : va_P D vwCl (mw ad kk ks.1 V166 L) H := by rw [hV166]; exact hP
              have hD : va_D A (mw ad kk ks.1 V166 L) := by rw [hV166]; exact hD
              have hMV166 : rgd bM V166 := hMV164.put hV166 (show 0 ≤ z165.toInt ∧ z165.toInt ≤ 8 from by (first | exact om_f3c04a69af63 n7 r1.1 q27 hz165 | omega))
              have agV166 : agr [(0, 7), (0, 8)] [27, 28, 29, 30, 31, 35, 36, 37, 38] V V166 := agV164.up hV166 rfl
              have pq167 : (V166 27 (Int32.toNatClampNeg p0)).toInt = z165.toInt := congrArg Int32.toInt (up2_s hV166)
              have pq168 : (V166 0 8).toInt = ((V34 0 8)).toInt := congrArg Int32.toInt ((up2_o hV166 (by decide)).trans ((up2_o hV164 (by decide)).trans ((ajV159 0 8 rfl).trans (up2_o hV148 (by decide)))))
              have rw169 : RoV 35 bq V V166 := (fun k hk => ((up2_o hV166 (by decide)).trans ((up2_o hV164 (by decide)).trans ((ajV159 35 k rfl).trans ((up2_o hV148 (by decide)).trans ((ajV34 35 k rfl).trans ((up2_o hV28 (by decide)).trans ((up2_o hV24 (by decide)).trans ((ajV13 35 k rfl).trans rfl)))))))))
              have rw170 : RoV 37 bq V V166 := (fun k hk => ((up2_o hV166 (by decide)).trans ((up2_o hV164 (by decide)).trans ((ajV159 37 k rfl).trans ((up2_o hV148 (by decide)).trans ((ajV34 37 k rfl).trans ((up2_o hV28 (by decide)).trans ((up2_o hV24 (by decide)).trans ((ajV13 37 k rfl).trans rfl)))))))))
              have rw171 : RoL 36 20 bq L L := (fun k hk => rfl)
              have rw172 : RoL 38 20 bq L L := (fun k hk => rfl)
              exact W.vret hx hb hr (fun t ht hW => ⟨⟨(V166, L), rfl, ⟨hMV166, agV166, alL, (show (V166 27 gc).toInt = (V 27 gc).toInt + 1 from by rw [← kgc]; omega), (Or.inr ⟨(show 1 ≤ (V166 0 8).toInt from by omega), (fun k => by rw [show (V166 0 8).toInt = (V34 0 8).toInt from by omega]; exact hb146 k)⟩), rw169, rw170, rw171, rw172⟩, by rw [ht]; exact hP, va_K.moved hW.alike hK, hD⟩, hS.F ht⟩) hS.2.2 dX12_takeNeed_120
            · skip
              have f173 : z155.toInt ≠ 0 := b_neq rfl (by decide) c162
              exfalso; (first | exact om_0e608cc4b4f6 rgz155.1 rgz155.2 f173 | omega)
      · skip
        have f174 : ((vp_nar .boolean z9)).toInt = 0 := b_eq rfl (by decide) c26
        exfalso; (first | exact om_af9a553b9772 q15 nr25 f174 | omega)
    · skip
      have kd175 : gT.1 (gs.1 0) ≠ 138 := fun h9 => h16 (h9.trans (by decide))
      have fz176 := RelM.rg rl17
      have pq177 : (V13 0 8).toInt = ((V 0 8)).toInt := congrArg Int32.toInt (ajV13 0 8 rfl)
      refine va_zast (D := D) (i := z7) (x := z9) hx hb hK hP hD hS 22 21 rfl rfl (i_in (a := z7.toInt) rfl (by (first | exact om_b7136b496ad5 rg_p0.1 rg_p0.2 n7 r1.1 q27 hz5 hz7 | omega))) dX12_takeNeed_31 (fun H locs hP hD hS => ?_)
      obtain ⟨V178, hV178⟩ : ∃ z, z = up2 V13 29 (Int32.toNatClampNeg z7) (vp_nar .boolean z9) := ⟨_, rfl⟩
      have hP : va_P D vwCl (mw ad kk ks.1 V178 L) H := by rw [hV178]; exact hP
      have hD : va_D A (mw ad kk ks.1 V178 L) := by rw [hV178]; exact hD
      have hMV178 : rgd bM V178 := hMV13.put hV178 (nar_b _)
      have agV178 : agr [(0, 7), (0, 8)] [27, 28, 29, 30, 31, 35, 36, 37, 38] V V178 := agV13.up hV178 rfl
      refine lv_aload_n hx hb dX12_takeNeed_32 rfl (lv_at hl 1 rfl) ?_
      refine va_get (D := D) (ci := 12) (v := .ref (ad 30)) (C := RX12) (T := TX12) (N := 100) hx hb hg inX12 hown hK hP 0 rfl rfl 30 (by decide) (hg _ w1736) (fun _ h9 => h9) rfl dX12_takeNeed_33 ?_
      refine lv_iload_n hx hb dX12_takeNeed_36 rfl (lv_at hl 0 rfl) ?_
      refine lv_aload_n hx hb dX12_takeNeed_37 rfl (lv_at hl 1 rfl) ?_
      refine va_get (D := D) (ci := 12) (v := .ref (ad 29)) (C := RX12) (T := TX12) (N := 100) hx hb hg inX12 hown hK hP 0 rfl rfl 29 (by decide) (hg _ w1735) (fun _ h9 => h9) rfl dX12_takeNeed_38 ?_
      refine lv_iload_n hx hb dX12_takeNeed_41 rfl (lv_at hl 0 rfl) ?_
      refine va_zald (D := D) (i := z7) hx hb hK hP 22 21 rfl rfl (i_in (a := z7.toInt) rfl (by (first | exact om_b7136b496ad5 rg_p0.1 rg_p0.2 n7 r1.1 q27 hz5 hz7 | omega))) dX12_takeNeed_42 ?_
      refine g_top (v := (vp_nar .boolean z9)) (up2_s hV178) ?_
      have nr179 : (vp_nar .boolean z9).toInt = z9.toInt := nar_01 (by omega)
      refine lv_if_ne (tgt := 59) hx hb dX12_takeNeed_43 (by decide) (fun c180 => ?_) (fun c180 => ?_)
      · skip
        have f181 : ((vp_nar .boolean z9)).toInt ≠ 0 := b_neq rfl (by decide) c180
        exfalso; omega
      · skip
        have f182 : ((vp_nar .boolean z9)).toInt = 0 := b_eq rfl (by decide) c180
        refine lv_aload_n hx hb dX12_takeNeed_46 rfl (lv_at hl 1 rfl) ?_
        refine lv_bipush (v := 11) hx hb dX12_takeNeed_47 (by decide) ?_
        have rl183 : RelM V178 L bq gn gT gs gl := RelM.ag rl17 (show agr [] [29] V13 V178 from (agr.up agr.rf hV178 rfl)) (by decide) (show agL [] L L from agL.rf) (by decide)
        have r184 : Int32.toInt 11 = 11 := by decide
        refine gA_int (gA_runV (As := [.int 11]) (rest := [.int z7, .ref (ad 30)]) (ci := 12) (q0 := 0) hx hb hml hown hg hP hD hK hS hA hnw hgk (s_hasWordA l D ks H.size ad kk V178 L 11 (bq) (gn) (gT) (gs) (gl) hMV178 (by decide) rl183) w2051 w2053 w90 w172 w2054 rfl rfl hdV_yX12_hasWord ⟨Nat.le_of_ble_eq_true rfl, Nat.le_of_ble_eq_true rfl⟩ rfl hl.1 rfl (Nat.le_of_ble_eq_true rfl) dX12_takeNeed_49 ⟨Nat.le_of_ble_eq_true rfl, Nat.le_of_ble_eq_true rfl⟩) hP hD hK hS hA (fun z185 u186 H locs w187 hP hD hK hS => ?_)
        obtain ⟨V189, L190⟩ := u186
        obtain ⟨hMV189, ajV189, axL190, rgz185, t188⟩ := w187
        have axL190 : L = L190 := Eq.symm axL190
        subst axL190
        replace hP : va_P D vwCl (mw ad kk ks.1 V189 L) H := hP
        replace hD : va_D A (mw ad kk ks.1 V189 L) := hD
        replace hMV189 : rgd bM V189 := hMV189
        replace ajV189 : agr [(0, 7)] [] V178 V189 := ajV189
        have agV189 : agr [(0, 7), (0, 8)] [27, 28, 29, 30, 31, 35, 36, 37, 38] V V189 := agV178.tr ajV189 (by decide) (by decide)
        replace rgz185 : 0 ≤ z185.toInt ∧ z185.toInt ≤ 1 := rgz185
        replace t188 : (z185.toInt = 1 ∧ (gT).1 ((gs).1 0) = 128 + (Int32.toInt 11) ∧ RelM V189 L (bq) (gn) (gT) (nx (gs) 1) (gl)) ∨ (z185.toInt = 0 ∧ (gT).1 ((gs).1 0) ≠ 128 + (Int32.toInt 11) ∧ RelM V189 L (bq) (gn) (gT) (gs) (gl)) := t188
        rcases t188 with ⟨q191, h192, rl193⟩ | ⟨q191, h192, rl193⟩
        · skip
          have kd194 : gT.1 (gs.1 0) = 139 := h192.trans (by decide)
          have hr195 : ∀ k, Rc gT (Crun gs (IneedK :: k)) (Crun gs (IneedK :: k)) := fun k => Rc.rf
          have hr196 : ∀ k, Rc gT (Crun gs (IneedK :: k)) (Crun (nx gs 1) (IneedT 2 :: k)) := fun k => Rc.go1 (hr195 k) (needK_a kd194)
          have ps197 : (nx gs 1).1 0 = gs.1 0 + 1 := rfl
          have fz198 := RelM.rg rl193
          have pq199 : (V189 0 8).toInt = ((V 0 8)).toInt := congrArg Int32.toInt ((ajV189 0 8 rfl).trans ((up2_o hV178 (by decide)).trans (ajV13 0 8 rfl)))
          refine lv_if_eq (tgt := 59) hx hb dX12_takeNeed_52 (by decide) (fun c200 => ?_) (fun c200 => ?_)
          · skip
            have f201 : z185.toInt = 0 := b_eq rfl (by decide) c200
            exfalso; (first | exact om_495ee03a60ae q191 f201 | omega)
          · skip
            have f202 : z185.toInt ≠ 0 := b_neq rfl (by decide) c200
            refine lv_iconst (v := 1) hx hb dX12_takeNeed_55 (by decide) ?_
            refine lv_goto (tgt := 60) hx hb dX12_takeNeed_56 (by decide) ?_
            refine va_zast (D := D) (i := z7) (x := 1) hx hb hK hP hD hS 23 22 rfl rfl (i_in (a := z7.toInt) rfl (by (first | exact om_b7136b496ad5 rg_p0.1 rg_p0.2 n7 r1.1 q27 hz5 hz7 | omega))) dX12_takeNeed_60 (fun H locs hP hD hS => ?_)
            obtain ⟨V203, hV203⟩ : ∃ z, z = up2 V189 30 (Int32.toNatClampNeg z7) (vp_nar .boolean 1) := ⟨_, rfl⟩
            have hP : va_P D vwCl (mw ad kk ks.1 V203 L) H := by rw [hV203]; exact hP
            have hD : va_D A (mw ad kk ks.1 V203 L) := by rw [hV203]; exact hD
            have hMV203 : rgd bM V203 := hMV189.put hV203 (nar_b _)
            have agV203 : agr [(0, 7), (0, 8)] [27, 28, 29, 30, 31, 35, 36, 37, 38] V V203 := agV189.up hV203 rfl
            refine lv_aload_n hx hb dX12_takeNeed_61 rfl (lv_at hl 1 rfl) ?_
            refine va_get (D := D) (ci := 12) (v := .ref (ad 28)) (C := RX12) (T := TX12) (N := 100) hx hb hg inX12 hown hK hP 0 rfl rfl 28 (by decide) (hg _ w1734) (fun _ h9 => h9) rfl dX12_takeNeed_62 ?_
            refine lv_iload_n hx hb dX12_takeNeed_65 rfl (lv_at hl 0 rfl) ?_
            refine lv_aload_n hx hb dX12_takeNeed_66 rfl (lv_at hl 1 rfl) ?_
            have rl204 : RelM V203 L bq gn gT (nx gs 1) gl := RelM.ag rl193 (show agr [] [30] V189 V203 from (agr.up agr.rf hV203 rfl)) (by decide) (show agL [] L L from agL.rf) (by decide)
            refine gA_int (gA_runV (As := []) (rest := [.int z7, .ref (ad 28)]) (ci := 12) (q0 := 0) hx hb hml hown hg hP hD hK hS hA hnw hgk (s_takeTypeA l D ks H.size ad kk V203 L (bq) (gn) (gT) ((nx gs 1)) (gl) hMV203 rl204) w2059 w2061 w92 w172 w2062 rfl rfl hdV_yX12_takeType ⟨Nat.le_of_ble_eq_true rfl, Nat.le_of_ble_eq_true rfl⟩ rfl hl.1 rfl (Nat.le_of_ble_eq_true rfl) dX12_takeNeed_67 ⟨Nat.le_of_ble_eq_true rfl, Nat.le_of_ble_eq_true rfl⟩) hP hD hK hS hA (fun z205 u206 H locs w207 hP hD hK hS => ?_)
            obtain ⟨V209, L210⟩ := u206
            obtain ⟨hMV209, ajV209, axL210, rgz205, t208⟩ := w207
            have axL210 : L = L210 := Eq.symm axL210
            subst axL210
            replace hP : va_P D vwCl (mw ad kk ks.1 V209 L) H := hP
            replace hD : va_D A (mw ad kk ks.1 V209 L) := hD
            replace hMV209 : rgd bM V209 := hMV209
            replace ajV209 : agr [(0, 7), (0, 8)] [] V203 V209 := ajV209
            have agV209 : agr [(0, 7), (0, 8)] [27, 28, 29, 30, 31, 35, 36, 37, 38] V V209 := agV203.tr ajV209 (by decide) (by decide)
            replace rgz205 : (-1) ≤ z205.toInt ∧ z205.toInt ≤ 23 := rgz205
            replace t208 : KmN (look (gT) ((nx gs 1)) (((nx gs 1)).2.1 0)) (V209 0 8).toInt (fun f9 => RelM V209 L (bq) (gn) (gT) (nx ((nx gs 1)) 1) (gl) ∧ z205.toInt = ((f9 : Nat) : Int) ∧ f9 < 24) := t208
            rcases t208 with ⟨q211, fx212, h213, rl214, hf215, hb216⟩ | ⟨q211, h213⟩
            · skip
              have hr217 : ∀ k, Rc gT (Crun gs (IneedK :: k)) (Crun (nx (nx gs 1) 1) (Itake 59 :: IaddNeed 2 fx212 0 :: Imember :: k)) := fun k => Rc.go1 (hr196 k) (nd_2 h213)
              have ps218 : (nx (nx gs 1) 1).1 0 = (nx gs 1).1 0 + 1 := rfl
              have fz219 := RelM.rg rl214
              have r220 : 0 ≤ ((V209 0 8)).toInt ∧ ((V209 0 8)).toInt ≤ 70000 := hMV209 0 8
              refine va_iast (D := D) (i := z7) (x := z205) hx hb hK hP hD hS 21 20 rfl rfl (i_in (a := z7.toInt) rfl (by (first | exact om_b7136b496ad5 rg_p0.1 rg_p0.2 n7 r1.1 q27 hz5 hz7 | omega))) dX12_takeNeed_70 (fun H locs hP hD hS => ?_)
              obtain ⟨V221, hV221⟩ : ∃ z, z = up2 V209 28 (Int32.toNatClampNeg z7) z205 := ⟨_, rfl⟩
              have hP : va_P D vwCl (mw ad kk ks.1 V221 L) H := by rw [hV221]; exact hP
              have hD : va_D A (mw ad kk ks.1 V221 L) := by rw [hV221]; exact hD
              have hMV221 : rgd bM V221 := hMV209.put hV221 (show (-1) ≤ z205.toInt ∧ z205.toInt ≤ 23 from by (first | exact om_b5ea211f5a81 rgz205.1 rgz205.2 | omega))
              have agV221 : agr [(0, 7), (0, 8)] [27, 28, 29, 30, 31, 35, 36, 37, 38] V V221 := agV209.up hV221 rfl
              refine lv_aload_n hx hb dX12_takeNeed_71 rfl (lv_at hl 1 rfl) ?_
              refine va_get (D := D) (ci := 12) (v := .ref (ad 31)) (C := RX12) (T := TX12) (N := 100) hx hb hg inX12 hown hK hP 0 rfl rfl 31 (by decide) (hg _ w1737) (fun _ h9 => h9) rfl dX12_takeNeed_72 ?_
              refine lv_iload_n hx hb dX12_takeNeed_75 rfl (lv_at hl 0 rfl) ?_
              refine lv_aload_n hx hb dX12_takeNeed_76 rfl (lv_at hl 1 rfl) ?_
              refine va_get (D := D) (ci := 12) (v := .ref (ad 30)) (C := RX12) (T := TX12) (N := 100) hx hb hg inX12 hown hK hP 0 rfl rfl 30 (by decide) (hg _ w1736) (fun _ h9 => h9) rfl dX12_takeNeed_77 ?_
              refine lv_iload_n hx hb dX12_takeNeed_80 rfl (lv_at hl 0 rfl) ?_
              refine va_zald (D := D) (i := z7) hx hb hK hP 23 22 rfl rfl (i_in (a := z7.toInt) rfl (by (first | exact om_b7136b496ad5 rg_p0.1 rg_p0.2 n7 r1.1 q27 hz5 hz7 | omega))) dX12_takeNeed_81 ?_
              refine g_top (v := (vp_nar .boolean 1)) ((up2_o hV221 (by decide)).trans ((ajV209 30 (Int32.toNatClampNeg z7) rfl).trans (up2_s hV203))) ?_
              have nr222 : (vp_nar .boolean 1).toInt = 1 := by decide
              refine lv_if_ne (tgt := 108) hx hb dX12_takeNeed_82 (by decide) (fun c223 => ?_) (fun c223 => ?_)
              · skip
                have f224 : ((vp_nar .boolean 1)).toInt ≠ 0 := b_neq rfl (by decide) c223
                refine lv_iconst (v := (-1)) hx hb dX12_takeNeed_108 (by decide) ?_
                refine va_iast (D := D) (i := z7) (x := (-1)) hx hb hK hP hD hS 24 23 rfl rfl (i_in (a := z7.toInt) rfl (by (first | exact om_b7136b496ad5 rg_p0.1 rg_p0.2 n7 r1.1 q27 hz5 hz7 | omega))) dX12_takeNeed_109 (fun H locs hP hD hS => ?_)
                obtain ⟨V225, hV225⟩ : ∃ z, z = up2 V221 31 (Int32.toNatClampNeg z7) (-1) := ⟨_, rfl⟩
                have hP : va_P D vwCl (mw ad kk ks.1 V225 L) H := by rw [hV225]; exact hP
                have hD : va_D A (mw ad kk ks.1 V225 L) := by rw [hV225]; exact hD
                have hMV225 : rgd bM V225 := hMV221.put hV225 (i_full _)
                have agV225 : agr [(0, 7), (0, 8)] [27, 28, 29, 30, 31, 35, 36, 37, 38] V V225 := agV221.up hV225 rfl
                refine lv_aload_n hx hb dX12_takeNeed_110 rfl (lv_at hl 1 rfl) ?_
                refine va_get (D := D) (ci := 12) (v := .ref (ad 27)) (C := RX12) (T := TX12) (N := 100) hx hb hg inX12 hown hK hP 0 rfl rfl 27 (by decide) (hg _ w1733) (fun _ h9 => h9) rfl dX12_takeNeed_111 ?_
                refine lv_iload_n hx hb dX12_takeNeed_114 rfl (lv_at hl 2 rfl) ?_
                refine lv_dup2_11 hx hb dX12_takeNeed_115 rfl rfl ?_
                refine va_iald (D := D) (i := p0) hx hb hK hP 20 19 rfl rfl (i_in (a := p0.toInt) rfl (by (first | exact om_1e1c00761020 rg_p0.1 rg_p0.2 | omega))) dX12_takeNeed_116 ?_
                refine g_top (v := (V 27 (Int32.toNatClampNeg p0))) ((up2_o hV225 (by decide)).trans ((up2_o hV221 (by decide)).trans ((ajV209 27 (Int32.toNatClampNeg p0) rfl).trans ((up2_o hV203 (by decide)).trans ((ajV189 27 (Int32.toNatClampNeg p0) rfl).trans ((up2_o hV178 (by decide)).trans (ajV13 27 (Int32.toNatClampNeg p0) rfl))))))) ?_
                refine lv_iconst (v := 1) hx hb dX12_takeNeed_117 (by decide) ?_
                refine lv_iadd hx hb dX12_takeNeed_118 ?_
                refine lv_topi (fun z226 ez226 => ?_)
                have hz226 : z226.toInt = ((V 27 (Int32.toNatClampNeg p0))).toInt + 1 := i_add ez226 rfl (by decide) (by (first | exact om_bb6563b3cba5 n7 r1.1 q27 | omega))
                refine va_iast (D := D) (i := p0) (x := z226) hx hb hK hP hD hS 20 19 rfl rfl (i_in (a := p0.toInt) rfl (by (first | exact om_1e1c00761020 rg_p0.1 rg_p0.2 | omega))) dX12_takeNeed_119 (fun H locs hP hD hS => ?_)
                obtain ⟨V227, hV227⟩ : ∃ z, z = up2 V225 27 (Int32.toNatClampNeg p0) z226 := ⟨_, rfl⟩
                have hP : va_P D vwCl (mw ad kk ks.1 V227 L) H := by rw [hV227]; exact hP
                have hD : va_D A (mw ad kk ks.1 V227 L) := by rw [hV227]; exact hD
                have hMV227 : rgd bM V227 := hMV225.put hV227 (show 0 ≤ z226.toInt ∧ z226.toInt ≤ 8 from by (first | exact om_f3c04a69af63 n7 r1.1 q27 hz226 | omega))
                have agV227 : agr [(0, 7), (0, 8)] [27, 28, 29, 30, 31, 35, 36, 37, 38] V V227 := agV225.up hV227 rfl
                have pq228 : (V227 27 (Int32.toNatClampNeg p0)).toInt = z226.toInt := congrArg Int32.toInt (up2_s hV227)
                have rl229 : RelM V227 L bq gn gT (nx (nx gs 1) 1) gl := RelM.ag rl214 (show agr [] [27, 28, 31] V209 V227 from (agr.up (agr.up (agr.up agr.rf hV221 rfl) hV225 rfl) hV227 rfl)) (by decide) (show agL [] L L from agL.rf) (by decide)
                have kz9 : (Int32.toNatClampNeg z7) = 8 * gc + (V 27 gc).toInt.toNat := by have h9 := i_clamp (x := z7) rfl (by (first | exact om_e418f5795471 rg_p0.1 r1.1 q27 hz5 hz7 | omega)); have h8 : 0 ≤ (V 27 gc).toInt := (hMV 27 gc).1; omega
                have pq230 : (V227 28 (Int32.toNatClampNeg z7)).toInt = z205.toInt := congrArg Int32.toInt ((up2_o hV227 (by decide)).trans ((up2_o hV225 (by decide)).trans (up2_s hV221)))
                have pq231 : (V227 29 (Int32.toNatClampNeg z7)).toInt = ((vp_nar .boolean z9)).toInt := congrArg Int32.toInt ((up2_o hV227 (by decide)).trans ((up2_o hV225 (by decide)).trans ((up2_o hV221 (by decide)).trans ((ajV209 29 (Int32.toNatClampNeg z7) rfl).trans ((up2_o hV203 (by decide)).trans ((ajV189 29 (Int32.toNatClampNeg z7) rfl).trans (up2_s hV178)))))))
                have pq232 : (V227 30 (Int32.toNatClampNeg z7)).toInt = ((vp_nar .boolean 1)).toInt := congrArg Int32.toInt ((up2_o hV227 (by decide)).trans ((up2_o hV225 (by decide)).trans ((up2_o hV221 (by decide)).trans ((ajV209 30 (Int32.toNatClampNeg z7) rfl).trans (up2_s hV203)))))
                have pq233 : (V227 31 (Int32.toNatClampNeg z7)).toInt = (-1) := (congrArg Int32.toInt ((up2_o hV227 (by decide)).trans (up2_s hV225))).trans (by decide)
                have cc234 : (V227 28 (8 * gc + (V 27 gc).toInt.toNat)).toInt = ((fx212 : Nat) : Int) := by rw [← kz9]; omega
                have cc235 : ((V227 29 (8 * gc + (V 27 gc).toInt.toNat)).toInt = 1 ↔ (2 : Int).toNat = 1) := by rw [← kz9]; exact iff_of_false (by omega) (by decide)
                have cc236 : ((V227 30 (8 * gc + (V 27 gc).toInt.toNat)).toInt = 1 ↔ (2 : Int).toNat = 2) := by rw [← kz9]; exact iff_of_true (by omega) (by decide)
                have cc237 : (V227 31 (8 * gc + (V 27 gc).toInt.toNat)).toInt + 1 = ((0 : Nat) : Int) := by rw [← kz9]; omega
                have fr238 : ∀ x k : Nat, 28 ≤ x → x ≤ 31 → k ≠ (8 * gc + (V 27 gc).toInt.toNat) → V227 x k = V x k := fun x k a1 a2 hk => by have z9 : x = 28 ∨ x = 29 ∨ x = 30 ∨ x = 31 := (by omega); rcases z9 with z9 | z9 | z9 | z9; (subst z9; exact ((up2_o hV227 (by decide)).trans ((up2_o hV225 (by decide)).trans ((up2_k hV221 (fun h9 => hk (h9.trans kz9))).trans ((ajV209 28 _ rfl).trans ((up2_o hV203 (by decide)).trans ((ajV189 28 _ rfl).trans ((up2_o hV178 (by decide)).trans ((ajV13 28 _ rfl).trans rfl))))))))); (subst z9; exact ((up2_o hV227 (by decide)).trans ((up2_o hV225 (by decide)).trans ((up2_o hV221 (by decide)).trans ((ajV209 29 _ rfl).trans ((up2_o hV203 (by decide)).trans ((ajV189 29 _ rfl).trans ((up2_k hV178 (fun h9 => hk (h9.trans kz9))).trans ((ajV13 29 _ rfl).trans rfl))))))))); (subst z9; exact ((up2_o hV227 (by decide)).trans ((up2_o hV225 (by decide)).trans ((up2_o hV221 (by decide)).trans ((ajV209 30 _ rfl).trans ((up2_k hV203 (fun h9 => hk (h9.trans kz9))).trans ((ajV189 30 _ rfl).trans ((up2_o hV178 (by decide)).trans ((ajV13 30 _ rfl).trans rfl))))))))); (subst z9; exact ((up2_o hV227 (by decide)).trans ((up2_k hV225 (fun h9 => hk (h9.trans kz9))).trans ((up2_o hV221 (by decide)).trans ((ajV209 31 _ rfl).trans ((up2_o hV203 (by decide)).trans ((ajV189 31 _ rfl).trans ((up2_o hV178 (by decide)).trans ((ajV13 31 _ rfl).trans rfl)))))))))
                have rw239 : RoV 35 bq V V227 := (fun k hk => ((up2_o hV227 (by decide)).trans ((up2_o hV225 (by decide)).trans ((up2_o hV221 (by decide)).trans ((ajV209 35 k rfl).trans ((up2_o hV203 (by decide)).trans ((ajV189 35 k rfl).trans ((up2_o hV178 (by decide)).trans ((ajV13 35 k rfl).trans rfl)))))))))
                have rw240 : RoV 37 bq V V227 := (fun k hk => ((up2_o hV227 (by decide)).trans ((up2_o hV225 (by decide)).trans ((up2_o hV221 (by decide)).trans ((ajV209 37 k rfl).trans ((up2_o hV203 (by decide)).trans ((ajV189 37 k rfl).trans ((up2_o hV178 (by decide)).trans ((ajV13 37 k rfl).trans rfl)))))))))
                have rw241 : RoL 36 20 bq L L := (fun k hk => rfl)
                have rw242 : RoL 38 20 bq L L := (fun k hk => rfl)
                exact W.vret hx hb hr (fun t ht hW => ⟨⟨(V227, L), rfl, ⟨hMV227, agV227, alL, (show (V227 27 gc).toInt = (V 27 gc).toInt + 1 from by rw [← kgc]; omega), (Or.inl ⟨W0 rl229, (nx (nx gs 1) 1), 2, fx212, 0, hr217, rl229, keepS.le (keepS.tr (keepS.tr (keepS.rf : keepS gs 0 gs) (keepS.n1 1)) (keepS.n1 1)) (by decide), (show keepL gs (nx (nx gs 1) 1) from fun j9 h9 => ((show ∀ j9, 5 ≤ j9 → (nx (nx gs 1) 1).2.1 j9 = (nx gs 1).2.1 j9 from fun _ _ => rfl) j9 h9).trans ((show keepL gs (nx gs 1) from fun j9 h9 => ((show ∀ j9, 5 ≤ j9 → (nx gs 1).2.1 j9 = gs.2.1 j9 from fun _ _ => rfl) j9 h9).trans ((show keepL gs gs from fun _ _ => rfl) j9 h9)) j9 h9)), fr238, cc234, cc235, cc236, cc237, (fun k hk => ((up2_k hV227 (fun h9 => hk (h9.trans kgc))).trans ((up2_o hV225 (by decide)).trans ((up2_o hV221 (by decide)).trans ((ajV209 27 _ rfl).trans ((up2_o hV203 (by decide)).trans ((ajV189 27 _ rfl).trans ((up2_o hV178 (by decide)).trans ((ajV13 27 _ rfl).trans rfl)))))))))⟩), rw239, rw240, rw241, rw242⟩, by rw [ht]; exact hP, va_K.moved hW.alike hK, hD⟩, hS.F ht⟩) hS.2.2 dX12_takeNeed_120
              · skip
                have f243 : ((vp_nar .boolean 1)).toInt = 0 := b_eq rfl (by decide) c223
                exfalso; (first | exact om_495ee03a60ae nr222 f243 | omega)
            · skip
              have hb244 : ∀ k, Rc gT (Crun gs (IneedK :: k)) (Cbad (V209 0 8).toInt) := fun k => Rc.go1 (hr196 k) (nd_b h213)
              have r245 : 0 ≤ ((V209 0 8)).toInt ∧ ((V209 0 8)).toInt ≤ 70000 := hMV209 0 8
              refine va_iast (D := D) (i := z7) (x := z205) hx hb hK hP hD hS 21 20 rfl rfl (i_in (a := z7.toInt) rfl (by (first | exact om_b7136b496ad5 rg_p0.1 rg_p0.2 n7 r1.1 q27 hz5 hz7 | omega))) dX12_takeNeed_70 (fun H locs hP hD hS => ?_)
              obtain ⟨V246, hV246⟩ : ∃ z, z = up2 V209 28 (Int32.toNatClampNeg z7) z205 := ⟨_, rfl⟩
              have hP : va_P D vwCl (mw ad kk ks.1 V246 L) H := by rw [hV246]; exact hP
              have hD : va_D A (mw ad kk ks.1 V246 L) := by rw [hV246]; exact hD
              have hMV246 : rgd bM V246 := hMV209.put hV246 (show (-1) ≤ z205.toInt ∧ z205.toInt ≤ 23 from by (first | exact om_b5ea211f5a81 rgz205.1 rgz205.2 | omega))
              have agV246 : agr [(0, 7), (0, 8)] [27, 28, 29, 30, 31, 35, 36, 37, 38] V V246 := agV209.up hV246 rfl
              refine lv_aload_n hx hb dX12_takeNeed_71 rfl (lv_at hl 1 rfl) ?_
              refine va_get (D := D) (ci := 12) (v := .ref (ad 31)) (C := RX12) (T := TX12) (N := 100) hx hb hg inX12 hown hK hP 0 rfl rfl 31 (by decide) (hg _ w1737) (fun _ h9 => h9) rfl dX12_takeNeed_72 ?_
              refine lv_iload_n hx hb dX12_takeNeed_75 rfl (lv_at hl 0 rfl) ?_
              refine lv_aload_n hx hb dX12_takeNeed_76 rfl (lv_at hl 1 rfl) ?_
              refine va_get (D := D) (ci := 12) (v := .ref (ad 30)) (C := RX12) (T := TX12) (N := 100) hx hb hg inX12 hown hK hP 0 rfl rfl 30 (by decide) (hg _ w1736) (fun _ h9 => h9) rfl dX12_takeNeed_77 ?_
              refine lv_iload_n hx hb dX12_takeNeed_80 rfl (lv_at hl 0 rfl) ?_
              refine va_zald (D := D) (i := z7) hx hb hK hP 23 22 rfl rfl (i_in (a := z7.toInt) rfl (by (first | exact om_b7136b496ad5 rg_p0.1 rg_p0.2 n7 r1.1 q27 hz5 hz7 | omega))) dX12_takeNeed_81 ?_
              refine g_top (v := (vp_nar .boolean 1)) ((up2_o hV246 (by decide)).trans ((ajV209 30 (Int32.toNatClampNeg z7) rfl).trans (up2_s hV203))) ?_
              have nr247 : (vp_nar .boolean 1).toInt = 1 := by decide
              refine lv_if_ne (tgt := 108) hx hb dX12_takeNeed_82 (by decide) (fun c248 => ?_) (fun c248 => ?_)
              · skip
                have f249 : ((vp_nar .boolean 1)).toInt ≠ 0 := b_neq rfl (by decide) c248
                refine lv_iconst (v := (-1)) hx hb dX12_takeNeed_108 (by decide) ?_
                refine va_iast (D := D) (i := z7) (x := (-1)) hx hb hK hP hD hS 24 23 rfl rfl (i_in (a := z7.toInt) rfl (by (first | exact om_b7136b496ad5 rg_p0.1 rg_p0.2 n7 r1.1 q27 hz5 hz7 | omega))) dX12_takeNeed_109 (fun H locs hP hD hS => ?_)
                obtain ⟨V250, hV250⟩ : ∃ z, z = up2 V246 31 (Int32.toNatClampNeg z7) (-1) := ⟨_, rfl⟩
                have hP : va_P D vwCl (mw ad kk ks.1 V250 L) H := by rw [hV250]; exact hP
                have hD : va_D A (mw ad kk ks.1 V250 L) := by rw [hV250]; exact hD
                have hMV250 : rgd bM V250 := hMV246.put hV250 (i_full _)
                have agV250 : agr [(0, 7), (0, 8)] [27, 28, 29, 30, 31, 35, 36, 37, 38] V V250 := agV246.up hV250 rfl
                refine lv_aload_n hx hb dX12_takeNeed_110 rfl (lv_at hl 1 rfl) ?_
                refine va_get (D := D) (ci := 12) (v := .ref (ad 27)) (C := RX12) (T := TX12) (N := 100) hx hb hg inX12 hown hK hP 0 rfl rfl 27 (by decide) (hg _ w1733) (fun _ h9 => h9) rfl dX12_takeNeed_111 ?_
                refine lv_iload_n hx hb dX12_takeNeed_114 rfl (lv_at hl 2 rfl) ?_
                refine lv_dup2_11 hx hb dX12_takeNeed_115 rfl rfl ?_
                refine va_iald (D := D) (i := p0) hx hb hK hP 20 19 rfl rfl (i_in (a := p0.toInt) rfl (by (first | exact om_1e1c00761020 rg_p0.1 rg_p0.2 | omega))) dX12_takeNeed_116 ?_
                refine g_top (v := (V 27 (Int32.toNatClampNeg p0))) ((up2_o hV250 (by decide)).trans ((up2_o hV246 (by decide)).trans ((ajV209 27 (Int32.toNatClampNeg p0) rfl).trans ((up2_o hV203 (by decide)).trans ((ajV189 27 (Int32.toNatClampNeg p0) rfl).trans ((up2_o hV178 (by decide)).trans (ajV13 27 (Int32.toNatClampNeg p0) rfl))))))) ?_
                refine lv_iconst (v := 1) hx hb dX12_takeNeed_117 (by decide) ?_
                refine lv_iadd hx hb dX12_takeNeed_118 ?_
                refine lv_topi (fun z251 ez251 => ?_)
                have hz251 : z251.toInt = ((V 27 (Int32.toNatClampNeg p0))).toInt + 1 := i_add ez251 rfl (by decide) (by (first | exact om_bb6563b3cba5 n7 r1.1 q27 | omega))
                refine va_iast (D := D) (i := p0) (x := z251) hx hb hK hP hD hS 20 19 rfl rfl (i_in (a := p0.toInt) rfl (by (first | exact om_1e1c00761020 rg_p0.1 rg_p0.2 | omega))) dX12_takeNeed_119 (fun H locs hP hD hS => ?_)
                obtain ⟨V252, hV252⟩ : ∃ z, z = up2 V250 27 (Int32.toNatClampNeg p0) z251 := ⟨_, rfl⟩
                have hP : va_P D vwCl (mw ad kk ks.1 V252 L) H := by rw [hV252]; exact hP
                have hD : va_D A (mw ad kk ks.1 V252 L) := by rw [hV252]; exact hD
                have hMV252 : rgd bM V252 := hMV250.put hV252 (show 0 ≤ z251.toInt ∧ z251.toInt ≤ 8 from by (first | exact om_f3c04a69af63 n7 r1.1 q27 hz251 | omega))
                have agV252 : agr [(0, 7), (0, 8)] [27, 28, 29, 30, 31, 35, 36, 37, 38] V V252 := agV250.up hV252 rfl
                have pq253 : (V252 27 (Int32.toNatClampNeg p0)).toInt = z251.toInt := congrArg Int32.toInt (up2_s hV252)
                have pq254 : (V252 0 8).toInt = ((V209 0 8)).toInt := congrArg Int32.toInt ((up2_o hV252 (by decide)).trans ((up2_o hV250 (by decide)).trans (up2_o hV246 (by decide))))
                have rw255 : RoV 35 bq V V252 := (fun k hk => ((up2_o hV252 (by decide)).trans ((up2_o hV250 (by decide)).trans ((up2_o hV246 (by decide)).trans ((ajV209 35 k rfl).trans ((up2_o hV203 (by decide)).trans ((ajV189 35 k rfl).trans ((up2_o hV178 (by decide)).trans ((ajV13 35 k rfl).trans rfl)))))))))
                have rw256 : RoV 37 bq V V252 := (fun k hk => ((up2_o hV252 (by decide)).trans ((up2_o hV250 (by decide)).trans ((up2_o hV246 (by decide)).trans ((ajV209 37 k rfl).trans ((up2_o hV203 (by decide)).trans ((ajV189 37 k rfl).trans ((up2_o hV178 (by decide)).trans ((ajV13 37 k rfl).trans rfl)))))))))
                have rw257 : RoL 36 20 bq L L := (fun k hk => rfl)
                have rw258 : RoL 38 20 bq L L := (fun k hk => rfl)
                exact W.vret hx hb hr (fun t ht hW => ⟨⟨(V252, L), rfl, ⟨hMV252, agV252, alL, (show (V252 27 gc).toInt = (V 27 gc).toInt + 1 from by rw [← kgc]; omega), (Or.inr ⟨(show 1 ≤ (V252 0 8).toInt from by omega), (fun k => by rw [show (V252 0 8).toInt = (V209 0 8).toInt from by omega]; exact hb244 k)⟩), rw255, rw256, rw257, rw258⟩, by rw [ht]; exact hP, va_K.moved hW.alike hK, hD⟩, hS.F ht⟩) hS.2.2 dX12_takeNeed_120
              · skip
                have f259 : ((vp_nar .boolean 1)).toInt = 0 := b_eq rfl (by decide) c248
                exfalso; (first | exact om_495ee03a60ae nr247 f259 | omega)
        · skip
          have kd260 : gT.1 (gs.1 0) ≠ 139 := fun h9 => h192 (h9.trans (by decide))
          have fz261 := RelM.rg rl193
          have pq262 : (V189 0 8).toInt = ((V 0 8)).toInt := congrArg Int32.toInt ((ajV189 0 8 rfl).trans ((up2_o hV178 (by decide)).trans (ajV13 0 8 rfl)))
          refine lv_if_eq (tgt := 59) hx hb dX12_takeNeed_52 (by decide) (fun c263 => ?_) (fun c263 => ?_)
          · skip
            have f264 : z185.toInt = 0 := b_eq rfl (by decide) c263
            refine lv_iconst (v := 0) hx hb dX12_takeNeed_59 (by decide) ?_
            refine va_zast (D := D) (i := z7) (x := 0) hx hb hK hP hD hS 23 22 rfl rfl (i_in (a := z7.toInt) rfl (by (first | exact om_b7136b496ad5 rg_p0.1 rg_p0.2 n7 r1.1 q27 hz5 hz7 | omega))) dX12_takeNeed_60 (fun H locs hP hD hS => ?_)
            obtain ⟨V265, hV265⟩ : ∃ z, z = up2 V189 30 (Int32.toNatClampNeg z7) (vp_nar .boolean 0) := ⟨_, rfl⟩
            have hP : va_P D vwCl (mw ad kk ks.1 V265 L) H := by rw [hV265]; exact hP
            have hD : va_D A (mw ad kk ks.1 V265 L) := by rw [hV265]; exact hD
            have hMV265 : rgd bM V265 := hMV189.put hV265 (nar_b _)
            have agV265 : agr [(0, 7), (0, 8)] [27, 28, 29, 30, 31, 35, 36, 37, 38] V V265 := agV189.up hV265 rfl
            refine lv_aload_n hx hb dX12_takeNeed_61 rfl (lv_at hl 1 rfl) ?_
            refine va_get (D := D) (ci := 12) (v := .ref (ad 28)) (C := RX12) (T := TX12) (N := 100) hx hb hg inX12 hown hK hP 0 rfl rfl 28 (by decide) (hg _ w1734) (fun _ h9 => h9) rfl dX12_takeNeed_62 ?_
            refine lv_iload_n hx hb dX12_takeNeed_65 rfl (lv_at hl 0 rfl) ?_
            refine lv_aload_n hx hb dX12_takeNeed_66 rfl (lv_at hl 1 rfl) ?_
            have rl266 : RelM V265 L bq gn gT gs gl := RelM.ag rl193 (show agr [] [30] V189 V265 from (agr.up agr.rf hV265 rfl)) (by decide) (show agL [] L L from agL.rf) (by decide)
            have hr267 : ∀ k, Rc gT (Crun gs (IneedK :: k)) (Crun gs (IneedK :: k)) := fun k => Rc.rf
            have hr268 : ∀ k, Rc gT (Crun gs (IneedK :: k)) (Crun gs (IneedT 0 :: k)) := fun k => Rc.go1 (hr267 k) (needK_n kd175 kd260)
            refine gA_int (gA_runV (As := []) (rest := [.int z7, .ref (ad 28)]) (ci := 12) (q0 := 0) hx hb hml hown hg hP hD hK hS hA hnw hgk (s_takeTypeA l D ks H.size ad kk V265 L (bq) (gn) (gT) (gs) (gl) hMV265 rl266) w2059 w2061 w92 w172 w2062 rfl rfl hdV_yX12_takeType ⟨Nat.le_of_ble_eq_true rfl, Nat.le_of_ble_eq_true rfl⟩ rfl hl.1 rfl (Nat.le_of_ble_eq_true rfl) dX12_takeNeed_67 ⟨Nat.le_of_ble_eq_true rfl, Nat.le_of_ble_eq_true rfl⟩) hP hD hK hS hA (fun z269 u270 H locs w271 hP hD hK hS => ?_)
            obtain ⟨V273, L274⟩ := u270
            obtain ⟨hMV273, ajV273, axL274, rgz269, t272⟩ := w271
            have axL274 : L = L274 := Eq.symm axL274
            subst axL274
            replace hP : va_P D vwCl (mw ad kk ks.1 V273 L) H := hP
            replace hD : va_D A (mw ad kk ks.1 V273 L) := hD
            replace hMV273 : rgd bM V273 := hMV273
            replace ajV273 : agr [(0, 7), (0, 8)] [] V265 V273 := ajV273
            have agV273 : agr [(0, 7), (0, 8)] [27, 28, 29, 30, 31, 35, 36, 37, 38] V V273 := agV265.tr ajV273 (by decide) (by decide)
            replace rgz269 : (-1) ≤ z269.toInt ∧ z269.toInt ≤ 23 := rgz269
            replace t272 : KmN (look (gT) (gs) ((gs).2.1 0)) (V273 0 8).toInt (fun f9 => RelM V273 L (bq) (gn) (gT) (nx (gs) 1) (gl) ∧ z269.toInt = ((f9 : Nat) : Int) ∧ f9 < 24) := t272
            rcases t272 with ⟨q275, fx276, h277, rl278, hf279, hb280⟩ | ⟨q275, h277⟩
            · skip
              have hr281 : ∀ k, Rc gT (Crun gs (IneedK :: k)) (Crun (nx gs 1) (Icalled 0 fx276 :: k)) := fun k => Rc.go1 (hr268 k) (nd_0 h277)
              have ps282 : (nx gs 1).1 0 = gs.1 0 + 1 := rfl
              have fz283 := RelM.rg rl278
              have r284 : 0 ≤ ((V273 0 8)).toInt ∧ ((V273 0 8)).toInt ≤ 70000 := hMV273 0 8
              refine va_iast (D := D) (i := z7) (x := z269) hx hb hK hP hD hS 21 20 rfl rfl (i_in (a := z7.toInt) rfl (by (first | exact om_b7136b496ad5 rg_p0.1 rg_p0.2 n7 r1.1 q27 hz5 hz7 | omega))) dX12_takeNeed_70 (fun H locs hP hD hS => ?_)
              obtain ⟨V285, hV285⟩ : ∃ z, z = up2 V273 28 (Int32.toNatClampNeg z7) z269 := ⟨_, rfl⟩
              have hP : va_P D vwCl (mw ad kk ks.1 V285 L) H := by rw [hV285]; exact hP
              have hD : va_D A (mw ad kk ks.1 V285 L) := by rw [hV285]; exact hD
              have hMV285 : rgd bM V285 := hMV273.put hV285 (show (-1) ≤ z269.toInt ∧ z269.toInt ≤ 23 from by (first | exact om_b5ea211f5a81 rgz269.1 rgz269.2 | omega))
              have agV285 : agr [(0, 7), (0, 8)] [27, 28, 29, 30, 31, 35, 36, 37, 38] V V285 := agV273.up hV285 rfl
              refine lv_aload_n hx hb dX12_takeNeed_71 rfl (lv_at hl 1 rfl) ?_
              refine va_get (D := D) (ci := 12) (v := .ref (ad 31)) (C := RX12) (T := TX12) (N := 100) hx hb hg inX12 hown hK hP 0 rfl rfl 31 (by decide) (hg _ w1737) (fun _ h9 => h9) rfl dX12_takeNeed_72 ?_
              refine lv_iload_n hx hb dX12_takeNeed_75 rfl (lv_at hl 0 rfl) ?_
              refine lv_aload_n hx hb dX12_takeNeed_76 rfl (lv_at hl 1 rfl) ?_
              refine va_get (D := D) (ci := 12) (v := .ref (ad 30)) (C := RX12) (T := TX12) (N := 100) hx hb hg inX12 hown hK hP 0 rfl rfl 30 (by decide) (hg _ w1736) (fun _ h9 => h9) rfl dX12_takeNeed_77 ?_
              refine lv_iload_n hx hb dX12_takeNeed_80 rfl (lv_at hl 0 rfl) ?_
              refine va_zald (D := D) (i := z7) hx hb hK hP 23 22 rfl rfl (i_in (a := z7.toInt) rfl (by (first | exact om_b7136b496ad5 rg_p0.1 rg_p0.2 n7 r1.1 q27 hz5 hz7 | omega))) dX12_takeNeed_81 ?_
              refine g_top (v := (vp_nar .boolean 0)) ((up2_o hV285 (by decide)).trans ((ajV273 30 (Int32.toNatClampNeg z7) rfl).trans (up2_s hV265))) ?_
              have nr286 : (vp_nar .boolean 0).toInt = 0 := by decide
              refine lv_if_ne (tgt := 108) hx hb dX12_takeNeed_82 (by decide) (fun c287 => ?_) (fun c287 => ?_)
              · skip
                have f288 : ((vp_nar .boolean 0)).toInt ≠ 0 := b_neq rfl (by decide) c287
                exfalso; (first | exact om_0b51723c7ef6 nr286 f288 | omega)
              · skip
                have f289 : ((vp_nar .boolean 0)).toInt = 0 := b_eq rfl (by decide) c287
                refine lv_aload_n hx hb dX12_takeNeed_85 rfl (lv_at hl 1 rfl) ?_
                refine lv_iconst (v := 5) hx hb dX12_takeNeed_86 (by decide) ?_
                have rl290 : RelM V285 L bq gn gT (nx gs 1) gl := RelM.ag rl278 (show agr [] [28] V273 V285 from (agr.up agr.rf hV285 rfl)) (by decide) (show agL [] L L from agL.rf) (by decide)
                have r291 : Int32.toInt 5 = 5 := by decide
                refine gA_int (gA_runV (As := [.int 5]) (rest := [.int z7, .ref (ad 31)]) (ci := 12) (q0 := 0) hx hb hml hown hg hP hD hK hS hA hnw hgk (s_hasWordA l D ks H.size ad kk V285 L 5 (bq) (gn) (gT) ((nx gs 1)) (gl) hMV285 (by decide) rl290) w2051 w2053 w90 w172 w2054 rfl rfl hdV_yX12_hasWord ⟨Nat.le_of_ble_eq_true rfl, Nat.le_of_ble_eq_true rfl⟩ rfl hl.1 rfl (Nat.le_of_ble_eq_true rfl) dX12_takeNeed_87 ⟨Nat.le_of_ble_eq_true rfl, Nat.le_of_ble_eq_true rfl⟩) hP hD hK hS hA (fun z292 u293 H locs w294 hP hD hK hS => ?_)
                obtain ⟨V296, L297⟩ := u293
                obtain ⟨hMV296, ajV296, axL297, rgz292, t295⟩ := w294
                have axL297 : L = L297 := Eq.symm axL297
                subst axL297
                replace hP : va_P D vwCl (mw ad kk ks.1 V296 L) H := hP
                replace hD : va_D A (mw ad kk ks.1 V296 L) := hD
                replace hMV296 : rgd bM V296 := hMV296
                replace ajV296 : agr [(0, 7)] [] V285 V296 := ajV296
                have agV296 : agr [(0, 7), (0, 8)] [27, 28, 29, 30, 31, 35, 36, 37, 38] V V296 := agV285.tr ajV296 (by decide) (by decide)
                replace rgz292 : 0 ≤ z292.toInt ∧ z292.toInt ≤ 1 := rgz292
                replace t295 : (z292.toInt = 1 ∧ (gT).1 (((nx gs 1)).1 0) = 128 + (Int32.toInt 5) ∧ RelM V296 L (bq) (gn) (gT) (nx ((nx gs 1)) 1) (gl)) ∨ (z292.toInt = 0 ∧ (gT).1 (((nx gs 1)).1 0) ≠ 128 + (Int32.toInt 5) ∧ RelM V296 L (bq) (gn) (gT) ((nx gs 1)) (gl)) := t295
                rcases t295 with ⟨q298, h299, rl300⟩ | ⟨q298, h299, rl300⟩
                · skip
                  have kd301 : gT.1 ((nx gs 1).1 0) = 133 := h299.trans (by decide)
                  have hr302 : ∀ k, Rc gT (Crun gs (IneedK :: k)) (Crun (nx (nx gs 1) 1) (Iword 0 fx276 :: k)) := fun k => Rc.go1 (hr281 k) (called_y 0 fx276 kd301)
                  have ps303 : (nx (nx gs 1) 1).1 0 = (nx gs 1).1 0 + 1 := rfl
                  have fz304 := RelM.rg rl300
                  have pq305 : (V296 0 8).toInt = ((V273 0 8)).toInt := congrArg Int32.toInt ((ajV296 0 8 rfl).trans (up2_o hV285 (by decide)))
                  refine lv_if_eq (tgt := 108) hx hb dX12_takeNeed_90 (by decide) (fun c306 => ?_) (fun c306 => ?_)
                  · skip
                    have f307 : z292.toInt = 0 := b_eq rfl (by decide) c306
                    exfalso; (first | exact om_495ee03a60ae q298 f307 | omega)
                  · skip
                    have f308 : z292.toInt ≠ 0 := b_neq rfl (by decide) c306
                    refine lv_aload_n hx hb dX12_takeNeed_93 rfl (lv_at hl 1 rfl) ?_
                    refine lv_aload_n hx hb dX12_takeNeed_94 rfl (lv_at hl 1 rfl) ?_
                    refine va_get (D := D) (ci := 12) (v := .ref (ad 38)) (C := RX12) (T := TX12) (N := 100) hx hb hg inX12 hown hK hP 0 rfl rfl 38 (by decide) (hg _ w1744) (fun _ h9 => h9) rfl dX12_takeNeed_95 ?_
                    refine lv_aload_n hx hb dX12_takeNeed_98 rfl (lv_at hl 1 rfl) ?_
                    refine va_get (D := D) (ci := 12) (v := .ref (ad 37)) (C := RX12) (T := TX12) (N := 100) hx hb hg inX12 hown hK hP 0 rfl rfl 37 (by decide) (hg _ w1743) (fun _ h9 => h9) rfl dX12_takeNeed_99 ?_
                    refine gA_int (gA_runV (As := [.ref (ad 38), .ref (ad 37)]) (rest := [.int z7, .ref (ad 31)]) (ci := 12) (q0 := 0) hx hb hml hown hg hP hD hK hS hA hnw hgk (s_takeWordOf4 l D ks H.size ad kk V296 L (bq) (gn) (gT) ((nx (nx gs 1) 1)) (gl) hMV296 rl300) w2100 w2102 w102 w172 w2103 rfl rfl hdV_yX12_takeWordOf ⟨Nat.le_of_ble_eq_true rfl, Nat.le_of_ble_eq_true rfl⟩ rfl hl.1 rfl (Nat.le_of_ble_eq_true rfl) dX12_takeNeed_102 ⟨Nat.le_of_ble_eq_true rfl, Nat.le_of_ble_eq_true rfl⟩) hP hD hK hS hA (fun z309 u310 H locs w311 hP hD hK hS => ?_)
                    obtain ⟨V317, L318⟩ := u310
                    obtain ⟨hMV317, ajV317, axL318, rgz309, t312, t313, t314, t315, t316⟩ := w311
                    have alL318 : agL [27, 28, 29, 30, 31, 35, 36, 37, 38] L L318 := agL.tr alL axL318 (by decide)
                    replace hP : va_P D vwCl (mw ad kk ks.1 V317 L318) H := hP
                    replace hD : va_D A (mw ad kk ks.1 V317 L318) := hD
                    replace hMV317 : rgd bM V317 := hMV317
                    replace ajV317 : agr [(0, 7), (0, 8)] [35, 36, 37, 38] V296 V317 := ajV317
                    have agV317 : agr [(0, 7), (0, 8)] [27, 28, 29, 30, 31, 35, 36, 37, 38] V V317 := agV296.tr ajV317 (by decide) (by decide)
                    replace rgz309 : (-1) ≤ z309.toInt ∧ z309.toInt ≤ 19 := rgz309
                    replace t312 : KmS (mthW (gT) ((nx (nx gs 1) 1)) 4) (V317 0 8).toInt (fun x9 => RelM V317 L318 (bq) (gn) (gT) x9.2 (gl) ∧ z309.toInt = ((x9.1 : Nat) : Int) ∧ x9.1 < 20 ∧ keepS ((nx (nx gs 1) 1)) 1 x9.2 ∧ MTX (gT) ((nx (nx gs 1) 1)) 4 x9) := t312
                    replace t313 : RoV 35 (bq) V296 V317 := t313
                    replace t314 : RoV 37 (bq) V296 V317 := t314
                    replace t315 : RoL 36 20 (bq) L L318 := t315
                    replace t316 : RoL 38 20 (bq) L L318 := t316
                    rcases t312 with ⟨q319, mx320, h321, rl322, hf323, hb324, kp325, mt326⟩ | ⟨q319, h321⟩
                    · skip
                      have ps327 := kp325.1
                      have hr328 : ∀ k, Rc gT (Crun gs (IneedK :: k)) (Crun mx320.2 (Itake 59 :: IaddNeed 0 fx276 (mx320.1 + 1) :: Imember :: k)) := fun k => Rc.go1 (hr302 k) (wo_y h321)
                      have fz329 := RelM.rg rl322
                      have r330 : 0 ≤ ((V317 0 8)).toInt ∧ ((V317 0 8)).toInt ≤ 70000 := hMV317 0 8
                      refine lv_goto (tgt := 109) hx hb dX12_takeNeed_105 (by decide) ?_
                      refine va_iast (D := D) (i := z7) (x := z309) hx hb hK hP hD hS 24 23 rfl rfl (i_in (a := z7.toInt) rfl (by (first | exact om_b7136b496ad5 rg_p0.1 rg_p0.2 n7 r1.1 q27 hz5 hz7 | omega))) dX12_takeNeed_109 (fun H locs hP hD hS => ?_)
                      obtain ⟨V331, hV331⟩ : ∃ z, z = up2 V317 31 (Int32.toNatClampNeg z7) z309 := ⟨_, rfl⟩
                      have hP : va_P D vwCl (mw ad kk ks.1 V331 L318) H := by rw [hV331]; exact hP
                      have hD : va_D A (mw ad kk ks.1 V331 L318) := by rw [hV331]; exact hD
                      have hMV331 : rgd bM V331 := hMV317.put hV331 (i_full _)
                      have agV331 : agr [(0, 7), (0, 8)] [27, 28, 29, 30, 31, 35, 36, 37, 38] V V331 := agV317.up hV331 rfl
                      refine lv_aload_n hx hb dX12_takeNeed_110 rfl (lv_at hl 1 rfl) ?_
                      refine va_get (D := D) (ci := 12) (v := .ref (ad 27)) (C := RX12) (T := TX12) (N := 100) hx hb hg inX12 hown hK hP 0 rfl rfl 27 (by decide) (hg _ w1733) (fun _ h9 => h9) rfl dX12_takeNeed_111 ?_
                      refine lv_iload_n hx hb dX12_takeNeed_114 rfl (lv_at hl 2 rfl) ?_
                      refine lv_dup2_11 hx hb dX12_takeNeed_115 rfl rfl ?_
                      refine va_iald (D := D) (i := p0) hx hb hK hP 20 19 rfl rfl (i_in (a := p0.toInt) rfl (by (first | exact om_1e1c00761020 rg_p0.1 rg_p0.2 | omega))) dX12_takeNeed_116 ?_
                      refine g_top (v := (V 27 (Int32.toNatClampNeg p0))) ((up2_o hV331 (by decide)).trans ((ajV317 27 (Int32.toNatClampNeg p0) rfl).trans ((ajV296 27 (Int32.toNatClampNeg p0) rfl).trans ((up2_o hV285 (by decide)).trans ((ajV273 27 (Int32.toNatClampNeg p0) rfl).trans ((up2_o hV265 (by decide)).trans ((ajV189 27 (Int32.toNatClampNeg p0) rfl).trans ((up2_o hV178 (by decide)).trans (ajV13 27 (Int32.toNatClampNeg p0) rfl))))))))) ?_
                      refine lv_iconst (v := 1) hx hb dX12_takeNeed_117 (by decide) ?_
                      refine lv_iadd hx hb dX12_takeNeed_118 ?_
                      refine lv_topi (fun z332 ez332 => ?_)
                      have hz332 : z332.toInt = ((V 27 (Int32.toNatClampNeg p0))).toInt + 1 := i_add ez332 rfl (by decide) (by (first | exact om_bb6563b3cba5 n7 r1.1 q27 | omega))
                      refine va_iast (D := D) (i := p0) (x := z332) hx hb hK hP hD hS 20 19 rfl rfl (i_in (a := p0.toInt) rfl (by (first | exact om_1e1c00761020 rg_p0.1 rg_p0.2 | omega))) dX12_takeNeed_119 (fun H locs hP hD hS => ?_)
                      obtain ⟨V333, hV333⟩ : ∃ z, z = up2 V331 27 (Int32.toNatClampNeg p0) z332 := ⟨_, rfl⟩
                      have hP : va_P D vwCl (mw ad kk ks.1 V333 L318) H := by rw [hV333]; exact hP
                      have hD : va_D A (mw ad kk ks.1 V333 L318) := by rw [hV333]; exact hD
                      have hMV333 : rgd bM V333 := hMV331.put hV333 (show 0 ≤ z332.toInt ∧ z332.toInt ≤ 8 from by (first | exact om_f3c04a69af63 n7 r1.1 q27 hz332 | omega))
                      have agV333 : agr [(0, 7), (0, 8)] [27, 28, 29, 30, 31, 35, 36, 37, 38] V V333 := agV331.up hV333 rfl
                      have pq334 : (V333 27 (Int32.toNatClampNeg p0)).toInt = z332.toInt := congrArg Int32.toInt (up2_s hV333)
                      have rl335 : RelM V333 L318 bq gn gT mx320.2 gl := RelM.ag rl322 (show agr [] [27, 31] V317 V333 from (agr.up (agr.up agr.rf hV331 rfl) hV333 rfl)) (by decide) (show agL [] L318 L318 from agL.rf) (by decide)
                      have kz9 : (Int32.toNatClampNeg z7) = 8 * gc + (V 27 gc).toInt.toNat := by have h9 := i_clamp (x := z7) rfl (by (first | exact om_e418f5795471 rg_p0.1 r1.1 q27 hz5 hz7 | omega)); have h8 : 0 ≤ (V 27 gc).toInt := (hMV 27 gc).1; omega
                      have pq336 : (V333 28 (Int32.toNatClampNeg z7)).toInt = z269.toInt := congrArg Int32.toInt ((up2_o hV333 (by decide)).trans ((up2_o hV331 (by decide)).trans ((ajV317 28 (Int32.toNatClampNeg z7) rfl).trans ((ajV296 28 (Int32.toNatClampNeg z7) rfl).trans (up2_s hV285)))))
                      have pq337 : (V333 29 (Int32.toNatClampNeg z7)).toInt = ((vp_nar .boolean z9)).toInt := congrArg Int32.toInt ((up2_o hV333 (by decide)).trans ((up2_o hV331 (by decide)).trans ((ajV317 29 (Int32.toNatClampNeg z7) rfl).trans ((ajV296 29 (Int32.toNatClampNeg z7) rfl).trans ((up2_o hV285 (by decide)).trans ((ajV273 29 (Int32.toNatClampNeg z7) rfl).trans ((up2_o hV265 (by decide)).trans ((ajV189 29 (Int32.toNatClampNeg z7) rfl).trans (up2_s hV178)))))))))
                      have pq338 : (V333 30 (Int32.toNatClampNeg z7)).toInt = ((vp_nar .boolean 0)).toInt := congrArg Int32.toInt ((up2_o hV333 (by decide)).trans ((up2_o hV331 (by decide)).trans ((ajV317 30 (Int32.toNatClampNeg z7) rfl).trans ((ajV296 30 (Int32.toNatClampNeg z7) rfl).trans ((up2_o hV285 (by decide)).trans ((ajV273 30 (Int32.toNatClampNeg z7) rfl).trans (up2_s hV265)))))))
                      have pq339 : (V333 31 (Int32.toNatClampNeg z7)).toInt = z309.toInt := congrArg Int32.toInt ((up2_o hV333 (by decide)).trans (up2_s hV331))
                      have cc340 : (V333 28 (8 * gc + (V 27 gc).toInt.toNat)).toInt = ((fx276 : Nat) : Int) := by rw [← kz9]; omega
                      have cc341 : ((V333 29 (8 * gc + (V 27 gc).toInt.toNat)).toInt = 1 ↔ (0 : Int).toNat = 1) := by rw [← kz9]; exact iff_of_false (by omega) (by decide)
                      have cc342 : ((V333 30 (8 * gc + (V 27 gc).toInt.toNat)).toInt = 1 ↔ (0 : Int).toNat = 2) := by rw [← kz9]; exact iff_of_false (by omega) (by decide)
                      have cc343 : (V333 31 (8 * gc + (V 27 gc).toInt.toNat)).toInt + 1 = (((mx320.1 + 1) : Nat) : Int) := by rw [← kz9]; omega
                      have fr344 : ∀ x k : Nat, 28 ≤ x → x ≤ 31 → k ≠ (8 * gc + (V 27 gc).toInt.toNat) → V333 x k = V x k := fun x k a1 a2 hk => by have z9 : x = 28 ∨ x = 29 ∨ x = 30 ∨ x = 31 := (by omega); rcases z9 with z9 | z9 | z9 | z9; (subst z9; exact ((up2_o hV333 (by decide)).trans ((up2_o hV331 (by decide)).trans ((ajV317 28 _ rfl).trans ((ajV296 28 _ rfl).trans ((up2_k hV285 (fun h9 => hk (h9.trans kz9))).trans ((ajV273 28 _ rfl).trans ((up2_o hV265 (by decide)).trans ((ajV189 28 _ rfl).trans ((up2_o hV178 (by decide)).trans ((ajV13 28 _ rfl).trans rfl))))))))))); (subst z9; exact ((up2_o hV333 (by decide)).trans ((up2_o hV331 (by decide)).trans ((ajV317 29 _ rfl).trans ((ajV296 29 _ rfl).trans ((up2_o hV285 (by decide)).trans ((ajV273 29 _ rfl).trans ((up2_o hV265 (by decide)).trans ((ajV189 29 _ rfl).trans ((up2_k hV178 (fun h9 => hk (h9.trans kz9))).trans ((ajV13 29 _ rfl).trans rfl))))))))))); (subst z9; exact ((up2_o hV333 (by decide)).trans ((up2_o hV331 (by decide)).trans ((ajV317 30 _ rfl).trans ((ajV296 30 _ rfl).trans ((up2_o hV285 (by decide)).trans ((ajV273 30 _ rfl).trans ((up2_k hV265 (fun h9 => hk (h9.trans kz9))).trans ((ajV189 30 _ rfl).trans ((up2_o hV178 (by decide)).trans ((ajV13 30 _ rfl).trans rfl))))))))))); (subst z9; exact ((up2_o hV333 (by decide)).trans ((up2_k hV331 (fun h9 => hk (h9.trans kz9))).trans ((ajV317 31 _ rfl).trans ((ajV296 31 _ rfl).trans ((up2_o hV285 (by decide)).trans ((ajV273 31 _ rfl).trans ((up2_o hV265 (by decide)).trans ((ajV189 31 _ rfl).trans ((up2_o hV178 (by decide)).trans ((ajV13 31 _ rfl).trans rfl)))))))))))
                      have rw345 : RoV 35 bq V V333 := (fun k hk => ((up2_o hV333 (by decide)).trans ((up2_o hV331 (by decide)).trans ((t313 k hk).trans ((ajV296 35 k rfl).trans ((up2_o hV285 (by decide)).trans ((ajV273 35 k rfl).trans ((up2_o hV265 (by decide)).trans ((ajV189 35 k rfl).trans ((up2_o hV178 (by decide)).trans ((ajV13 35 k rfl).trans rfl)))))))))))
                      have rw346 : RoV 37 bq V V333 := (fun k hk => ((up2_o hV333 (by decide)).trans ((up2_o hV331 (by decide)).trans ((t314 k hk).trans ((ajV296 37 k rfl).trans ((up2_o hV285 (by decide)).trans ((ajV273 37 k rfl).trans ((up2_o hV265 (by decide)).trans ((ajV189 37 k rfl).trans ((up2_o hV178 (by decide)).trans ((ajV13 37 k rfl).trans rfl)))))))))))
                      have rw347 : RoL 36 20 bq L L318 := (fun k hk => ((t315 k hk).trans rfl))
                      have rw348 : RoL 38 20 bq L L318 := (fun k hk => ((t316 k hk).trans rfl))
                      exact W.vret hx hb hr (fun t ht hW => ⟨⟨(V333, L318), rfl, ⟨hMV333, agV333, alL318, (show (V333 27 gc).toInt = (V 27 gc).toInt + 1 from by rw [← kgc]; omega), (Or.inl ⟨W0 rl335, mx320.2, 0, fx276, (mx320.1 + 1), hr328, rl335, keepS.le (keepS.tr (keepS.tr (keepS.tr (keepS.rf : keepS gs 0 gs) (keepS.n1 1)) (keepS.n1 1)) kp325) (by decide), (show keepL gs mx320.2 from fun j9 h9 => ((show ∀ j9, 5 ≤ j9 → mx320.2.2.1 j9 = (nx (nx gs 1) 1).2.1 j9 from (mth_e (j0 := 4) (by decide) h321)) j9 h9).trans ((show keepL gs (nx (nx gs 1) 1) from fun j9 h9 => ((show ∀ j9, 5 ≤ j9 → (nx (nx gs 1) 1).2.1 j9 = (nx gs 1).2.1 j9 from fun _ _ => rfl) j9 h9).trans ((show keepL gs (nx gs 1) from fun j9 h9 => ((show ∀ j9, 5 ≤ j9 → (nx gs 1).2.1 j9 = gs.2.1 j9 from fun _ _ => rfl) j9 h9).trans ((show keepL gs gs from fun _ _ => rfl) j9 h9)) j9 h9)) j9 h9)), fr344, cc340, cc341, cc342, cc343, (fun k hk => ((up2_k hV333 (fun h9 => hk (h9.trans kgc))).trans ((up2_o hV331 (by decide)).trans ((ajV317 27 _ rfl).trans ((ajV296 27 _ rfl).trans ((up2_o hV285 (by decide)).trans ((ajV273 27 _ rfl).trans ((up2_o hV265 (by decide)).trans ((ajV189 27 _ rfl).trans ((up2_o hV178 (by decide)).trans ((ajV13 27 _ rfl).trans rfl)))))))))))⟩), rw345, rw346, rw347, rw348⟩, by rw [ht]; exact hP, va_K.moved hW.alike hK, hD⟩, hS.F ht⟩) hS.2.2 dX12_takeNeed_120
                    · skip
                      have hb349 : ∀ k, Rc gT (Crun gs (IneedK :: k)) (Cbad (V317 0 8).toInt) := fun k => Rc.go1 (hr302 k) (wo_b h321)
                      have r350 : 0 ≤ ((V317 0 8)).toInt ∧ ((V317 0 8)).toInt ≤ 70000 := hMV317 0 8
                      refine lv_goto (tgt := 109) hx hb dX12_takeNeed_105 (by decide) ?_
                      refine va_iast (D := D) (i := z7) (x := z309) hx hb hK hP hD hS 24 23 rfl rfl (i_in (a := z7.toInt) rfl (by (first | exact om_b7136b496ad5 rg_p0.1 rg_p0.2 n7 r1.1 q27 hz5 hz7 | omega))) dX12_takeNeed_109 (fun H locs hP hD hS => ?_)
                      obtain ⟨V351, hV351⟩ : ∃ z, z = up2 V317 31 (Int32.toNatClampNeg z7) z309 := ⟨_, rfl⟩
                      have hP : va_P D vwCl (mw ad kk ks.1 V351 L318) H := by rw [hV351]; exact hP
                      have hD : va_D A (mw ad kk ks.1 V351 L318) := by rw [hV351]; exact hD
                      have hMV351 : rgd bM V351 := hMV317.put hV351 (i_full _)
                      have agV351 : agr [(0, 7), (0, 8)] [27, 28, 29, 30, 31, 35, 36, 37, 38] V V351 := agV317.up hV351 rfl
                      refine lv_aload_n hx hb dX12_takeNeed_110 rfl (lv_at hl 1 rfl) ?_
                      refine va_get (D := D) (ci := 12) (v := .ref (ad 27)) (C := RX12) (T := TX12) (N := 100) hx hb hg inX12 hown hK hP 0 rfl rfl 27 (by decide) (hg _ w1733) (fun _ h9 => h9) rfl dX12_takeNeed_111 ?_
                      refine lv_iload_n hx hb dX12_takeNeed_114 rfl (lv_at hl 2 rfl) ?_
                      refine lv_dup2_11 hx hb dX12_takeNeed_115 rfl rfl ?_
                      refine va_iald (D := D) (i := p0) hx hb hK hP 20 19 rfl rfl (i_in (a := p0.toInt) rfl (by (first | exact om_1e1c00761020 rg_p0.1 rg_p0.2 | omega))) dX12_takeNeed_116 ?_
                      refine g_top (v := (V 27 (Int32.toNatClampNeg p0))) ((up2_o hV351 (by decide)).trans ((ajV317 27 (Int32.toNatClampNeg p0) rfl).trans ((ajV296 27 (Int32.toNatClampNeg p0) rfl).trans ((up2_o hV285 (by decide)).trans ((ajV273 27 (Int32.toNatClampNeg p0) rfl).trans ((up2_o hV265 (by decide)).trans ((ajV189 27 (Int32.toNatClampNeg p0) rfl).trans ((up2_o hV178 (by decide)).trans (ajV13 27 (Int32.toNatClampNeg p0) rfl))))))))) ?_
                      refine lv_iconst (v := 1) hx hb dX12_takeNeed_117 (by decide) ?_
                      refine lv_iadd hx hb dX12_takeNeed_118 ?_
                      refine lv_topi (fun z352 ez352 => ?_)
                      have hz352 : z352.toInt = ((V 27 (Int32.toNatClampNeg p0))).toInt + 1 := i_add ez352 rfl (by decide) (by (first | exact om_bb6563b3cba5 n7 r1.1 q27 | omega))
                      refine va_iast (D := D) (i := p0) (x := z352) hx hb hK hP hD hS 20 19 rfl rfl (i_in (a := p0.toInt) rfl (by (first | exact om_1e1c00761020 rg_p0.1 rg_p0.2 | omega))) dX12_takeNeed_119 (fun H locs hP hD hS => ?_)
                      obtain ⟨V353, hV353⟩ : ∃ z, z = up2 V351 27 (Int32.toNatClampNeg p0) z352 := ⟨_, rfl⟩
                      have hP : va_P D vwCl (mw ad kk ks.1 V353 L318) H := by rw [hV353]; exact hP
                      have hD : va_D A (mw ad kk ks.1 V353 L318) := by rw [hV353]; exact hD
                      have hMV353 : rgd bM V353 := hMV351.put hV353 (show 0 ≤ z352.toInt ∧ z352.toInt ≤ 8 from by (first | exact om_f3c04a69af63 n7 r1.1 q27 hz352 | omega))
                      have agV353 : agr [(0, 7), (0, 8)] [27, 28, 29, 30, 31, 35, 36, 37, 38] V V353 := agV351.up hV353 rfl
                      have pq354 : (V353 27 (Int32.toNatClampNeg p0)).toInt = z352.toInt := congrArg Int32.toInt (up2_s hV353)
                      have pq355 : (V353 0 8).toInt = ((V317 0 8)).toInt := congrArg Int32.toInt ((up2_o hV353 (by decide)).trans (up2_o hV351 (by decide)))
                      have rw356 : RoV 35 bq V V353 := (fun k hk => ((up2_o hV353 (by decide)).trans ((up2_o hV351 (by decide)).trans ((t313 k hk).trans ((ajV296 35 k rfl).trans ((up2_o hV285 (by decide)).trans ((ajV273 35 k rfl).trans ((up2_o hV265 (by decide)).trans ((ajV189 35 k rfl).trans ((up2_o hV178 (by decide)).trans ((ajV13 35 k rfl).trans rfl)))))))))))
                      have rw357 : RoV 37 bq V V353 := (fun k hk => ((up2_o hV353 (by decide)).trans ((up2_o hV351 (by decide)).trans ((t314 k hk).trans ((ajV296 37 k rfl).trans ((up2_o hV285 (by decide)).trans ((ajV273 37 k rfl).trans ((up2_o hV265 (by decide)).trans ((ajV189 37 k rfl).trans ((up2_o hV178 (by decide)).trans ((ajV13 37 k rfl).trans rfl)))))))))))
                      have rw358 : RoL 36 20 bq L L318 := (fun k hk => ((t315 k hk).trans rfl))
                      have rw359 : RoL 38 20 bq L L318 := (fun k hk => ((t316 k hk).trans rfl))
                      exact W.vret hx hb hr (fun t ht hW => ⟨⟨(V353, L318), rfl, ⟨hMV353, agV353, alL318, (show (V353 27 gc).toInt = (V 27 gc).toInt + 1 from by rw [← kgc]; omega), (Or.inr ⟨(show 1 ≤ (V353 0 8).toInt from by omega), (fun k => by rw [show (V353 0 8).toInt = (V317 0 8).toInt from by omega]; exact hb349 k)⟩), rw356, rw357, rw358, rw359⟩, by rw [ht]; exact hP, va_K.moved hW.alike hK, hD⟩, hS.F ht⟩) hS.2.2 dX12_takeNeed_120
                · skip
                  have kd360 : gT.1 ((nx gs 1).1 0) ≠ 133 := fun h9 => h299 (h9.trans (by decide))
                  have fz361 := RelM.rg rl300
                  have pq362 : (V296 0 8).toInt = ((V273 0 8)).toInt := congrArg Int32.toInt ((ajV296 0 8 rfl).trans (up2_o hV285 (by decide)))
                  refine lv_if_eq (tgt := 108) hx hb dX12_takeNeed_90 (by decide) (fun c363 => ?_) (fun c363 => ?_)
                  · skip
                    have f364 : z292.toInt = 0 := b_eq rfl (by decide) c363
                    refine lv_iconst (v := (-1)) hx hb dX12_takeNeed_108 (by decide) ?_
                    refine va_iast (D := D) (i := z7) (x := (-1)) hx hb hK hP hD hS 24 23 rfl rfl (i_in (a := z7.toInt) rfl (by (first | exact om_b7136b496ad5 rg_p0.1 rg_p0.2 n7 r1.1 q27 hz5 hz7 | omega))) dX12_takeNeed_109 (fun H locs hP hD hS => ?_)
                    obtain ⟨V365, hV365⟩ : ∃ z, z = up2 V296 31 (Int32.toNatClampNeg z7) (-1) := ⟨_, rfl⟩
                    have hP : va_P D vwCl (mw ad kk ks.1 V365 L) H := by rw [hV365]; exact hP
                    have hD : va_D A (mw ad kk ks.1 V365 L) := by rw [hV365]; exact hD
                    have hMV365 : rgd bM V365 := hMV296.put hV365 (i_full _)
                    have agV365 : agr [(0, 7), (0, 8)] [27, 28, 29, 30, 31, 35, 36, 37, 38] V V365 := agV296.up hV365 rfl
                    refine lv_aload_n hx hb dX12_takeNeed_110 rfl (lv_at hl 1 rfl) ?_
                    refine va_get (D := D) (ci := 12) (v := .ref (ad 27)) (C := RX12) (T := TX12) (N := 100) hx hb hg inX12 hown hK hP 0 rfl rfl 27 (by decide) (hg _ w1733) (fun _ h9 => h9) rfl dX12_takeNeed_111 ?_
                    refine lv_iload_n hx hb dX12_takeNeed_114 rfl (lv_at hl 2 rfl) ?_
                    refine lv_dup2_11 hx hb dX12_takeNeed_115 rfl rfl ?_
                    refine va_iald (D := D) (i := p0) hx hb hK hP 20 19 rfl rfl (i_in (a := p0.toInt) rfl (by (first | exact om_1e1c00761020 rg_p0.1 rg_p0.2 | omega))) dX12_takeNeed_116 ?_
                    refine g_top (v := (V 27 (Int32.toNatClampNeg p0))) ((up2_o hV365 (by decide)).trans ((ajV296 27 (Int32.toNatClampNeg p0) rfl).trans ((up2_o hV285 (by decide)).trans ((ajV273 27 (Int32.toNatClampNeg p0) rfl).trans ((up2_o hV265 (by decide)).trans ((ajV189 27 (Int32.toNatClampNeg p0) rfl).trans ((up2_o hV178 (by decide)).trans (ajV13 27 (Int32.toNatClampNeg p0) rfl)))))))) ?_
                    refine lv_iconst (v := 1) hx hb dX12_takeNeed_117 (by decide) ?_
                    refine lv_iadd hx hb dX12_takeNeed_118 ?_
                    refine lv_topi (fun z366 ez366 => ?_)
                    have hz366 : z366.toInt = ((V 27 (Int32.toNatClampNeg p0))).toInt + 1 := i_add ez366 rfl (by decide) (by (first | exact om_bb6563b3cba5 n7 r1.1 q27 | omega))
                    refine va_iast (D := D) (i := p0) (x := z366) hx hb hK hP hD hS 20 19 rfl rfl (i_in (a := p0.toInt) rfl (by (first | exact om_1e1c00761020 rg_p0.1 rg_p0.2 | omega))) dX12_takeNeed_119 (fun H locs hP hD hS => ?_)
                    obtain ⟨V367, hV367⟩ : ∃ z, z = up2 V365 27 (Int32.toNatClampNeg p0) z366 := ⟨_, rfl⟩
                    have hP : va_P D vwCl (mw ad kk ks.1 V367 L) H := by rw [hV367]; exact hP
                    have hD : va_D A (mw ad kk ks.1 V367 L) := by rw [hV367]; exact hD
                    have hMV367 : rgd bM V367 := hMV365.put hV367 (show 0 ≤ z366.toInt ∧ z366.toInt ≤ 8 from by (first | exact om_f3c04a69af63 n7 r1.1 q27 hz366 | omega))
                    have agV367 : agr [(0, 7), (0, 8)] [27, 28, 29, 30, 31, 35, 36, 37, 38] V V367 := agV365.up hV367 rfl
                    have pq368 : (V367 27 (Int32.toNatClampNeg p0)).toInt = z366.toInt := congrArg Int32.toInt (up2_s hV367)
                    have hr369 : ∀ k, Rc gT (Crun gs (IneedK :: k)) (Crun (nx gs 1) (Itake 59 :: IaddNeed 0 fx276 0 :: Imember :: k)) := fun k => Rc.go1 (hr281 k) (called_n 0 fx276 kd360)
                    have rl370 : RelM V367 L bq gn gT (nx gs 1) gl := RelM.ag rl300 (show agr [] [27, 31] V296 V367 from (agr.up (agr.up agr.rf hV365 rfl) hV367 rfl)) (by decide) (show agL [] L L from agL.rf) (by decide)
                    have kz9 : (Int32.toNatClampNeg z7) = 8 * gc + (V 27 gc).toInt.toNat := by have h9 := i_clamp (x := z7) rfl (by (first | exact om_e418f5795471 rg_p0.1 r1.1 q27 hz5 hz7 | omega)); have h8 : 0 ≤ (V 27 gc).toInt := (hMV 27 gc).1; omega
                    have pq371 : (V367 28 (Int32.toNatClampNeg z7)).toInt = z269.toInt := congrArg Int32.toInt ((up2_o hV367 (by decide)).trans ((up2_o hV365 (by decide)).trans ((ajV296 28 (Int32.toNatClampNeg z7) rfl).trans (up2_s hV285))))
                    have pq372 : (V367 29 (Int32.toNatClampNeg z7)).toInt = ((vp_nar .boolean z9)).toInt := congrArg Int32.toInt ((up2_o hV367 (by decide)).trans ((up2_o hV365 (by decide)).trans ((ajV296 29 (Int32.toNatClampNeg z7) rfl).trans ((up2_o hV285 (by decide)).trans ((ajV273 29 (Int32.toNatClampNeg z7) rfl).trans ((up2_o hV265 (by decide)).trans ((ajV189 29 (Int32.toNatClampNeg z7) rfl).trans (up2_s hV178))))))))
                    have pq373 : (V367 30 (Int32.toNatClampNeg z7)).toInt = ((vp_nar .boolean 0)).toInt := congrArg Int32.toInt ((up2_o hV367 (by decide)).trans ((up2_o hV365 (by decide)).trans ((ajV296 30 (Int32.toNatClampNeg z7) rfl).trans ((up2_o hV285 (by decide)).trans ((ajV273 30 (Int32.toNatClampNeg z7) rfl).trans (up2_s hV265))))))
                    have pq374 : (V367 31 (Int32.toNatClampNeg z7)).toInt = (-1) := (congrArg Int32.toInt ((up2_o hV367 (by decide)).trans (up2_s hV365))).trans (by decide)
                    have cc375 : (V367 28 (8 * gc + (V 27 gc).toInt.toNat)).toInt = ((fx276 : Nat) : Int) := by rw [← kz9]; omega
                    have cc376 : ((V367 29 (8 * gc + (V 27 gc).toInt.toNat)).toInt = 1 ↔ (0 : Int).toNat = 1) := by rw [← kz9]; exact iff_of_false (by omega) (by decide)
                    have cc377 : ((V367 30 (8 * gc + (V 27 gc).toInt.toNat)).toInt = 1 ↔ (0 : Int).toNat = 2) := by rw [← kz9]; exact iff_of_false (by omega) (by decide)
                    have cc378 : (V367 31 (8 * gc + (V 27 gc).toInt.toNat)).toInt + 1 = ((0 : Nat) : Int) := by rw [← kz9]; omega
                    have fr379 : ∀ x k : Nat, 28 ≤ x → x ≤ 31 → k ≠ (8 * gc + (V 27 gc).toInt.toNat) → V367 x k = V x k := fun x k a1 a2 hk => by have z9 : x = 28 ∨ x = 29 ∨ x = 30 ∨ x = 31 := (by omega); rcases z9 with z9 | z9 | z9 | z9; (subst z9; exact ((up2_o hV367 (by decide)).trans ((up2_o hV365 (by decide)).trans ((ajV296 28 _ rfl).trans ((up2_k hV285 (fun h9 => hk (h9.trans kz9))).trans ((ajV273 28 _ rfl).trans ((up2_o hV265 (by decide)).trans ((ajV189 28 _ rfl).trans ((up2_o hV178 (by decide)).trans ((ajV13 28 _ rfl).trans rfl)))))))))); (subst z9; exact ((up2_o hV367 (by decide)).trans ((up2_o hV365 (by decide)).trans ((ajV296 29 _ rfl).trans ((up2_o hV285 (by decide)).trans ((ajV273 29 _ rfl).trans ((up2_o hV265 (by decide)).trans ((ajV189 29 _ rfl).trans ((up2_k hV178 (fun h9 => hk (h9.trans kz9))).trans ((ajV13 29 _ rfl).trans rfl)))))))))); (subst z9; exact ((up2_o hV367 (by decide)).trans ((up2_o hV365 (by decide)).trans ((ajV296 30 _ rfl).trans ((up2_o hV285 (by decide)).trans ((ajV273 30 _ rfl).trans ((up2_k hV265 (fun h9 => hk (h9.trans kz9))).trans ((ajV189 30 _ rfl).trans ((up2_o hV178 (by decide)).trans ((ajV13 30 _ rfl).trans rfl)))))))))); (subst z9; exact ((up2_o hV367 (by decide)).trans ((up2_k hV365 (fun h9 => hk (h9.trans kz9))).trans ((ajV296 31 _ rfl).trans ((up2_o hV285 (by decide)).trans ((ajV273 31 _ rfl).trans ((up2_o hV265 (by decide)).trans ((ajV189 31 _ rfl).trans ((up2_o hV178 (by decide)).trans ((ajV13 31 _ rfl).trans rfl))))))))))
                    have rw380 : RoV 35 bq V V367 := (fun k hk => ((up2_o hV367 (by decide)).trans ((up2_o hV365 (by decide)).trans ((ajV296 35 k rfl).trans ((up2_o hV285 (by decide)).trans ((ajV273 35 k rfl).trans ((up2_o hV265 (by decide)).trans ((ajV189 35 k rfl).trans ((up2_o hV178 (by decide)).trans ((ajV13 35 k rfl).trans rfl))))))))))
                    have rw381 : RoV 37 bq V V367 := (fun k hk => ((up2_o hV367 (by decide)).trans ((up2_o hV365 (by decide)).trans ((ajV296 37 k rfl).trans ((up2_o hV285 (by decide)).trans ((ajV273 37 k rfl).trans ((up2_o hV265 (by decide)).trans ((ajV189 37 k rfl).trans ((up2_o hV178 (by decide)).trans ((ajV13 37 k rfl).trans rfl))))))))))
                    have rw382 : RoL 36 20 bq L L := (fun k hk => rfl)
                    have rw383 : RoL 38 20 bq L L := (fun k hk => rfl)
                    exact W.vret hx hb hr (fun t ht hW => ⟨⟨(V367, L), rfl, ⟨hMV367, agV367, alL, (show (V367 27 gc).toInt = (V 27 gc).toInt + 1 from by rw [← kgc]; omega), (Or.inl ⟨W0 rl370, (nx gs 1), 0, fx276, 0, hr369, rl370, keepS.le (keepS.tr (keepS.rf : keepS gs 0 gs) (keepS.n1 1)) (by decide), (show keepL gs (nx gs 1) from fun j9 h9 => ((show ∀ j9, 5 ≤ j9 → (nx gs 1).2.1 j9 = gs.2.1 j9 from fun _ _ => rfl) j9 h9).trans ((show keepL gs gs from fun _ _ => rfl) j9 h9)), fr379, cc375, cc376, cc377, cc378, (fun k hk => ((up2_k hV367 (fun h9 => hk (h9.trans kgc))).trans ((up2_o hV365 (by decide)).trans ((ajV296 27 _ rfl).trans ((up2_o hV285 (by decide)).trans ((ajV273 27 _ rfl).trans ((up2_o hV265 (by decide)).trans ((ajV189 27 _ rfl).trans ((up2_o hV178 (by decide)).trans ((ajV13 27 _ rfl).trans rfl))))))))))⟩), rw380, rw381, rw382, rw383⟩, by rw [ht]; exact hP, va_K.moved hW.alike hK, hD⟩, hS.F ht⟩) hS.2.2 dX12_takeNeed_120
                  · skip
                    have f384 : z292.toInt ≠ 0 := b_neq rfl (by decide) c363
                    exfalso; (first | exact om_fb320d7600b7 rgz292.1 q298 f384 | omega)
            · skip
              have hb385 : ∀ k, Rc gT (Crun gs (IneedK :: k)) (Cbad (V273 0 8).toInt) := fun k => Rc.go1 (hr268 k) (nd_b h277)
              have r386 : 0 ≤ ((V273 0 8)).toInt ∧ ((V273 0 8)).toInt ≤ 70000 := hMV273 0 8
              refine va_iast (D := D) (i := z7) (x := z269) hx hb hK hP hD hS 21 20 rfl rfl (i_in (a := z7.toInt) rfl (by (first | exact om_b7136b496ad5 rg_p0.1 rg_p0.2 n7 r1.1 q27 hz5 hz7 | omega))) dX12_takeNeed_70 (fun H locs hP hD hS => ?_)
              obtain ⟨V387, hV387⟩ : ∃ z, z = up2 V273 28 (Int32.toNatClampNeg z7) z269 := ⟨_, rfl⟩
              have hP : va_P D vwCl (mw ad kk ks.1 V387 L) H := by rw [hV387]; exact hP
              have hD : va_D A (mw ad kk ks.1 V387 L) := by rw [hV387]; exact hD
              have hMV387 : rgd bM V387 := hMV273.put hV387 (show (-1) ≤ z269.toInt ∧ z269.toInt ≤ 23 from by (first | exact om_b5ea211f5a81 rgz269.1 rgz269.2 | omega))
              have agV387 : agr [(0, 7), (0, 8)] [27, 28, 29, 30, 31, 35, 36, 37, 38] V V387 := agV273.up hV387 rfl
              refine lv_aload_n hx hb dX12_takeNeed_71 rfl (lv_at hl 1 rfl) ?_
              refine va_get (D := D) (ci := 12) (v := .ref (ad 31)) (C := RX12) (T := TX12) (N := 100) hx hb hg inX12 hown hK hP 0 rfl rfl 31 (by decide) (hg _ w1737) (fun _ h9 => h9) rfl dX12_takeNeed_72 ?_
              refine lv_iload_n hx hb dX12_takeNeed_75 rfl (lv_at hl 0 rfl) ?_
              refine lv_aload_n hx hb dX12_takeNeed_76 rfl (lv_at hl 1 rfl) ?_
              refine va_get (D := D) (ci := 12) (v := .ref (ad 30)) (C := RX12) (T := TX12) (N := 100) hx hb hg inX12 hown hK hP 0 rfl rfl 30 (by decide) (hg _ w1736) (fun _ h9 => h9) rfl dX12_takeNeed_77 ?_
              refine lv_iload_n hx hb dX12_takeNeed_80 rfl (lv_at hl 0 rfl) ?_
              refine va_zald (D := D) (i := z7) hx hb hK hP 23 22 rfl rfl (i_in (a := z7.toInt) rfl (by (first | exact om_b7136b496ad5 rg_p0.1 rg_p0.2 n7 r1.1 q27 hz5 hz7 | omega))) dX12_takeNeed_81 ?_
              refine g_top (v := (vp_nar .boolean 0)) ((up2_o hV387 (by decide)).trans ((ajV273 30 (Int32.toNatClampNeg z7) rfl).trans (up2_s hV265))) ?_
              have nr388 : (vp_nar .boolean 0).toInt = 0 := by decide
              refine lv_if_ne (tgt := 108) hx hb dX12_takeNeed_82 (by decide) (fun c389 => ?_) (fun c389 => ?_)
              · skip
                have f390 : ((vp_nar .boolean 0)).toInt ≠ 0 := b_neq rfl (by decide) c389
                exfalso; (first | exact om_0b51723c7ef6 nr388 f390 | omega)
              · skip
                have f391 : ((vp_nar .boolean 0)).toInt = 0 := b_eq rfl (by decide) c389
                refine lv_aload_n hx hb dX12_takeNeed_85 rfl (lv_at hl 1 rfl) ?_
                refine lv_iconst (v := 5) hx hb dX12_takeNeed_86 (by decide) ?_
                have r392 : Int32.toInt 5 = 5 := by decide
                have pq393 : (V387 0 8).toInt = ((V273 0 8)).toInt := congrArg Int32.toInt (up2_o hV387 (by decide))
                refine gA_int (gA_runV (As := [.int 5]) (rest := [.int z7, .ref (ad 31)]) (ci := 12) (q0 := 0) hx hb hml hown hg hP hD hK hS hA hnw hgk (s_hasWordB l D ks H.size ad kk V387 L 5 hMV387 (by decide) (show 1 ≤ (V387 0 8).toInt from by omega)) w2051 w2053 w90 w172 w2054 rfl rfl hdV_yX12_hasWord ⟨Nat.le_of_ble_eq_true rfl, Nat.le_of_ble_eq_true rfl⟩ rfl hl.1 rfl (Nat.le_of_ble_eq_true rfl) dX12_takeNeed_87 ⟨Nat.le_of_ble_eq_true rfl, Nat.le_of_ble_eq_true rfl⟩) hP hD hK hS hA (fun z394 u395 H locs w396 hP hD hK hS => ?_)
                obtain ⟨V398, L399⟩ := u395
                obtain ⟨hMV398, ajV398, axL399, rgz394, t397⟩ := w396
                have axL399 : L = L399 := Eq.symm axL399
                subst axL399
                replace hP : va_P D vwCl (mw ad kk ks.1 V398 L) H := hP
                replace hD : va_D A (mw ad kk ks.1 V398 L) := hD
                replace hMV398 : rgd bM V398 := hMV398
                replace ajV398 : agr [(0, 7)] [] V387 V398 := ajV398
                have agV398 : agr [(0, 7), (0, 8)] [27, 28, 29, 30, 31, 35, 36, 37, 38] V V398 := agV387.tr ajV398 (by decide) (by decide)
                replace rgz394 : 0 ≤ z394.toInt ∧ z394.toInt ≤ 0 := rgz394
                replace t397 : (V398 0 8).toInt = (V387 0 8).toInt := t397
                have pq400 : (V398 0 8).toInt = ((V273 0 8)).toInt := congrArg Int32.toInt ((ajV398 0 8 rfl).trans (up2_o hV387 (by decide)))
                refine lv_if_eq (tgt := 108) hx hb dX12_takeNeed_90 (by decide) (fun c401 => ?_) (fun c401 => ?_)
                · skip
                  have f402 : z394.toInt = 0 := b_eq rfl (by decide) c401
                  refine lv_iconst (v := (-1)) hx hb dX12_takeNeed_108 (by decide) ?_
                  refine va_iast (D := D) (i := z7) (x := (-1)) hx hb hK hP hD hS 24 23 rfl rfl (i_in (a := z7.toInt) rfl (by (first | exact om_b7136b496ad5 rg_p0.1 rg_p0.2 n7 r1.1 q27 hz5 hz7 | omega))) dX12_takeNeed_109 (fun H locs hP hD hS => ?_)
                  obtain ⟨V403, hV403⟩ : ∃ z, z = up2 V398 31 (Int32.toNatClampNeg z7) (-1) := ⟨_, rfl⟩
                  have hP : va_P D vwCl (mw ad kk ks.1 V403 L) H := by rw [hV403]; exact hP
                  have hD : va_D A (mw ad kk ks.1 V403 L) := by rw [hV403]; exact hD
                  have hMV403 : rgd bM V403 := hMV398.put hV403 (i_full _)
                  have agV403 : agr [(0, 7), (0, 8)] [27, 28, 29, 30, 31, 35, 36, 37, 38] V V403 := agV398.up hV403 rfl
                  refine lv_aload_n hx hb dX12_takeNeed_110 rfl (lv_at hl 1 rfl) ?_
                  refine va_get (D := D) (ci := 12) (v := .ref (ad 27)) (C := RX12) (T := TX12) (N := 100) hx hb hg inX12 hown hK hP 0 rfl rfl 27 (by decide) (hg _ w1733) (fun _ h9 => h9) rfl dX12_takeNeed_111 ?_
                  refine lv_iload_n hx hb dX12_takeNeed_114 rfl (lv_at hl 2 rfl) ?_
                  refine lv_dup2_11 hx hb dX12_takeNeed_115 rfl rfl ?_
                  refine va_iald (D := D) (i := p0) hx hb hK hP 20 19 rfl rfl (i_in (a := p0.toInt) rfl (by (first | exact om_1e1c00761020 rg_p0.1 rg_p0.2 | omega))) dX12_takeNeed_116 ?_
                  refine g_top (v := (V 27 (Int32.toNatClampNeg p0))) ((up2_o hV403 (by decide)).trans ((ajV398 27 (Int32.toNatClampNeg p0) rfl).trans ((up2_o hV387 (by decide)).trans ((ajV273 27 (Int32.toNatClampNeg p0) rfl).trans ((up2_o hV265 (by decide)).trans ((ajV189 27 (Int32.toNatClampNeg p0) rfl).trans ((up2_o hV178 (by decide)).trans (ajV13 27 (Int32.toNatClampNeg p0) rfl)))))))) ?_
                  refine lv_iconst (v := 1) hx hb dX12_takeNeed_117 (by decide) ?_
                  refine lv_iadd hx hb dX12_takeNeed_118 ?_
                  refine lv_topi (fun z404 ez404 => ?_)
                  have hz404 : z404.toInt = ((V 27 (Int32.toNatClampNeg p0))).toInt + 1 := i_add ez404 rfl (by decide) (by (first | exact om_bb6563b3cba5 n7 r1.1 q27 | omega))
                  refine va_iast (D := D) (i := p0) (x := z404) hx hb hK hP hD hS 20 19 rfl rfl (i_in (a := p0.toInt) rfl (by (first | exact om_1e1c00761020 rg_p0.1 rg_p0.2 | omega))) dX12_takeNeed_119 (fun H locs hP hD hS => ?_)
                  obtain ⟨V405, hV405⟩ : ∃ z, z = up2 V403 27 (Int32.toNatClampNeg p0) z404 := ⟨_, rfl⟩
                  have hP : va_P D vwCl (mw ad kk ks.1 V405 L) H := by rw [hV405]; exact hP
                  have hD : va_D A (mw ad kk ks.1 V405 L) := by rw [hV405]; exact hD
                  have hMV405 : rgd bM V405 := hMV403.put hV405 (show 0 ≤ z404.toInt ∧ z404.toInt ≤ 8 from by (first | exact om_f3c04a69af63 n7 r1.1 q27 hz404 | omega))
                  have agV405 : agr [(0, 7), (0, 8)] [27, 28, 29, 30, 31, 35, 36, 37, 38] V V405 := agV403.up hV405 rfl
                  have pq406 : (V405 27 (Int32.toNatClampNeg p0)).toInt = z404.toInt := congrArg Int32.toInt (up2_s hV405)
                  have pq407 : (V405 0 8).toInt = ((V273 0 8)).toInt := congrArg Int32.toInt ((up2_o hV405 (by decide)).trans ((up2_o hV403 (by decide)).trans ((ajV398 0 8 rfl).trans (up2_o hV387 (by decide)))))
                  have rw408 : RoV 35 bq V V405 := (fun k hk => ((up2_o hV405 (by decide)).trans ((up2_o hV403 (by decide)).trans ((ajV398 35 k rfl).trans ((up2_o hV387 (by decide)).trans ((ajV273 35 k rfl).trans ((up2_o hV265 (by decide)).trans ((ajV189 35 k rfl).trans ((up2_o hV178 (by decide)).trans ((ajV13 35 k rfl).trans rfl))))))))))
                  have rw409 : RoV 37 bq V V405 := (fun k hk => ((up2_o hV405 (by decide)).trans ((up2_o hV403 (by decide)).trans ((ajV398 37 k rfl).trans ((up2_o hV387 (by decide)).trans ((ajV273 37 k rfl).trans ((up2_o hV265 (by decide)).trans ((ajV189 37 k rfl).trans ((up2_o hV178 (by decide)).trans ((ajV13 37 k rfl).trans rfl))))))))))
                  have rw410 : RoL 36 20 bq L L := (fun k hk => rfl)
                  have rw411 : RoL 38 20 bq L L := (fun k hk => rfl)
                  exact W.vret hx hb hr (fun t ht hW => ⟨⟨(V405, L), rfl, ⟨hMV405, agV405, alL, (show (V405 27 gc).toInt = (V 27 gc).toInt + 1 from by rw [← kgc]; omega), (Or.inr ⟨(show 1 ≤ (V405 0 8).toInt from by omega), (fun k => by rw [show (V405 0 8).toInt = (V273 0 8).toInt from by omega]; exact hb385 k)⟩), rw408, rw409, rw410, rw411⟩, by rw [ht]; exact hP, va_K.moved hW.alike hK, hD⟩, hS.F ht⟩) hS.2.2 dX12_takeNeed_120
                · skip
                  have f412 : z394.toInt ≠ 0 := b_neq rfl (by decide) c401
                  exfalso; (first | exact om_0e608cc4b4f6 rgz394.1 rgz394.2 f412 | omega)
          · skip
            have f413 : z185.toInt ≠ 0 := b_neq rfl (by decide) c263
            exfalso; (first | exact om_fb320d7600b7 rgz185.1 q191 f413 | omega)
  · skip
    have f414 : 0 < ((V 0 8)).toInt := b_nle rfl (by decide) c3
    exfalso; (first | exact om_bf2beb62232e rg0.2.2.1 f414 | omega)
abbrev r_s_memberA : Room := { frames := 95, cells := 0, slots := 0, locals := 2864 }
abbrev q_s_memberA (D : va_G) (ks : KS) (ad : Nat → Nat) (kk : Nat → ClassId) (V : Vf) (L : Lf) (p0 : Int32) (bq : Nat) (gn : Nat) (gT : Tk) (gs : St) (gl : List Int64) (gc : Nat) (A : Nat → Prop) : Array Value → State → Outcome → State → Prop := va_Qv (fun (u : Vf × Lf) => rgd bM u.1 ∧ agr [(0, 7), (0, 8), (0, 48), (0, 50)] [27, 28, 29, 30, 31, 32, 33, 34, 35, 36, 37, 38, 45, 46, 47] V u.1 ∧ agL [27, 28, 29, 30, 31, 32, 33, 34, 35, 36, 37, 38, 45, 46, 47] L u.2 ∧ (Imp ((u.1 0 8).toInt = 0) ((u.1 0 48).toInt ≤ 2 * (u.1 0 7).toInt)) ∧ ((u.1 0 48).toInt ≤ 8120) ∧ (RdM gT gs (fun k => Imember :: k) (fun k => Imember :: k) (u.1 0 8).toInt (fun s9 => RelM u.1 u.2 bq gn gT s9 gl ∧ gs.1 0 + 1 ≤ s9.1 0 ∧ OWm u.1 gc s9 ∧ s9.2.1 2 = gs.2.1 2 ∧ s9.2.2.1 = gs.2.2.1 ∧ CNm u.1 bq s9 ∧ CEm u.1 bq s9)) ∧ (RoV 35 bq V u.1) ∧ (RoV 37 bq V u.1) ∧ (RoL 36 20 bq L u.2) ∧ (RoL 38 20 bq L u.2)) (fun u t => gq D A (mw ad kk ks.1 u.1 u.2) (mty kk) t) A
set_option maxHeartbeats 4000000 in
set_option maxRecDepth 100000 in
theorem s_memberA (l : Launch) (D : va_G) (ks : KS) (sz : Nat) (ad : Nat → Nat) (kk : Nat → ClassId) (V : Vf) (L : Lf) (p0 : Int32) (bq : Nat) (gn : Nat) (gT : Tk) (gs : St) (gl : List Int64) (gc : Nat) (hMV : rgd bM V) (rg_p0 : 0 ≤ p0.toInt ∧ p0.toInt ≤ 47) (rel : RelM V L bq gn gT gs gl) (pgc : p0.toInt = (gc : Int)) (gc48 : gc < 48) (ow : OWm V gc gs) (kn125 : gT.1 (gs.1 0) ≠ 125) (ic : (V 0 51).toInt = (gc : Int)) (ia : (V 0 52).toInt = 0) (cc : (V 0 48).toInt ≤ 2 * (V 0 7).toInt) (cnm : CNm V bq gs) (cem : CEm V bq gs) (gcl : gc + 1 = 24 * bq + (gs.2.1 2).length) (gcb : 24 * bq ≤ gc)  : Met l yX12_member (Cond.code yX12_member cX12_member 3 none :: GW) r_s_memberA (va_Pc [.ref (ad 0), .int p0] (gp D ks (mw ad kk ks.1 V L) (mty kk) sz)) (q_s_memberA D ks ad kk V L p0 bq gn gT gs gl gc (va_A (mw ad kk ks.1 V L) sz)) 0 0 (va_A (mw ad kk ks.1 V L) sz) := by
  refine g_met (q_s_memberA D ks ad kk V L p0 bq gn gT gs gl gc) (by decide) (Nat.le_of_ble_eq_true rfl) ?_
  intro p e s m below meth c A ls H locs hx hb hr hml hown hg hlocks hin hnw hgk hP hK hD hS hA hl
  replace hown : s.vm.findClass RX12 = some m.cls := hown
  replace hl : lv_has ls 3 [(0, .ref (ad 0)), (1, .int p0)] := hl
  replace hP : va_P D vwCl (mw ad kk ks.1 V L) H := hP
  replace hD : va_D A (mw ad kk ks.1 V L) := hD
  replace hK : va_K D vwCl (mty kk) s := hK
  have agV : agr [(0, 7), (0, 8), (0, 48), (0, 50)] [27, 28, 29, 30, 31, 32, 33, 34, 35, 36, 37, 38, 45, 46, 47] V V := agr.rf
  have alL : agL [27, 28, 29, 30, 31, 32, 33, 34, 35, 36, 37, 38, 45, 46, 47] L L := agL.rf
  have rf_p0 := i_full p0
  have r1 : (-1) ≤ ((V 0 51)).toInt ∧ ((V 0 51)).toInt ≤ 47 := hMV 0 51
  have r2 : 0 ≤ ((V 0 52)).toInt ∧ ((V 0 52)).toInt ≤ 1 := hMV 0 52
  have r3 : 0 ≤ ((V 0 48)).toInt ∧ ((V 0 48)).toInt ≤ 10000 := hMV 0 48
  have rg0 := RelM.rg rel
  have cl0 := RelM.cl rel
  have cq0 := RelM.cq rel
  have kgc : Int32.toNatClampNeg p0 = gc := by have h9 := i_clamp (x := p0) rfl (by (first | exact om_011bccdb17d5 pgc gcb | omega)); (first | exact om_c4e1e142d663 pgc h9 | omega)
  have q27 : (V 27 (Int32.toNatClampNeg p0)).toInt = (V 27 gc).toInt := by rw [kgc]
  have q32 : (V 32 (Int32.toNatClampNeg p0)).toInt = (V 32 gc).toInt := by rw [kgc]
  have q33 : (V 33 (Int32.toNatClampNeg p0)).toInt = (V 33 gc).toInt := by rw [kgc]
  refine lv_aload_n hx hb dX12_member_0 rfl (lv_at hl 0 rfl) ?_
  refine lv_bipush (v := 9) hx hb dX12_member_1 (by decide) ?_
  have r4 : Int32.toInt 9 = 9 := by decide
  refine gA_int (gA_runV (As := [.int 9]) (rest := []) (ci := 12) (q0 := 0) hx hb hml hown hg hP hD hK hS hA hnw hgk (s_isWordA l D ks H.size ad kk V L 9 (bq) (gn) (gT) (gs) (gl) hMV (by decide) rel) w2023 w2025 w83 w172 w2026 rfl rfl hdV_yX12_isWord ⟨Nat.le_of_ble_eq_true rfl, Nat.le_of_ble_eq_true rfl⟩ rfl hl.1 rfl (Nat.le_of_ble_eq_true rfl) dX12_member_3 ⟨Nat.le_of_ble_eq_true rfl, Nat.le_of_ble_eq_true rfl⟩) hP hD hK hS hA (fun z5 u6 H locs w7 hP hD hK hS => ?_)
  obtain ⟨rgz5, t8⟩ := w7
  replace rgz5 : 0 ≤ z5.toInt ∧ z5.toInt ≤ 1 := rgz5
  replace t8 : (z5.toInt = 1 ∧ (gT).1 ((gs).1 0) = 128 + (Int32.toInt 9)) ∨ (z5.toInt = 0 ∧ (gT).1 ((gs).1 0) ≠ 128 + (Int32.toInt 9)) := t8
  rcases t8 with ⟨q9, h10⟩ | ⟨q9, h10⟩
  · skip
    have kd11 : gT.1 (gs.1 0) = 137 := h10.trans (by decide)
    refine lv_if_eq (tgt := 37) hx hb dX12_member_6 (by decide) (fun c12 => ?_) (fun c12 => ?_)
    · skip
      have f13 : z5.toInt = 0 := b_eq rfl (by decide) c12
      exfalso; (first | exact om_495ee03a60ae q9 f13 | omega)
    · skip
      have f14 : z5.toInt ≠ 0 := b_neq rfl (by decide) c12
      refine lv_aload_n hx hb dX12_member_9 rfl (lv_at hl 0 rfl) ?_
      refine lv_aload_n hx hb dX12_member_10 rfl (lv_at hl 0 rfl) ?_
      refine va_get (D := D) (ci := 12) (v := .ref (ad 27)) (C := RX12) (T := TX12) (N := 100) hx hb hg inX12 hown hK hP 0 rfl rfl 27 (by decide) (hg _ w1733) (fun _ h9 => h9) rfl dX12_member_11 ?_
      refine lv_iload_n hx hb dX12_member_14 rfl (lv_at hl 1 rfl) ?_
      refine va_iald (D := D) (i := p0) hx hb hK hP 20 19 rfl rfl (i_in (a := p0.toInt) rfl (by (first | exact om_f0baf2fc82c2 rg_p0.2 pgc gcb | omega))) dX12_member_15 ?_
      have r15 : 0 ≤ ((V 27 (Int32.toNatClampNeg p0))).toInt ∧ ((V 27 (Int32.toNatClampNeg p0))).toInt ≤ 8 := hMV 27 (Int32.toNatClampNeg p0)
      refine lv_bipush (v := 8) hx hb dX12_member_16 (by decide) ?_
      refine lv_icmp_ne (tgt := 25) hx hb dX12_member_18 (by decide) (fun c16 => ?_) (fun c16 => ?_)
      · skip
        have f17 : ((V 27 (Int32.toNatClampNeg p0))).toInt ≠ 8 := b_neq rfl (by decide) c16
        refine lv_iconst (v := 0) hx hb dX12_member_25 (by decide) ?_
        have r18 : Int32.toInt 0 = 0 := by decide
        refine gA_void (gA_runV (As := [.int 0]) (rest := []) (ci := 12) (q0 := 0) hx hb hml hown hg hP hD hK hS hA hnw hgk (s_beginsA l D ks H.size ad kk V L 0 (bq) (gn) (gT) (gs) (gl) hMV (by decide) rel (by rw [kd11]; decide)) w2031 w2033 w85 w172 w2034 rfl rfl hdV_yX12_begins ⟨Nat.le_of_ble_eq_true rfl, Nat.le_of_ble_eq_true rfl⟩ rfl hl.1 rfl (Nat.le_of_ble_eq_true rfl) dX12_member_26 ⟨Nat.le_of_ble_eq_true rfl, Nat.le_of_ble_eq_true rfl⟩) hP hD hK hS hA (fun u20 H locs w21 hP hD hK hS => ?_)
        obtain ⟨V23, L24⟩ := u20
        obtain ⟨hMV23, ajV23, axL24, t22⟩ := w21
        have axL24 : L = L24 := Eq.symm axL24
        subst axL24
        replace hP : va_P D vwCl (mw ad kk ks.1 V23 L) H := hP
        replace hD : va_D A (mw ad kk ks.1 V23 L) := hD
        replace hMV23 : rgd bM V23 := hMV23
        replace ajV23 : agr [(0, 7), (0, 8)] [] V V23 := ajV23
        have agV23 : agr [(0, 7), (0, 8), (0, 48), (0, 50)] [27, 28, 29, 30, 31, 32, 33, 34, 35, 36, 37, 38, 45, 46, 47] V V23 := agV.tr ajV23 (by decide) (by decide)
        replace t22 : ((Int32.toInt 0) = 0 ∧ (V23 0 8).toInt = 0 ∧ RelM V23 L (bq) (gn) (gT) (nx (gs) 1) (gl)) ∨ ((Int32.toInt 0) = 1 ∧ 1 ≤ (V23 0 8).toInt ∧ (V23 0 8).toInt = 5 + 16 * (gT).2.2 ((gs).1 0)) := t22
        rcases t22 with ⟨q25, f26, rl27⟩ | ⟨q25, f26, rl27⟩
        · skip
          have hr28 : ∀ k, Rc gT (Crun gs (Imember :: k)) (Crun gs (Imember :: k)) := fun k => Rc.rf
          have hr29 : ∀ k, Rc gT (Crun gs (Imember :: k)) (Crun (nx gs 1) (IneedK :: k)) := fun k => Rc.go1 (hr28 k) (mb_137 kd11 (by have h9 := ow.1; omega))
          have ps30 : (nx gs 1).1 0 = gs.1 0 + 1 := rfl
          have fz31 := RelM.rg rl27
          have r32 : 0 ≤ ((V23 0 8)).toInt ∧ ((V23 0 8)).toInt ≤ 70000 := hMV23 0 8
          refine lv_aload_n hx hb dX12_member_29 rfl (lv_at hl 0 rfl) ?_
          refine lv_iload_n hx hb dX12_member_30 rfl (lv_at hl 1 rfl) ?_
          have pq33 : (V23 27 gc).toInt = ((V 27 gc)).toInt := congrArg Int32.toInt (ajV23 27 gc rfl)
          have r34 : 0 ≤ ((V 27 gc)).toInt ∧ ((V 27 gc)).toInt ≤ 8 := hMV 27 gc
          refine gA_void (gA_runV (As := [.int p0]) (rest := []) (ci := 12) (q0 := 0) hx hb hml hown hg hP hD hK hS hA hnw hgk (s_takeNeedA l D ks H.size ad kk V23 L p0 (bq) (gn) (gT) ((nx gs 1)) (gl) (gc) hMV23 (by (first | exact om_e5692c1ed2d7 rg_p0.2 pgc gcb | omega)) rl27 (show p0.toInt = ((gc) : Int) from by (first | exact om_08e0c9701055 pgc | omega)) (show (gc) < 48 from by (first | exact om_01ed2b3ead91 rg_p0.2 pgc | omega)) (show (V23 27 (gc)).toInt ≤ 7 from by (first | exact om_2018a100b673 q27 r15.2 f17 pq33 | omega))) w2108 w2110 w104 w172 w2111 rfl rfl hdV_yX12_takeNeed ⟨Nat.le_of_ble_eq_true rfl, Nat.le_of_ble_eq_true rfl⟩ rfl hl.1 rfl (Nat.le_of_ble_eq_true rfl) dX12_member_31 ⟨Nat.le_of_ble_eq_true rfl, Nat.le_of_ble_eq_true rfl⟩) hP hD hK hS hA (fun u36 H locs w37 hP hD hK hS => ?_)
          obtain ⟨V44, L45⟩ := u36
          obtain ⟨hMV44, ajV44, axL45, t38, t39, t40, t41, t42, t43⟩ := w37
          have alL45 : agL [27, 28, 29, 30, 31, 32, 33, 34, 35, 36, 37, 38, 45, 46, 47] L L45 := agL.tr alL axL45 (by decide)
          replace hP : va_P D vwCl (mw ad kk ks.1 V44 L45) H := hP
          replace hD : va_D A (mw ad kk ks.1 V44 L45) := hD
          replace hMV44 : rgd bM V44 := hMV44
          replace ajV44 : agr [(0, 7), (0, 8)] [27, 28, 29, 30, 31, 35, 36, 37, 38] V23 V44 := ajV44
          have agV44 : agr [(0, 7), (0, 8), (0, 48), (0, 50)] [27, 28, 29, 30, 31, 32, 33, 34, 35, 36, 37, 38, 45, 46, 47] V V44 := agV23.tr ajV44 (by decide) (by decide)
          replace t38 : (V44 27 (gc)).toInt = (V23 27 (gc)).toInt + 1 := t38
          replace t39 : RdN (gT) ((nx gs 1)) (V44 0 8).toInt (fun s9 a9 f9 c9 => RelM V44 L45 (bq) (gn) (gT) s9 (gl) ∧ keepS ((nx gs 1)) 1 s9 ∧ keepL ((nx gs 1)) s9 ∧ NDW (gc) (8 * (gc) + (V23 27 (gc)).toInt.toNat) V23 V44 a9 f9 c9) := t39
          replace t40 : RoV 35 (bq) V23 V44 := t40
          replace t41 : RoV 37 (bq) V23 V44 := t41
          replace t42 : RoL 36 20 (bq) L L45 := t42
          replace t43 : RoL 38 20 (bq) L L45 := t43
          rcases t39 with ⟨q46, sx47, na48, nf49, nc50, h51, rl52, kp53, ll55, nw54⟩ | ⟨q46, h51⟩
          · skip
            have hr56 : ∀ k, Rc gT (Crun gs (Imember :: k)) (Crun sx47 (Itake 59 :: IaddNeed na48 nf49 nc50 :: Imember :: k)) := fun k => (hr29 k).tr (h51 (k))
            have fz57 := RelM.rg rl52
            have r58 : 0 ≤ ((V44 0 8)).toInt ∧ ((V44 0 8)).toInt ≤ 70000 := hMV44 0 8
            have ps59 := (kp53).1
            refine lv_goto (tgt := 187) hx hb dX12_member_34 (by decide) ?_
            refine lv_aload_n hx hb dX12_member_187 rfl (lv_at hl 0 rfl) ?_
            refine lv_bipush (v := 59) hx hb dX12_member_188 (by decide) ?_
            have r60 : Int32.toInt 59 = 59 := by decide
            refine gA_void (gA_runV (As := [.int 59]) (rest := []) (ci := 12) (q0 := 0) hx hb hml hown hg hP hD hK hS hA hnw hgk (s_takeSignA l D ks H.size ad kk V44 L45 59 (bq) (gn) (gT) (sx47) (gl) hMV44 rl52 (sg_yes (j := 59) (by decide) (by decide) (by decide))) w2075 w2077 w96 w172 w2078 rfl rfl hdV_yX12_takeSign ⟨Nat.le_of_ble_eq_true rfl, Nat.le_of_ble_eq_true rfl⟩ rfl hl.1 rfl (Nat.le_of_ble_eq_true rfl) dX12_member_190 ⟨Nat.le_of_ble_eq_true rfl, Nat.le_of_ble_eq_true rfl⟩) hP hD hK hS hA (fun u62 H locs w63 hP hD hK hS => ?_)
            obtain ⟨V65, L66⟩ := u62
            obtain ⟨hMV65, ajV65, axL66, t64⟩ := w63
            have axL66 : L45 = L66 := Eq.symm axL66
            subst axL66
            replace hP : va_P D vwCl (mw ad kk ks.1 V65 L45) H := hP
            replace hD : va_D A (mw ad kk ks.1 V65 L45) := hD
            replace hMV65 : rgd bM V65 := hMV65
            replace ajV65 : agr [(0, 7), (0, 8)] [] V44 V65 := ajV65
            have agV65 : agr [(0, 7), (0, 8), (0, 48), (0, 50)] [27, 28, 29, 30, 31, 32, 33, 34, 35, 36, 37, 38, 45, 46, 47] V V65 := agV44.tr ajV65 (by decide) (by decide)
            replace t64 : ((V65 0 8).toInt = 0 ∧ (gT).1 ((sx47).1 0) = (Int32.toInt 59) ∧ RelM V65 L45 (bq) (gn) (gT) (nx (sx47) 1) (gl)) ∨ (1 ≤ (V65 0 8).toInt ∧ (gT).1 ((sx47).1 0) ≠ (Int32.toInt 59) ∧ (V65 0 8).toInt = 1 + 16 * (gT).2.2 ((sx47).1 0)) := t64
            rcases t64 with ⟨q67, h68, rl69⟩ | ⟨q67, h68, rl69⟩
            · skip
              have kd70 : gT.1 (sx47.1 0) = 59 := h68.trans (by decide)
              have hr71 : ∀ k, Rc gT (Crun gs (Imember :: k)) (Crun (nx sx47 1) (IaddNeed na48 nf49 nc50 :: Imember :: k)) := fun k => Rc.go1 (hr56 k) (tk_y kd70)
              have ps72 : (nx sx47 1).1 0 = sx47.1 0 + 1 := rfl
              have fz73 := RelM.rg rl69
              have r74 : 0 ≤ ((V65 0 8)).toInt ∧ ((V65 0 8)).toInt ≤ 70000 := hMV65 0 8
              have rl75 : RelM V65 L45 bq gn gT (ndS (nx sx47 1) na48 nf49 nc50) gl := RelM.nu (show RelM V65 L45 bq gn gT (sN (nx sx47 1) 1 ((nx sx47 1).1 1 + 1)) gl from rl69) (ndS_5 0 (by decide)) rfl
              have hr76 : ∀ k, Rc gT (Crun gs (Imember :: k)) (Crun (ndS (nx sx47 1) na48 nf49 nc50) (Imember :: k)) := fun k => Rc.go1 (hr71 k) (m_addNeed na48 nf49 nc50)
              have ps77 : (ndS (nx sx47 1) na48 nf49 nc50).1 0 = (nx sx47 1).1 0 := ndS_5 0 (by decide)
              have cn78 : CNm V23 bq gs := CNm.ag cnm (show agr [(0, 7), (0, 8)] [] V V23 from (agr.tr agr.rf ajV23 (by decide) (by decide))) (by decide) keepC.rf
              have cn79 : CNm V23 bq (nx sx47 1) := CNm.mv cn78 (fun _ _ _ => rfl) (keepC.tr (keepC.tr (keepC.tr (keepC.rf : keepC gs gs) (keepS.c (keepS.n1 1))) (keepS.c kp53)) (keepS.c (keepS.n1 1)))
              have k19 : (nx sx47 1).1 1 = gs.1 1 := ((keepS.tr (keepS.tr (keepS.tr (keepS.rf : keepS gs 0 gs) (keepS.n1 1)) kp53) (keepS.n1 1))).2.1 1 (by decide)
              have o19 := ow.1
              have p19 : (V23 27 gc).toInt.toNat = (nx sx47 1).1 1 := by omega
              have nw9 := nw54
              rw [p19] at nw9
              have cn80 : CNm V44 bq (ndS (nx sx47 1) na48 nf49 nc50) := CNm.nd2 cn79 (by rw [((keepC.tr (keepC.tr (keepC.tr (keepC.rf : keepC gs gs) (keepS.c (keepS.n1 1))) (keepS.c kp53)) (keepS.c (keepS.n1 1)))).2 2 (by decide)]; exact gcl) gcb (show (V23 27 gc).toInt = (((nx sx47 1).1 1 : Nat) : Int) from by omega) (by omega) ajV44 (by decide) t38 nw9
              have pq81 : (V65 0 48).toInt = ((V 0 48)).toInt := congrArg Int32.toInt ((ajV65 0 48 rfl).trans ((ajV44 0 48 rfl).trans (ajV23 0 48 rfl)))
              have ps82 : gs.1 0 + 1 ≤ (nx gs 1).1 0 := ((keepS.n1 1)).1
              have ps83 : (nx gs 1).1 0 + 1 ≤ sx47.1 0 := (kp53).1
              have ps84 : sx47.1 0 + 1 ≤ (nx sx47 1).1 0 := ((keepS.n1 1)).1
              have ps85 : (ndS (nx sx47 1) na48 nf49 nc50).1 0 = (nx sx47 1).1 0 := ndS_5 0 (by decide)
              have cn86 : CNm V65 bq (ndS (nx sx47 1) na48 nf49 nc50) := CNm.ag cn80 (show agr [(0, 7), (0, 8)] [] V44 V65 from (agr.tr agr.rf ajV65 (by decide) (by decide))) (by decide) keepC.rf
              have cd87 : CDm V65 (10000 * bq) gs := CDm.ag cem.1 (show agr [(0, 7), (0, 8)] [27, 28, 29, 30, 31, 35, 36, 37, 38] V V65 from (agr.tr (agr.tr (agr.tr agr.rf ajV23 (by decide) (by decide)) ajV44 (by decide) (by decide)) ajV65 (by decide) (by decide))) ⟨rfl, rfl, fun _ => ⟨rfl, rfl, rfl⟩⟩
              have cd88 : CDm V65 (10000 * bq) (ndS (nx sx47 1) na48 nf49 nc50) := CDm.mv cd87 (fun j9 h9 => ((show ∀ j9, j9 = 5 ∨ 2000 ≤ j9 → (ndS (nx sx47 1) na48 nf49 nc50).2.1 j9 = (nx sx47 1).2.1 j9 from fun j9 h9 => (show ∀ j9, 5 ≤ j9 → (ndS (nx sx47 1) na48 nf49 nc50).2.1 j9 = (nx sx47 1).2.1 j9 from fun _ _ => rfl) j9 (by omega)) j9 h9).trans ((fun j9 h9 => ((show ∀ j9, j9 = 5 ∨ 2000 ≤ j9 → (nx sx47 1).2.1 j9 = sx47.2.1 j9 from fun j9 h9 => (show ∀ j9, 5 ≤ j9 → (nx sx47 1).2.1 j9 = sx47.2.1 j9 from fun _ _ => rfl) j9 (by omega)) j9 h9).trans ((fun j9 h9 => ((show ∀ j9, j9 = 5 ∨ 2000 ≤ j9 → sx47.2.1 j9 = (nx gs 1).2.1 j9 from fun j9 h9 => (show ∀ j9, 5 ≤ j9 → sx47.2.1 j9 = (nx gs 1).2.1 j9 from ll55) j9 (by omega)) j9 h9).trans ((show ∀ j9, j9 = 5 ∨ 2000 ≤ j9 → (nx gs 1).2.1 j9 = gs.2.1 j9 from fun j9 h9 => (show ∀ j9, 5 ≤ j9 → (nx gs 1).2.1 j9 = gs.2.1 j9 from fun _ _ => rfl) j9 (by omega)) j9 h9)) j9 h9)) j9 h9))
              have re89 : REm V65 bq gs := REm.ag cem.2.1 (show agr [(0, 7), (0, 8)] [27, 28, 29, 30, 31, 35, 36, 37, 38] V V65 from (agr.tr (agr.tr (agr.tr agr.rf ajV23 (by decide) (by decide)) ajV44 (by decide) (by decide)) ajV65 (by decide) (by decide))) (fun _ => ⟨rfl, rfl, rfl⟩) keepE.rf rfl
              have re90 : REm V65 bq (ndS (nx sx47 1) na48 nf49 nc50) := REm.mv re89 (fun _ _ _ _ => rfl) (keepE.tr (keepE.tr (keepE.tr (keepE.tr (keepE.rf : keepE gs gs) (show keepE gs (nx gs 1) from keepE.eq (show ∀ j9, 5 ≤ j9 → (nx gs 1).2.1 j9 = gs.2.1 j9 from fun _ _ => rfl))) (show keepE (nx gs 1) sx47 from keepE.eq (show ∀ j9, 5 ≤ j9 → sx47.2.1 j9 = (nx gs 1).2.1 j9 from ll55))) (show keepE sx47 (nx sx47 1) from keepE.eq (show ∀ j9, 5 ≤ j9 → (nx sx47 1).2.1 j9 = sx47.2.1 j9 from fun _ _ => rfl))) (show keepE (nx sx47 1) (ndS (nx sx47 1) na48 nf49 nc50) from keepE.eq (show ∀ j9, 5 ≤ j9 → (ndS (nx sx47 1) na48 nf49 nc50).2.1 j9 = (nx sx47 1).2.1 j9 from fun _ _ => rfl))) ((rfl : (ndS (nx sx47 1) na48 nf49 nc50).2.1 2 = (nx sx47 1).2.1 2).trans (((show keepS sx47 1 (nx sx47 1) from (keepS.n1 1)).2.2.1 2 (by decide)).trans (((show keepS (nx gs 1) 1 sx47 from kp53).2.2.1 2 (by decide)).trans (((show keepS gs 1 (nx gs 1) from (keepS.n1 1)).2.2.1 2 (by decide)).trans (rfl : gs.2.1 2 = gs.2.1 2)))))
              have wm91 : WMm V65 bq gs := WMm.ag cem.2.2 (show agr [(0, 7), (0, 8)] [27, 28, 29, 30, 31, 35, 36, 37, 38] V V65 from (agr.tr (agr.tr (agr.tr agr.rf ajV23 (by decide) (by decide)) ajV44 (by decide) (by decide)) ajV65 (by decide) (by decide))) (fun _ => ⟨rfl, rfl, rfl, rfl, rfl⟩) (fun _ _ _ => rfl) rfl
              have wm92 : WMm V65 bq (ndS (nx sx47 1) na48 nf49 nc50) := WMm.mv wm91 (fun _ _ _ _ _ => rfl) ((keepE.tr (keepE.tr (keepE.tr (keepE.tr (keepE.rf : keepE gs gs) (show keepE gs (nx gs 1) from keepE.eq (show ∀ j9, 5 ≤ j9 → (nx gs 1).2.1 j9 = gs.2.1 j9 from fun _ _ => rfl))) (show keepE (nx gs 1) sx47 from keepE.eq (show ∀ j9, 5 ≤ j9 → sx47.2.1 j9 = (nx gs 1).2.1 j9 from ll55))) (show keepE sx47 (nx sx47 1) from keepE.eq (show ∀ j9, 5 ≤ j9 → (nx sx47 1).2.1 j9 = sx47.2.1 j9 from fun _ _ => rfl))) (show keepE (nx sx47 1) (ndS (nx sx47 1) na48 nf49 nc50) from keepE.eq (show ∀ j9, 5 ≤ j9 → (ndS (nx sx47 1) na48 nf49 nc50).2.1 j9 = (nx sx47 1).2.1 j9 from fun _ _ => rfl)))).k9 ((rfl : (ndS (nx sx47 1) na48 nf49 nc50).2.2.1 = (nx sx47 1).2.2.1).trans ((congrArg (fun q9 : List (Nat × Bool) × List Nat => q9.1) (show keepS sx47 1 (nx sx47 1) from (keepS.n1 1)).2.2.2).trans ((congrArg (fun q9 : List (Nat × Bool) × List Nat => q9.1) (show keepS (nx gs 1) 1 sx47 from kp53).2.2.2).trans ((congrArg (fun q9 : List (Nat × Bool) × List Nat => q9.1) (show keepS gs 1 (nx gs 1) from (keepS.n1 1)).2.2.2).trans (rfl : gs.2.2.1 = gs.2.2.1)))))
              have rw93 : RoV 35 bq V V65 := (fun k hk => ((ajV65 35 k rfl).trans ((t40 k hk).trans ((ajV23 35 k rfl).trans rfl))))
              have rw94 : RoV 37 bq V V65 := (fun k hk => ((ajV65 37 k rfl).trans ((t41 k hk).trans ((ajV23 37 k rfl).trans rfl))))
              have rw95 : RoL 36 20 bq L L45 := (fun k hk => ((t42 k hk).trans rfl))
              have rw96 : RoL 38 20 bq L L45 := (fun k hk => ((t43 k hk).trans rfl))
              exact W.vret hx hb hr (fun t ht hW => ⟨⟨(V65, L45), rfl, ⟨hMV65, agV65, alL45, (Imp.mk (fun hp => have hp : (V65 0 8).toInt = 0 := hp; (show (V65 0 48).toInt ≤ 2 * (V65 0 7).toInt from by omega))), (show (V65 0 48).toInt ≤ 8120 from by omega), (Or.inl ⟨W0 rl75, (ndS (nx sx47 1) na48 nf49 nc50), hr76, rl75, (by omega), (OWm.nd ow (keepS.tr (keepS.tr (keepS.tr (keepS.rf : keepS gs 0 gs) (keepS.n1 1)) kp53) (keepS.n1 1)) (show (gs.2.1 3).length ≤ ((nx sx47 1).2.1 3).length from by have h9 := Rc.ml (hr76 []); exact h9) (show (V65 27 gc).toInt = (V 27 gc).toInt + 1 from by have h9 := t38; rw [show V23 27 gc = V 27 gc from ((ajV23 27 _ rfl).trans rfl)] at h9; rw [show V65 27 gc = V44 27 gc from ((ajV65 27 _ rfl).trans rfl)]; exact h9) (show V65 32 gc = V 32 gc from ((ajV65 32 _ rfl).trans ((ajV44 32 _ rfl).trans ((ajV23 32 _ rfl).trans rfl)))) (show V65 33 gc = V 33 gc from ((ajV65 33 _ rfl).trans ((ajV44 33 _ rfl).trans ((ajV23 33 _ rfl).trans rfl)))) (fun f hf => ((show agr [(0, 7), (0, 8)] [27, 28, 29, 30, 31, 35, 36, 37, 38] V V65 from (agr.tr (agr.tr (agr.tr agr.rf ajV23 (by decide) (by decide)) ajV44 (by decide) (by decide)) ajV65 (by decide) (by decide))) 34 _ rfl))), ((rfl : (ndS (nx sx47 1) na48 nf49 nc50).2.1 2 = (nx sx47 1).2.1 2).trans ((((keepS.n1 1)).2.2.1 2 (by decide)).trans (((kp53).2.2.1 2 (by decide)).trans ((((keepS.n1 1)).2.2.1 2 (by decide)).trans (rfl : gs.2.1 2 = gs.2.1 2))))), ((rfl : (ndS (nx sx47 1) na48 nf49 nc50).2.2.1 = (nx sx47 1).2.2.1).trans ((congrArg (fun q9 => q9.1) ((keepS.n1 1)).2.2.2).trans ((congrArg (fun q9 => q9.1) (kp53).2.2.2).trans ((congrArg (fun q9 => q9.1) ((keepS.n1 1)).2.2.2).trans (rfl : gs.2.2.1 = gs.2.2.1))))), cn86, ⟨cd88, re90, wm92⟩⟩), rw93, rw94, rw95, rw96⟩, by rw [ht]; exact hP, va_K.moved hW.alike hK, hD⟩, hS.F ht⟩) hS.2.2 dX12_member_193
            · skip
              have kd97 : gT.1 (sx47.1 0) ≠ 59 := fun h9 => h68 (h9.trans (by decide))
              have hb98 : ∀ k, Rc gT (Crun gs (Imember :: k)) (Cbad (V65 0 8).toInt) := fun k => Rc.go1 (hr56 k) ((tk_n kd97).trans (fl_eq rfl rl69))
              have r99 : 0 ≤ ((V65 0 8)).toInt ∧ ((V65 0 8)).toInt ≤ 70000 := hMV65 0 8
              have pq100 : (V65 0 48).toInt = ((V 0 48)).toInt := congrArg Int32.toInt ((ajV65 0 48 rfl).trans ((ajV44 0 48 rfl).trans (ajV23 0 48 rfl)))
              have rw101 : RoV 35 bq V V65 := (fun k hk => ((ajV65 35 k rfl).trans ((t40 k hk).trans ((ajV23 35 k rfl).trans rfl))))
              have rw102 : RoV 37 bq V V65 := (fun k hk => ((ajV65 37 k rfl).trans ((t41 k hk).trans ((ajV23 37 k rfl).trans rfl))))
              have rw103 : RoL 36 20 bq L L45 := (fun k hk => ((t42 k hk).trans rfl))
              have rw104 : RoL 38 20 bq L L45 := (fun k hk => ((t43 k hk).trans rfl))
              exact W.vret hx hb hr (fun t ht hW => ⟨⟨(V65, L45), rfl, ⟨hMV65, agV65, alL45, (Imp.mk (fun hp => have hp : (V65 0 8).toInt = 0 := hp; (show (V65 0 48).toInt ≤ 2 * (V65 0 7).toInt from by omega))), (show (V65 0 48).toInt ≤ 8120 from by omega), (Or.inr ⟨(show 1 ≤ (V65 0 8).toInt from by (first | exact om_f8d8213eda45 q67 | omega)), hb98⟩), rw101, rw102, rw103, rw104⟩, by rw [ht]; exact hP, va_K.moved hW.alike hK, hD⟩, hS.F ht⟩) hS.2.2 dX12_member_193
          · skip
            have hb105 : ∀ k, Rc gT (Crun gs (Imember :: k)) (Cbad (V44 0 8).toInt) := fun k => (hr29 k).tr (h51 (k))
            have r106 : 0 ≤ ((V44 0 8)).toInt ∧ ((V44 0 8)).toInt ≤ 70000 := hMV44 0 8
            refine lv_goto (tgt := 187) hx hb dX12_member_34 (by decide) ?_
            refine lv_aload_n hx hb dX12_member_187 rfl (lv_at hl 0 rfl) ?_
            refine lv_bipush (v := 59) hx hb dX12_member_188 (by decide) ?_
            have r107 : Int32.toInt 59 = 59 := by decide
            refine gA_void (gA_runV (As := [.int 59]) (rest := []) (ci := 12) (q0 := 0) hx hb hml hown hg hP hD hK hS hA hnw hgk (s_takeSignB l D ks H.size ad kk V44 L45 59 hMV44 (show 1 ≤ (V44 0 8).toInt from by omega)) w2075 w2077 w96 w172 w2078 rfl rfl hdV_yX12_takeSign ⟨Nat.le_of_ble_eq_true rfl, Nat.le_of_ble_eq_true rfl⟩ rfl hl.1 rfl (Nat.le_of_ble_eq_true rfl) dX12_member_190 ⟨Nat.le_of_ble_eq_true rfl, Nat.le_of_ble_eq_true rfl⟩) hP hD hK hS hA (fun u109 H locs w110 hP hD hK hS => ?_)
            obtain ⟨V112, L113⟩ := u109
            obtain ⟨hMV112, ajV112, axL113, t111⟩ := w110
            have axL113 : L45 = L113 := Eq.symm axL113
            subst axL113
            replace hP : va_P D vwCl (mw ad kk ks.1 V112 L45) H := hP
            replace hD : va_D A (mw ad kk ks.1 V112 L45) := hD
            replace hMV112 : rgd bM V112 := hMV112
            replace ajV112 : agr [(0, 7), (0, 8)] [] V44 V112 := ajV112
            have agV112 : agr [(0, 7), (0, 8), (0, 48), (0, 50)] [27, 28, 29, 30, 31, 32, 33, 34, 35, 36, 37, 38, 45, 46, 47] V V112 := agV44.tr ajV112 (by decide) (by decide)
            replace t111 : (V112 0 8).toInt = (V44 0 8).toInt := t111
            have r114 : 0 ≤ ((V112 0 8)).toInt ∧ ((V112 0 8)).toInt ≤ 70000 := hMV112 0 8
            have pq115 : (V112 0 48).toInt = ((V 0 48)).toInt := congrArg Int32.toInt ((ajV112 0 48 rfl).trans ((ajV44 0 48 rfl).trans (ajV23 0 48 rfl)))
            have rw116 : RoV 35 bq V V112 := (fun k hk => ((ajV112 35 k rfl).trans ((t40 k hk).trans ((ajV23 35 k rfl).trans rfl))))
            have rw117 : RoV 37 bq V V112 := (fun k hk => ((ajV112 37 k rfl).trans ((t41 k hk).trans ((ajV23 37 k rfl).trans rfl))))
            have rw118 : RoL 36 20 bq L L45 := (fun k hk => ((t42 k hk).trans rfl))
            have rw119 : RoL 38 20 bq L L45 := (fun k hk => ((t43 k hk).trans rfl))
            exact W.vret hx hb hr (fun t ht hW => ⟨⟨(V112, L45), rfl, ⟨hMV112, agV112, alL45, (Imp.mk (fun hp => have hp : (V112 0 8).toInt = 0 := hp; (show (V112 0 48).toInt ≤ 2 * (V112 0 7).toInt from by omega))), (show (V112 0 48).toInt ≤ 8120 from by omega), (Or.inr ⟨(show 1 ≤ (V112 0 8).toInt from by omega), (fun k => by rw [show (V112 0 8).toInt = (V44 0 8).toInt from by omega]; exact hb105 k)⟩), rw116, rw117, rw118, rw119⟩, by rw [ht]; exact hP, va_K.moved hW.alike hK, hD⟩, hS.F ht⟩) hS.2.2 dX12_member_193
        · skip
          exfalso; (first | exact om_4c701f2d8c50 r18 q25 | omega)
      · skip
        have f120 : ((V 27 (Int32.toNatClampNeg p0))).toInt = 8 := b_eq rfl (by decide) c16
        refine lv_iconst (v := 1) hx hb dX12_member_21 (by decide) ?_
        refine lv_goto (tgt := 26) hx hb dX12_member_22 (by decide) ?_
        have r121 : Int32.toInt 1 = 1 := by decide
        refine gA_void (gA_runV (As := [.int 1]) (rest := []) (ci := 12) (q0 := 0) hx hb hml hown hg hP hD hK hS hA hnw hgk (s_beginsA l D ks H.size ad kk V L 1 (bq) (gn) (gT) (gs) (gl) hMV (by decide) rel (by rw [kd11]; decide)) w2031 w2033 w85 w172 w2034 rfl rfl hdV_yX12_begins ⟨Nat.le_of_ble_eq_true rfl, Nat.le_of_ble_eq_true rfl⟩ rfl hl.1 rfl (Nat.le_of_ble_eq_true rfl) dX12_member_26 ⟨Nat.le_of_ble_eq_true rfl, Nat.le_of_ble_eq_true rfl⟩) hP hD hK hS hA (fun u123 H locs w124 hP hD hK hS => ?_)
        obtain ⟨V126, L127⟩ := u123
        obtain ⟨hMV126, ajV126, axL127, t125⟩ := w124
        have axL127 : L = L127 := Eq.symm axL127
        subst axL127
        replace hP : va_P D vwCl (mw ad kk ks.1 V126 L) H := hP
        replace hD : va_D A (mw ad kk ks.1 V126 L) := hD
        replace hMV126 : rgd bM V126 := hMV126
        replace ajV126 : agr [(0, 7), (0, 8)] [] V V126 := ajV126
        have agV126 : agr [(0, 7), (0, 8), (0, 48), (0, 50)] [27, 28, 29, 30, 31, 32, 33, 34, 35, 36, 37, 38, 45, 46, 47] V V126 := agV.tr ajV126 (by decide) (by decide)
        replace t125 : ((Int32.toInt 1) = 0 ∧ (V126 0 8).toInt = 0 ∧ RelM V126 L (bq) (gn) (gT) (nx (gs) 1) (gl)) ∨ ((Int32.toInt 1) = 1 ∧ 1 ≤ (V126 0 8).toInt ∧ (V126 0 8).toInt = 5 + 16 * (gT).2.2 ((gs).1 0)) := t125
        rcases t125 with ⟨q128, f129, rl130⟩ | ⟨q128, f129, rl130⟩
        · skip
          exfalso; (first | exact om_495ee03a60ae r121 q128 | omega)
        · skip
          have hr131 : ∀ k, Rc gT (Crun gs (Imember :: k)) (Crun gs (Imember :: k)) := fun k => Rc.rf
          have hb132 : ∀ k, Rc gT (Crun gs (Imember :: k)) (Cbad (V126 0 8).toInt) := fun k => Rc.go1 (hr131 k) ((mb_137f kd11 (by have h9 := ow.1; omega)).trans (fl_eq rfl rl130))
          have r133 : 0 ≤ ((V126 0 8)).toInt ∧ ((V126 0 8)).toInt ≤ 70000 := hMV126 0 8
          refine lv_aload_n hx hb dX12_member_29 rfl (lv_at hl 0 rfl) ?_
          refine lv_iload_n hx hb dX12_member_30 rfl (lv_at hl 1 rfl) ?_
          refine gA_void (gA_runV (As := [.int p0]) (rest := []) (ci := 12) (q0 := 0) hx hb hml hown hg hP hD hK hS hA hnw hgk (s_takeNeedB l D ks H.size ad kk V126 L p0 hMV126 (by (first | exact om_e5692c1ed2d7 rg_p0.2 pgc gcb | omega)) (show 1 ≤ (V126 0 8).toInt from by (first | exact om_f8d8213eda45 f129 | omega))) w2108 w2110 w104 w172 w2111 rfl rfl hdV_yX12_takeNeed ⟨Nat.le_of_ble_eq_true rfl, Nat.le_of_ble_eq_true rfl⟩ rfl hl.1 rfl (Nat.le_of_ble_eq_true rfl) dX12_member_31 ⟨Nat.le_of_ble_eq_true rfl, Nat.le_of_ble_eq_true rfl⟩) hP hD hK hS hA (fun u135 H locs w136 hP hD hK hS => ?_)
          obtain ⟨V142, L143⟩ := u135
          obtain ⟨hMV142, ajV142, axL143, t137, t138, t139, t140, t141⟩ := w136
          have alL143 : agL [27, 28, 29, 30, 31, 32, 33, 34, 35, 36, 37, 38, 45, 46, 47] L L143 := agL.tr alL axL143 (by decide)
          replace hP : va_P D vwCl (mw ad kk ks.1 V142 L143) H := hP
          replace hD : va_D A (mw ad kk ks.1 V142 L143) := hD
          replace hMV142 : rgd bM V142 := hMV142
          replace ajV142 : agr [(0, 7), (0, 8)] [27, 28, 29, 30, 31, 35, 36, 37, 38] V126 V142 := ajV142
          have agV142 : agr [(0, 7), (0, 8), (0, 48), (0, 50)] [27, 28, 29, 30, 31, 32, 33, 34, 35, 36, 37, 38, 45, 46, 47] V V142 := agV126.tr ajV142 (by decide) (by decide)
          replace t137 : (V142 0 8).toInt = (V126 0 8).toInt := t137
          replace t138 : NoV 35 V126 V142 := t138
          replace t139 : NoV 37 V126 V142 := t139
          replace t140 : NoL 36 L L143 := t140
          replace t141 : NoL 38 L L143 := t141
          have r144 : 0 ≤ ((V142 0 8)).toInt ∧ ((V142 0 8)).toInt ≤ 70000 := hMV142 0 8
          refine lv_goto (tgt := 187) hx hb dX12_member_34 (by decide) ?_
          refine lv_aload_n hx hb dX12_member_187 rfl (lv_at hl 0 rfl) ?_
          refine lv_bipush (v := 59) hx hb dX12_member_188 (by decide) ?_
          have r145 : Int32.toInt 59 = 59 := by decide
          refine gA_void (gA_runV (As := [.int 59]) (rest := []) (ci := 12) (q0 := 0) hx hb hml hown hg hP hD hK hS hA hnw hgk (s_takeSignB l D ks H.size ad kk V142 L143 59 hMV142 (show 1 ≤ (V142 0 8).toInt from by (first | exact om_e3c391a03e81 f129 t137 | omega))) w2075 w2077 w96 w172 w2078 rfl rfl hdV_yX12_takeSign ⟨Nat.le_of_ble_eq_true rfl, Nat.le_of_ble_eq_true rfl⟩ rfl hl.1 rfl (Nat.le_of_ble_eq_true rfl) dX12_member_190 ⟨Nat.le_of_ble_eq_true rfl, Nat.le_of_ble_eq_true rfl⟩) hP hD hK hS hA (fun u147 H locs w148 hP hD hK hS => ?_)
          obtain ⟨V150, L151⟩ := u147
          obtain ⟨hMV150, ajV150, axL151, t149⟩ := w148
          have axL151 : L143 = L151 := Eq.symm axL151
          subst axL151
          replace hP : va_P D vwCl (mw ad kk ks.1 V150 L143) H := hP
          replace hD : va_D A (mw ad kk ks.1 V150 L143) := hD
          replace hMV150 : rgd bM V150 := hMV150
          replace ajV150 : agr [(0, 7), (0, 8)] [] V142 V150 := ajV150
          have agV150 : agr [(0, 7), (0, 8), (0, 48), (0, 50)] [27, 28, 29, 30, 31, 32, 33, 34, 35, 36, 37, 38, 45, 46, 47] V V150 := agV142.tr ajV150 (by decide) (by decide)
          replace t149 : (V150 0 8).toInt = (V142 0 8).toInt := t149
          have r152 : 0 ≤ ((V150 0 8)).toInt ∧ ((V150 0 8)).toInt ≤ 70000 := hMV150 0 8
          have pq153 : (V150 0 48).toInt = ((V 0 48)).toInt := congrArg Int32.toInt ((ajV150 0 48 rfl).trans ((ajV142 0 48 rfl).trans (ajV126 0 48 rfl)))
          have rw154 : RoV 35 bq V V150 := (fun k hk => ((ajV150 35 k rfl).trans ((t138 k).trans ((ajV126 35 k rfl).trans rfl))))
          have rw155 : RoV 37 bq V V150 := (fun k hk => ((ajV150 37 k rfl).trans ((t139 k).trans ((ajV126 37 k rfl).trans rfl))))
          have rw156 : RoL 36 20 bq L L143 := (fun k hk => ((t140 k).trans rfl))
          have rw157 : RoL 38 20 bq L L143 := (fun k hk => ((t141 k).trans rfl))
          exact W.vret hx hb hr (fun t ht hW => ⟨⟨(V150, L143), rfl, ⟨hMV150, agV150, alL143, (Imp.mk (fun hp => have hp : (V150 0 8).toInt = 0 := hp; (show (V150 0 48).toInt ≤ 2 * (V150 0 7).toInt from by omega))), (show (V150 0 48).toInt ≤ 8120 from by omega), (Or.inr ⟨(show 1 ≤ (V150 0 8).toInt from by (first | exact om_2487ca371d8b f129 t137 t149 | omega)), (fun k => by rw [show (V150 0 8).toInt = (V126 0 8).toInt from by omega]; exact hb132 k)⟩), rw154, rw155, rw156, rw157⟩, by rw [ht]; exact hP, va_K.moved hW.alike hK, hD⟩, hS.F ht⟩) hS.2.2 dX12_member_193
  · skip
    have kd158 : gT.1 (gs.1 0) ≠ 137 := fun h9 => h10 (h9.trans (by decide))
    refine lv_if_eq (tgt := 37) hx hb dX12_member_6 (by decide) (fun c159 => ?_) (fun c159 => ?_)
    · skip
      have f160 : z5.toInt = 0 := b_eq rfl (by decide) c159
      refine lv_aload_n hx hb dX12_member_37 rfl (lv_at hl 0 rfl) ?_
      refine va_get (D := D) (ci := 12) (v := .ref (ad 32)) (C := RX12) (T := TX12) (N := 100) hx hb hg inX12 hown hK hP 0 rfl rfl 32 (by decide) (hg _ w1738) (fun _ h9 => h9) rfl dX12_member_38 ?_
      refine lv_iload_n hx hb dX12_member_41 rfl (lv_at hl 1 rfl) ?_
      refine va_iald (D := D) (i := p0) hx hb hK hP 25 24 rfl rfl (i_in (a := p0.toInt) rfl (by (first | exact om_f0baf2fc82c2 rg_p0.2 pgc gcb | omega))) dX12_member_42 ?_
      refine lv_if_ge (tgt := 68) hx hb dX12_member_43 (by decide) (fun c161 => ?_) (fun c161 => ?_)
      · skip
        have f162 : 0 ≤ ((V 32 (Int32.toNatClampNeg p0))).toInt := b_le (by decide) rfl c161
        refine lv_aload_n hx hb dX12_member_68 rfl (lv_at hl 0 rfl) ?_
        refine va_get (D := D) (ci := 12) (v := .ref (ad 33)) (C := RX12) (T := TX12) (N := 100) hx hb hg inX12 hown hK hP 0 rfl rfl 33 (by decide) (hg _ w1739) (fun _ h9 => h9) rfl dX12_member_69 ?_
        refine lv_iload_n hx hb dX12_member_72 rfl (lv_at hl 1 rfl) ?_
        refine va_iald (D := D) (i := p0) hx hb hK hP 26 25 rfl rfl (i_in (a := p0.toInt) rfl (by (first | exact om_f0baf2fc82c2 rg_p0.2 pgc gcb | omega))) dX12_member_73 ?_
        refine lv_if_ge (tgt := 99) hx hb dX12_member_74 (by decide) (fun c163 => ?_) (fun c163 => ?_)
        · skip
          have f164 : 0 ≤ ((V 33 (Int32.toNatClampNeg p0))).toInt := b_le (by decide) rfl c163
          refine lv_aload_n hx hb dX12_member_99 rfl (lv_at hl 0 rfl) ?_
          refine lv_bipush (v := 14) hx hb dX12_member_100 (by decide) ?_
          have r165 : Int32.toInt 14 = 14 := by decide
          refine gA_int (gA_runV (As := [.int 14]) (rest := []) (ci := 12) (q0 := 0) hx hb hml hown hg hP hD hK hS hA hnw hgk (s_hasWordA l D ks H.size ad kk V L 14 (bq) (gn) (gT) (gs) (gl) hMV (by decide) rel) w2051 w2053 w90 w172 w2054 rfl rfl hdV_yX12_hasWord ⟨Nat.le_of_ble_eq_true rfl, Nat.le_of_ble_eq_true rfl⟩ rfl hl.1 rfl (Nat.le_of_ble_eq_true rfl) dX12_member_102 ⟨Nat.le_of_ble_eq_true rfl, Nat.le_of_ble_eq_true rfl⟩) hP hD hK hS hA (fun z166 u167 H locs w168 hP hD hK hS => ?_)
          obtain ⟨V170, L171⟩ := u167
          obtain ⟨hMV170, ajV170, axL171, rgz166, t169⟩ := w168
          have axL171 : L = L171 := Eq.symm axL171
          subst axL171
          replace hP : va_P D vwCl (mw ad kk ks.1 V170 L) H := hP
          replace hD : va_D A (mw ad kk ks.1 V170 L) := hD
          replace hMV170 : rgd bM V170 := hMV170
          replace ajV170 : agr [(0, 7)] [] V V170 := ajV170
          have agV170 : agr [(0, 7), (0, 8), (0, 48), (0, 50)] [27, 28, 29, 30, 31, 32, 33, 34, 35, 36, 37, 38, 45, 46, 47] V V170 := agV.tr ajV170 (by decide) (by decide)
          replace rgz166 : 0 ≤ z166.toInt ∧ z166.toInt ≤ 1 := rgz166
          replace t169 : (z166.toInt = 1 ∧ (gT).1 ((gs).1 0) = 128 + (Int32.toInt 14) ∧ RelM V170 L (bq) (gn) (gT) (nx (gs) 1) (gl)) ∨ (z166.toInt = 0 ∧ (gT).1 ((gs).1 0) ≠ 128 + (Int32.toInt 14) ∧ RelM V170 L (bq) (gn) (gT) (gs) (gl)) := t169
          rcases t169 with ⟨q172, h173, rl174⟩ | ⟨q172, h173, rl174⟩
          · skip
            have kd175 : gT.1 (gs.1 0) = 142 := h173.trans (by decide)
            have hr176 : ∀ k, Rc gT (Crun gs (Imember :: k)) (Crun gs (Imember :: k)) := fun k => Rc.rf
            have hr177 : ∀ k, Rc gT (Crun gs (Imember :: k)) (Crun (nx gs 1) (ImethN :: Iexpr 0 :: Iem 0 :: Itake 59 :: Imember :: k)) := fun k => Rc.go1 (hr176 k) (mb_142 kd175)
            have ps178 : (nx gs 1).1 0 = gs.1 0 + 1 := rfl
            have fz179 := RelM.rg rl174
            have pq180 : (V170 0 8).toInt = ((V 0 8)).toInt := congrArg Int32.toInt (ajV170 0 8 rfl)
            have r181 : 0 ≤ ((V 0 8)).toInt ∧ ((V 0 8)).toInt ≤ 70000 := hMV 0 8
            refine lv_if_eq (tgt := 182) hx hb dX12_member_105 (by decide) (fun c182 => ?_) (fun c182 => ?_)
            · skip
              have f183 : z166.toInt = 0 := b_eq rfl (by decide) c182
              exfalso; (first | exact om_495ee03a60ae q172 f183 | omega)
            · skip
              have f184 : z166.toInt ≠ 0 := b_neq rfl (by decide) c182
              refine lv_aload_n hx hb dX12_member_108 rfl (lv_at hl 0 rfl) ?_
              refine lv_aload_n hx hb dX12_member_109 rfl (lv_at hl 0 rfl) ?_
              refine va_get (D := D) (ci := 12) (v := .ref (ad 36)) (C := RX12) (T := TX12) (N := 100) hx hb hg inX12 hown hK hP 0 rfl rfl 36 (by decide) (hg _ w1742) (fun _ h9 => h9) rfl dX12_member_110 ?_
              refine lv_aload_n hx hb dX12_member_113 rfl (lv_at hl 0 rfl) ?_
              refine va_get (D := D) (ci := 12) (v := .ref (ad 35)) (C := RX12) (T := TX12) (N := 100) hx hb hg inX12 hown hK hP 0 rfl rfl 35 (by decide) (hg _ w1741) (fun _ h9 => h9) rfl dX12_member_114 ?_
              refine gA_int (gA_runV (As := [.ref (ad 36), .ref (ad 35)]) (rest := []) (ci := 12) (q0 := 0) hx hb hml hown hg hP hD hK hS hA hnw hgk (s_takeWordOf3 l D ks H.size ad kk V170 L (bq) (gn) (gT) ((nx gs 1)) (gl) hMV170 rl174) w2100 w2102 w102 w172 w2103 rfl rfl hdV_yX12_takeWordOf ⟨Nat.le_of_ble_eq_true rfl, Nat.le_of_ble_eq_true rfl⟩ rfl hl.1 rfl (Nat.le_of_ble_eq_true rfl) dX12_member_117 ⟨Nat.le_of_ble_eq_true rfl, Nat.le_of_ble_eq_true rfl⟩) hP hD hK hS hA (fun z185 u186 H locs w187 hP hD hK hS => ?_)
              obtain ⟨V193, L194⟩ := u186
              obtain ⟨hMV193, ajV193, axL194, rgz185, t188, t189, t190, t191, t192⟩ := w187
              have alL194 : agL [27, 28, 29, 30, 31, 32, 33, 34, 35, 36, 37, 38, 45, 46, 47] L L194 := agL.tr alL axL194 (by decide)
              replace hP : va_P D vwCl (mw ad kk ks.1 V193 L194) H := hP
              replace hD : va_D A (mw ad kk ks.1 V193 L194) := hD
              replace hMV193 : rgd bM V193 := hMV193
              replace ajV193 : agr [(0, 7), (0, 8)] [35, 36, 37, 38] V170 V193 := ajV193
              have agV193 : agr [(0, 7), (0, 8), (0, 48), (0, 50)] [27, 28, 29, 30, 31, 32, 33, 34, 35, 36, 37, 38, 45, 46, 47] V V193 := agV170.tr ajV193 (by decide) (by decide)
              replace rgz185 : (-1) ≤ z185.toInt ∧ z185.toInt ≤ 19 := rgz185
              replace t188 : KmS (mthW (gT) ((nx gs 1)) 3) (V193 0 8).toInt (fun x9 => RelM V193 L194 (bq) (gn) (gT) x9.2 (gl) ∧ z185.toInt = ((x9.1 : Nat) : Int) ∧ x9.1 < 20 ∧ keepS ((nx gs 1)) 1 x9.2 ∧ MTX (gT) ((nx gs 1)) 3 x9) := t188
              replace t189 : RoV 35 (bq) V170 V193 := t189
              replace t190 : RoV 37 (bq) V170 V193 := t190
              replace t191 : RoL 36 20 (bq) L L194 := t191
              replace t192 : RoL 38 20 (bq) L L194 := t192
              rcases t188 with ⟨q195, mx196, h197, rl198, hf199, hb200, kp201, mt202⟩ | ⟨q195, h197⟩
              · skip
                have ps203 := kp201.1
                have fz204 := RelM.rg rl198
                have r205 : 0 ≤ ((V193 0 8)).toInt ∧ ((V193 0 8)).toInt ≤ 70000 := hMV193 0 8
                refine lv_istore_n (lv' := [(2, .int z185), (0, .ref (ad 0)), (1, .int p0)]) hx hb dX12_member_120 rfl hl (by decide) rfl (fun ls hl => ?_)
                refine lv_aload_n hx hb dX12_member_121 rfl (lv_at hl 1 rfl) ?_
                refine va_get (D := D) (ci := 12) (v := .int (V193 0 8)) (C := RX12) (T := TX12) (N := 100) hx hb hg inX12 hown hK hP 0 rfl rfl 8 (by decide) (hg _ w1714) (fun _ h9 => h9) rfl dX12_member_122 ?_
                refine lv_if_ne (tgt := 157) hx hb dX12_member_125 (by decide) (fun c206 => ?_) (fun c206 => ?_)
                · skip
                  have f207 : ((V193 0 8)).toInt ≠ 0 := b_neq rfl (by decide) c206
                  exfalso; omega
                · skip
                  have f208 : ((V193 0 8)).toInt = 0 := b_eq rfl (by decide) c206
                  refine lv_aload_n hx hb dX12_member_128 rfl (lv_at hl 1 rfl) ?_
                  refine va_get (D := D) (ci := 12) (v := .ref (ad 34)) (C := RX12) (T := TX12) (N := 100) hx hb hg inX12 hown hK hP 0 rfl rfl 34 (by decide) (hg _ w1740) (fun _ h9 => h9) rfl dX12_member_129 ?_
                  refine lv_bipush (v := 20) hx hb dX12_member_132 (by decide) ?_
                  refine lv_iload_n hx hb dX12_member_134 rfl (lv_at hl 2 rfl) ?_
                  refine lv_imul hx hb dX12_member_135 ?_
                  refine lv_topi (fun z209 ez209 => ?_)
                  have hz209 : z209.toInt = 20 * p0.toInt := i_mul ez209 (by decide) rfl (by (first | exact om_add9820b4ee0 rg_p0.2 pgc gcb | omega))
                  refine lv_iload_n hx hb dX12_member_136 rfl (lv_at hl 0 rfl) ?_
                  refine lv_iadd hx hb dX12_member_137 ?_
                  refine lv_topi (fun z210 ez210 => ?_)
                  have hz210 : z210.toInt = z209.toInt + z185.toInt := i_add ez210 rfl rfl (by (first | exact om_85e70de82a4a rg_p0.2 pgc gcb rgz185.1 rgz185.2 hz209 | omega))
                  refine va_iald (D := D) (i := z210) hx hb hK hP 27 26 rfl rfl (i_in (a := z210.toInt) rfl (by omega)) dX12_member_138 ?_
                  refine g_top (v := (V 34 (Int32.toNatClampNeg z210))) ((ajV193 34 (Int32.toNatClampNeg z210) rfl).trans (ajV170 34 (Int32.toNatClampNeg z210) rfl)) ?_
                  have kc212 : Int32.toNatClampNeg z210 = 20 * gc + mx196.1 := by have h9 := i_clamp (x := z210) rfl (by omega); omega
                  have ma211 : (V 34 (Int32.toNatClampNeg z210)).toInt = (V 34 (20 * gc + mx196.1)).toInt := by rw [kc212]
                  have ow5 := ow.2.2.2.2.1 mx196.1 hb200
                  have oS : (nx gs 1).2.2.2 = gs.2.2.2 := congrArg (fun q9 => q9.2) ((keepS.tr (keepS.rf : keepS gs 0 gs) (keepS.n1 1))).2.2.2
                  have oL : (nx gs 1).2.1 3 = gs.2.1 3 := rfl
                  refine lv_if_lt (tgt := 157) hx hb dX12_member_139 (by decide) (fun c213 => ?_) (fun c213 => ?_)
                  · skip
                    have f214 : ((V 34 (Int32.toNatClampNeg z210))).toInt < 0 := b_lt rfl (by decide) c213
                    refine lv_aload_n hx hb dX12_member_157 rfl (lv_at hl 1 rfl) ?_
                    refine va_get (D := D) (ci := 12) (v := .int (V193 0 8)) (C := RX12) (T := TX12) (N := 100) hx hb hg inX12 hown hK hP 0 rfl rfl 8 (by decide) (hg _ w1714) (fun _ h9 => h9) rfl dX12_member_158 ?_
                    refine lv_if_ne (tgt := 179) hx hb dX12_member_161 (by decide) (fun c215 => ?_) (fun c215 => ?_)
                    · skip
                      have f216 : ((V193 0 8)).toInt ≠ 0 := b_neq rfl (by decide) c215
                      exfalso; (first | exact om_fb320d7600b7 r205.1 f208 f216 | omega)
                    · skip
                      have f217 : ((V193 0 8)).toInt = 0 := b_eq rfl (by decide) c215
                      have nt9 : mx196.1 ∉ (nx gs 1).2.2.2 := by rw [oS]; exact fun q9 => absurd (ow5.mpr q9) (by omega)
                      have hr218 : ∀ k, Rc gT (Crun gs (Imember :: k)) (Crun (sL (sT mx196.2 (mx196.1 :: (nx gs 1).2.2.2)) (100 + 32 * (((nx gs 1).2.1 2).length - 1) + mx196.1) (cl (nx gs 1) + 1)) (Iexpr 0 :: Iem 0 :: Itake 59 :: Imember :: k)) := fun k => Rc.go1 (hr177 k) (mn_y (MTX.new mt202 h197 nt9))
                      have ps219 : (sT mx196.2 (mx196.1 :: (nx gs 1).2.2.2)).1 0 = mx196.2.1 0 := rfl
                      have rl220 : RelM V193 L194 bq gn gT (sT mx196.2 (mx196.1 :: (nx gs 1).2.2.2)) gl := RelM.tl rl198
                      have rl221 : RelM V193 L194 bq gn gT (sL (sT mx196.2 (mx196.1 :: (nx gs 1).2.2.2)) (100 + 32 * (((nx gs 1).2.1 2).length - 1) + mx196.1) (cl (nx gs 1) + 1)) gl := RelM.gl rl220 (by omega)
                      have ps222 : (sL (sT mx196.2 (mx196.1 :: (nx gs 1).2.2.2)) (100 + 32 * (((nx gs 1).2.1 2).length - 1) + mx196.1) (cl (nx gs 1) + 1)).1 0 = (sT mx196.2 (mx196.1 :: (nx gs 1).2.2.2)).1 0 := rfl
                      refine lv_aload_n hx hb dX12_member_164 rfl (lv_at hl 1 rfl) ?_
                      refine va_get (D := D) (ci := 12) (v := .ref (ad 34)) (C := RX12) (T := TX12) (N := 100) hx hb hg inX12 hown hK hP 0 rfl rfl 34 (by decide) (hg _ w1740) (fun _ h9 => h9) rfl dX12_member_165 ?_
                      refine lv_bipush (v := 20) hx hb dX12_member_168 (by decide) ?_
                      refine lv_iload_n hx hb dX12_member_170 rfl (lv_at hl 2 rfl) ?_
                      refine lv_imul hx hb dX12_member_171 ?_
                      refine lv_topi (fun z223 ez223 => ?_)
                      have hz223 : z223.toInt = 20 * p0.toInt := i_mul ez223 (by decide) rfl (by (first | exact om_add9820b4ee0 rg_p0.2 pgc gcb | omega))
                      refine lv_iload_n hx hb dX12_member_172 rfl (lv_at hl 0 rfl) ?_
                      refine lv_iadd hx hb dX12_member_173 ?_
                      refine lv_topi (fun z224 ez224 => ?_)
                      have hz224 : z224.toInt = z223.toInt + z185.toInt := i_add ez224 rfl rfl (by (first | exact om_85e70de82a4a rg_p0.2 pgc gcb rgz185.1 rgz185.2 hz223 | omega))
                      refine lv_aload_n hx hb dX12_member_174 rfl (lv_at hl 1 rfl) ?_
                      have pq225 : (V193 0 48).toInt = ((V 0 48)).toInt := congrArg Int32.toInt ((ajV193 0 48 rfl).trans (ajV170 0 48 rfl))
                      have pq226 : (V193 0 51).toInt = ((V 0 51)).toInt := congrArg Int32.toInt ((ajV193 0 51 rfl).trans (ajV170 0 51 rfl))
                      have pq227 : (V193 0 52).toInt = ((V 0 52)).toInt := congrArg Int32.toInt ((ajV193 0 52 rfl).trans (ajV170 0 52 rfl))
                      have cd228 : CDm V193 (10000 * bq) gs := CDm.ag cem.1 (show agr [(0, 7), (0, 8)] [35, 36, 37, 38] V V193 from (agr.tr (agr.tr agr.rf ajV170 (by decide) (by decide)) ajV193 (by decide) (by decide))) ⟨rfl, rfl, fun _ => ⟨rfl, rfl, rfl⟩⟩
                      have cd229 : CDm V193 (10000 * bq) (sL (sT mx196.2 (mx196.1 :: (nx gs 1).2.2.2)) (100 + 32 * (((nx gs 1).2.1 2).length - 1) + mx196.1) (cl (nx gs 1) + 1)) := CDm.mv cd228 (fun j9 h9 => ((show ∀ j9, j9 = 5 ∨ 2000 ≤ j9 → (sL (sT mx196.2 (mx196.1 :: (nx gs 1).2.2.2)) (100 + 32 * (((nx gs 1).2.1 2).length - 1) + mx196.1) (cl (nx gs 1) + 1)).2.1 j9 = (sT mx196.2 (mx196.1 :: (nx gs 1).2.2.2)).2.1 j9 from fun j9 h9 => sL_o _ _ (by have h9 := cem.2.1.1; have h8 : (nx gs 1).2.1 2 = gs.2.1 2 := rfl; rw [h8]; omega)) j9 h9).trans ((fun j9 h9 => ((show ∀ j9, j9 = 5 ∨ 2000 ≤ j9 → (sT mx196.2 (mx196.1 :: (nx gs 1).2.2.2)).2.1 j9 = mx196.2.2.1 j9 from fun j9 h9 => (show ∀ j9, 5 ≤ j9 → (sT mx196.2 (mx196.1 :: (nx gs 1).2.2.2)).2.1 j9 = mx196.2.2.1 j9 from fun _ _ => rfl) j9 (by omega)) j9 h9).trans ((fun j9 h9 => ((show ∀ j9, j9 = 5 ∨ 2000 ≤ j9 → mx196.2.2.1 j9 = (nx gs 1).2.1 j9 from fun j9 h9 => (show ∀ j9, 5 ≤ j9 → mx196.2.2.1 j9 = (nx gs 1).2.1 j9 from (mth_e (j0 := 3) (by decide) h197)) j9 (by omega)) j9 h9).trans ((show ∀ j9, j9 = 5 ∨ 2000 ≤ j9 → (nx gs 1).2.1 j9 = gs.2.1 j9 from fun j9 h9 => (show ∀ j9, 5 ≤ j9 → (nx gs 1).2.1 j9 = gs.2.1 j9 from fun _ _ => rfl) j9 (by omega)) j9 h9)) j9 h9)) j9 h9))
                      refine gA_int (gA_runV (As := []) (rest := [.int z224, .ref (ad 34)]) (ci := 12) (q0 := 0) hx hb hml hown hg hP hD hK hS hA hnw hgk (s_codeA l D ks H.size ad kk V193 L194 (bq) (gn) (gT) ((sL (sT mx196.2 (mx196.1 :: (nx gs 1).2.2.2)) (100 + 32 * (((nx gs 1).2.1 2).length - 1) + mx196.1) (cl (nx gs 1) + 1))) (gl) hMV193 rl221 (show (V193 0 48).toInt ≤ 2 * (V193 0 7).toInt from by omega) (EM.o2 (o := gc) (show (V193 27 gc).toInt = ((mx196.2.1 1 : Nat) : Int) from by rw [(by rw [(funext (fun q => ajV193 27 q rfl) : V193 27 = V170 27), (funext (fun q => ajV170 27 q rfl) : V170 27 = V 27)] : V193 27 = V 27)]; exact (by rw [((keepS.tr (keepS.tr (keepS.rf : keepS gs 0 gs) (keepS.n1 1)) kp201)).2.1 1 (by decide)]; exact ow.1)) (show mx196.2.1 4 = 0 from (by rw [((keepS.tr (keepS.tr (keepS.rf : keepS gs 0 gs) (keepS.n1 1)) kp201)).2.1 4 (by decide)]; exact ow.2.2.2.1)) (by omega) (by omega)) cd229) w2112 w2114 w105 w172 w2115 rfl rfl hdV_yX12_code ⟨Nat.le_of_ble_eq_true rfl, Nat.le_of_ble_eq_true rfl⟩ rfl hl.1 rfl (Nat.le_of_ble_eq_true rfl) dX12_member_175 ⟨Nat.le_of_ble_eq_true rfl, Nat.le_of_ble_eq_true rfl⟩) hP hD hK hS hA (fun z230 u231 H locs w232 hP hD hK hS => ?_)
                      obtain ⟨V242, L243⟩ := u231
                      obtain ⟨hMV242, ajV242, axL243, rgz230, t233, t234, t235, t236, t237, t238, t239, t240, t241⟩ := w232
                      have alL243 : agL [27, 28, 29, 30, 31, 32, 33, 34, 35, 36, 37, 38, 45, 46, 47] L L243 := agL.tr alL194 axL243 (by decide)
                      replace hP : va_P D vwCl (mw ad kk ks.1 V242 L243) H := hP
                      replace hD : va_D A (mw ad kk ks.1 V242 L243) := hD
                      replace hMV242 : rgd bM V242 := hMV242
                      replace ajV242 : agr [(0, 7), (0, 8), (0, 48), (0, 50)] [35, 36, 37, 38, 45, 46, 47] V193 V242 := ajV242
                      have agV242 : agr [(0, 7), (0, 8), (0, 48), (0, 50)] [27, 28, 29, 30, 31, 32, 33, 34, 35, 36, 37, 38, 45, 46, 47] V V242 := agV193.tr ajV242 (by decide) (by decide)
                      replace rgz230 : 0 ≤ z230.toInt ∧ z230.toInt ≤ 20000 := rgz230
                      replace t233 : Imp ((V242 0 8).toInt = 0) ((V242 0 48).toInt - (V193 0 48).toInt ≤ 2 * ((V242 0 7).toInt - (V193 0 7).toInt) + 1) := t233
                      replace t234 : (V242 0 48).toInt ≤ 8060 := t234
                      replace t235 : (V193 0 48).toInt ≤ (V242 0 48).toInt := t235
                      replace t236 : z230.toInt = (V193 0 49).toInt + (V193 0 48).toInt := t236
                      replace t237 : RdM (gT) ((sL (sT mx196.2 (mx196.1 :: (nx gs 1).2.2.2)) (100 + 32 * (((nx gs 1).2.1 2).length - 1) + mx196.1) (cl (nx gs 1) + 1))) (fun k => Iexpr 0 :: Iem 0 :: k) (fun k => k) (V242 0 8).toInt (fun s9 => RelM V242 L243 (bq) (gn) (gT) s9 (gl) ∧ keepS ((sL (sT mx196.2 (mx196.1 :: (nx gs 1).2.2.2)) (100 + 32 * (((nx gs 1).2.1 2).length - 1) + mx196.1) (cl (nx gs 1) + 1))) 1 s9 ∧ keepE ((sL (sT mx196.2 (mx196.1 :: (nx gs 1).2.2.2)) (100 + 32 * (((nx gs 1).2.1 2).length - 1) + mx196.1) (cl (nx gs 1) + 1))) s9 ∧ CDm V242 (10000 * (bq)) s9) := t237
                      replace t238 : RoV 35 (bq) V193 V242 := t238
                      replace t239 : RoV 37 (bq) V193 V242 := t239
                      replace t240 : RoL 36 20 (bq) L194 L243 := t240
                      replace t241 : RoL 38 20 (bq) L194 L243 := t241
                      have r244 : 0 ≤ ((V242 0 48)).toInt ∧ ((V242 0 48)).toInt ≤ 10000 := hMV242 0 48
                      have r245 : 0 ≤ ((V242 0 8)).toInt ∧ ((V242 0 8)).toInt ≤ 70000 := hMV242 0 8
                      have pq246 : (V193 0 49).toInt = ((V 0 49)).toInt := congrArg Int32.toInt ((ajV193 0 49 rfl).trans (ajV170 0 49 rfl))
                      have r247 : 0 ≤ ((V 0 49)).toInt ∧ ((V 0 49)).toInt ≤ 10000 := hMV 0 49
                      rcases t237 with ⟨q248, sx249, h250, rl251, kp252, ke253, cd254⟩ | ⟨q248, h250⟩
                      · skip
                        have hr255 : ∀ k, Rc gT (Crun gs (Imember :: k)) (Crun sx249 (Itake 59 :: Imember :: k)) := fun k => (hr218 k).tr (h250 (Itake 59 :: Imember :: k))
                        have fz256 := RelM.rg rl251
                        have ps257 := (kp252).1
                        refine va_iast (D := D) (i := z224) (x := z230) hx hb hK hP hD hS 27 26 rfl rfl (i_in (a := z224.toInt) rfl (by first | omega | ((try (have i_t233 := Imp.go t233 (by omega))); omega))) dX12_member_178 (fun H locs hP hD hS => ?_)
                        obtain ⟨V258, hV258⟩ : ∃ z, z = up2 V242 34 (Int32.toNatClampNeg z224) z230 := ⟨_, rfl⟩
                        have hP : va_P D vwCl (mw ad kk ks.1 V258 L243) H := by rw [hV258]; exact hP
                        have hD : va_D A (mw ad kk ks.1 V258 L243) := by rw [hV258]; exact hD
                        have hMV258 : rgd bM V258 := hMV242.put hV258 (i_full _)
                        have agV258 : agr [(0, 7), (0, 8), (0, 48), (0, 50)] [27, 28, 29, 30, 31, 32, 33, 34, 35, 36, 37, 38, 45, 46, 47] V V258 := agV242.up hV258 rfl
                        refine lv_goto (tgt := 187) hx hb dX12_member_179 (by decide) ?_
                        refine lv_aload_n hx hb dX12_member_187 rfl (lv_at hl 1 rfl) ?_
                        refine lv_bipush (v := 59) hx hb dX12_member_188 (by decide) ?_
                        have rl259 : RelM V258 L243 bq gn gT sx249 gl := RelM.ag rl251 (show agr [] [34] V242 V258 from (agr.up agr.rf hV258 rfl)) (by decide) (show agL [] L243 L243 from agL.rf) (by decide)
                        have r260 : Int32.toInt 59 = 59 := by decide
                        refine gA_void (gA_runV (As := [.int 59]) (rest := []) (ci := 12) (q0 := 0) hx hb hml hown hg hP hD hK hS hA hnw hgk (s_takeSignA l D ks H.size ad kk V258 L243 59 (bq) (gn) (gT) (sx249) (gl) hMV258 rl259 (sg_yes (j := 59) (by decide) (by decide) (by decide))) w2075 w2077 w96 w172 w2078 rfl rfl hdV_yX12_takeSign ⟨Nat.le_of_ble_eq_true rfl, Nat.le_of_ble_eq_true rfl⟩ rfl hl.1 rfl (Nat.le_of_ble_eq_true rfl) dX12_member_190 ⟨Nat.le_of_ble_eq_true rfl, Nat.le_of_ble_eq_true rfl⟩) hP hD hK hS hA (fun u262 H locs w263 hP hD hK hS => ?_)
                        obtain ⟨V265, L266⟩ := u262
                        obtain ⟨hMV265, ajV265, axL266, t264⟩ := w263
                        have axL266 : L243 = L266 := Eq.symm axL266
                        subst axL266
                        replace hP : va_P D vwCl (mw ad kk ks.1 V265 L243) H := hP
                        replace hD : va_D A (mw ad kk ks.1 V265 L243) := hD
                        replace hMV265 : rgd bM V265 := hMV265
                        replace ajV265 : agr [(0, 7), (0, 8)] [] V258 V265 := ajV265
                        have agV265 : agr [(0, 7), (0, 8), (0, 48), (0, 50)] [27, 28, 29, 30, 31, 32, 33, 34, 35, 36, 37, 38, 45, 46, 47] V V265 := agV258.tr ajV265 (by decide) (by decide)
                        replace t264 : ((V265 0 8).toInt = 0 ∧ (gT).1 ((sx249).1 0) = (Int32.toInt 59) ∧ RelM V265 L243 (bq) (gn) (gT) (nx (sx249) 1) (gl)) ∨ (1 ≤ (V265 0 8).toInt ∧ (gT).1 ((sx249).1 0) ≠ (Int32.toInt 59) ∧ (V265 0 8).toInt = 1 + 16 * (gT).2.2 ((sx249).1 0)) := t264
                        rcases t264 with ⟨q267, h268, rl269⟩ | ⟨q267, h268, rl269⟩
                        · skip
                          have kd270 : gT.1 (sx249.1 0) = 59 := h268.trans (by decide)
                          have hr271 : ∀ k, Rc gT (Crun gs (Imember :: k)) (Crun (nx sx249 1) (Imember :: k)) := fun k => Rc.go1 (hr255 k) (tk_y kd270)
                          have ps272 : (nx sx249 1).1 0 = sx249.1 0 + 1 := rfl
                          have fz273 := RelM.rg rl269
                          have r274 : 0 ≤ ((V265 0 8)).toInt ∧ ((V265 0 8)).toInt ≤ 70000 := hMV265 0 8
                          have pq275 : (V265 0 48).toInt = ((V242 0 48)).toInt := congrArg Int32.toInt ((ajV265 0 48 rfl).trans (up2_o hV258 (by decide)))
                          have ps276 : gs.1 0 + 1 ≤ (nx gs 1).1 0 := ((keepS.n1 1)).1
                          have ps277 : (nx gs 1).1 0 + 1 ≤ mx196.2.1 0 := (kp201).1
                          have ps278 : (sT mx196.2 (mx196.1 :: (nx gs 1).2.2.2)).1 0 = mx196.2.1 0 := rfl
                          have ps279 : (sT mx196.2 (mx196.1 :: (nx gs 1).2.2.2)).1 0 + 0 ≤ (sL (sT mx196.2 (mx196.1 :: (nx gs 1).2.2.2)) (100 + 32 * (((nx gs 1).2.1 2).length - 1) + mx196.1) (cl (nx gs 1) + 1)).1 0 := ((show keepS (sT mx196.2 (mx196.1 :: (nx gs 1).2.2.2)) 0 (sL (sT mx196.2 (mx196.1 :: (nx gs 1).2.2.2)) (100 + 32 * (((nx gs 1).2.1 2).length - 1) + mx196.1) (cl (nx gs 1) + 1)) from keepS.gl (by omega))).1
                          have ps280 : (sL (sT mx196.2 (mx196.1 :: (nx gs 1).2.2.2)) (100 + 32 * (((nx gs 1).2.1 2).length - 1) + mx196.1) (cl (nx gs 1) + 1)).1 0 + 1 ≤ sx249.1 0 := (kp252).1
                          have ps281 : sx249.1 0 + 1 ≤ (nx sx249 1).1 0 := ((keepS.n1 1)).1
                          have k34 : (Int32.toNatClampNeg z224) = 20 * gc + mx196.1 := by have h9 := i_clamp (x := z224) rfl (by omega); omega
                          have cs282 : 0 ≤ (V265 34 (20 * gc + mx196.1)).toInt := by have h9 : V265 34 (Int32.toNatClampNeg z224) = z230 := ((ajV265 34 (Int32.toNatClampNeg z224) rfl).trans (up2_s hV258)); rw [k34] at h9; rw [h9]; omega
                          have cn283 : CNm V265 bq gs := CNm.ag cnm (show agr [(0, 7), (0, 8), (0, 48), (0, 50)] [34, 35, 36, 37, 38, 45, 46, 47] V V265 from (agr.tr (agr.up (agr.tr (agr.tr (agr.tr agr.rf ajV170 (by decide) (by decide)) ajV193 (by decide) (by decide)) ajV242 (by decide) (by decide)) hV258 rfl) ajV265 (by decide) (by decide))) (by decide) keepC.rf
                          have cn284 : CNm V265 bq (nx sx249 1) := CNm.mv cn283 (fun _ _ _ => rfl) (keepC.tr (keepC.tr (keepC.tr (keepC.tr (keepC.tr (keepC.tr (keepC.rf : keepC gs gs) (keepS.c (keepS.n1 1))) (keepS.c kp201)) (keepC.st : keepC mx196.2 (sT mx196.2 (mx196.1 :: (nx gs 1).2.2.2)))) (keepS.c (show keepS (sT mx196.2 (mx196.1 :: (nx gs 1).2.2.2)) 0 (sL (sT mx196.2 (mx196.1 :: (nx gs 1).2.2.2)) (100 + 32 * (((nx gs 1).2.1 2).length - 1) + mx196.1) (cl (nx gs 1) + 1)) from keepS.gl (by omega)))) (keepS.c kp252)) (keepS.c (keepS.n1 1)))
                          have cd285 : CDm V265 (10000 * bq) sx249 := CDm.ag cd254 (show agr [(0, 7), (0, 8)] [34] V242 V265 from (agr.tr (agr.up agr.rf hV258 rfl) ajV265 (by decide) (by decide))) ⟨rfl, rfl, fun _ => ⟨rfl, rfl, rfl⟩⟩
                          have cd286 : CDm V265 (10000 * bq) (nx sx249 1) := CDm.mv cd285 (show ∀ j9, j9 = 5 ∨ 2000 ≤ j9 → (nx sx249 1).2.1 j9 = sx249.2.1 j9 from fun j9 h9 => (show ∀ j9, 5 ≤ j9 → (nx sx249 1).2.1 j9 = sx249.2.1 j9 from fun _ _ => rfl) j9 (by omega))
                          have re287 : REm V242 bq gs := REm.ag cem.2.1 (show agr [(0, 7), (0, 8), (0, 48), (0, 50)] [35, 36, 37, 38, 45, 46, 47] V V242 from (agr.tr (agr.tr (agr.tr agr.rf ajV170 (by decide) (by decide)) ajV193 (by decide) (by decide)) ajV242 (by decide) (by decide))) (fun _ => ⟨rfl, rfl, rfl⟩) keepE.rf rfl
                          have hu288 := hV258
                          have ce289 := cem.1.1
                          have ce290 := cem.1.2.1
                          rw [show (Int32.toNatClampNeg z224) = 20 * gc + mx196.1 from by have h9 := i_clamp (x := z224) rfl (by omega); omega] at hu288
                          have re292 : REm V242 bq (nx gs 1) := REm.mv re287 (fun _ _ _ _ => rfl) (keepE.tr (keepE.rf : keepE gs gs) (show keepE gs (nx gs 1) from keepE.eq (show ∀ j9, 5 ≤ j9 → (nx gs 1).2.1 j9 = gs.2.1 j9 from fun _ _ => rfl))) (((show keepS gs 1 (nx gs 1) from (keepS.n1 1)).2.2.1 2 (by decide)).trans (rfl : gs.2.1 2 = gs.2.1 2))
                          have re291 : REm V258 bq (sL (sT mx196.2 (mx196.1 :: (nx gs 1).2.2.2)) (100 + 32 * (((nx gs 1).2.1 2).length - 1) + mx196.1) (cl (nx gs 1) + 1)) := REm.st re292 (Or.inl hb200) (show gc + 1 = 24 * bq + ((nx gs 1).2.1 2).length from gcl) gcb (cM_m hb200 hu288) (show z230.toInt = ((10000 * bq : Nat) : Int) + ((cl (nx gs 1) : Nat) : Int) from by have h8 : cl (nx gs 1) = cl gs := rfl; omega) (fun j9 h9 => (mth_e (j0 := 3) (by decide) h197) j9 h9) ((kp201).2.2.1 2 (by decide))
                          have re293 : REm V265 bq (sL (sT mx196.2 (mx196.1 :: (nx gs 1).2.2.2)) (100 + 32 * (((nx gs 1).2.1 2).length - 1) + mx196.1) (cl (nx gs 1) + 1)) := REm.ag re291 (show agr [(0, 7), (0, 8)] [] V258 V265 from (agr.tr agr.rf ajV265 (by decide) (by decide))) (fun _ => ⟨rfl, rfl, rfl⟩) keepE.rf rfl
                          have re294 : REm V265 bq (nx sx249 1) := REm.mv re293 (fun _ _ _ _ => rfl) (keepE.tr (keepE.tr (keepE.rf : keepE (sL (sT mx196.2 (mx196.1 :: (nx gs 1).2.2.2)) (100 + 32 * (((nx gs 1).2.1 2).length - 1) + mx196.1) (cl (nx gs 1) + 1)) (sL (sT mx196.2 (mx196.1 :: (nx gs 1).2.2.2)) (100 + 32 * (((nx gs 1).2.1 2).length - 1) + mx196.1) (cl (nx gs 1) + 1))) ke253) (show keepE sx249 (nx sx249 1) from keepE.eq (show ∀ j9, 5 ≤ j9 → (nx sx249 1).2.1 j9 = sx249.2.1 j9 from fun _ _ => rfl))) (((show keepS sx249 1 (nx sx249 1) from (keepS.n1 1)).2.2.1 2 (by decide)).trans (((show keepS (sL (sT mx196.2 (mx196.1 :: (nx gs 1).2.2.2)) (100 + 32 * (((nx gs 1).2.1 2).length - 1) + mx196.1) (cl (nx gs 1) + 1)) 1 sx249 from kp252).2.2.1 2 (by decide)).trans (rfl : (sL (sT mx196.2 (mx196.1 :: (nx gs 1).2.2.2)) (100 + 32 * (((nx gs 1).2.1 2).length - 1) + mx196.1) (cl (nx gs 1) + 1)).2.1 2 = (sL (sT mx196.2 (mx196.1 :: (nx gs 1).2.2.2)) (100 + 32 * (((nx gs 1).2.1 2).length - 1) + mx196.1) (cl (nx gs 1) + 1)).2.1 2)))
                          have wm295 : WMm V265 bq gs := WMm.ag cem.2.2 (show agr [(0, 7), (0, 8), (0, 48), (0, 50)] [34, 35, 36, 37, 38, 45, 46, 47] V V265 from (agr.tr (agr.up (agr.tr (agr.tr (agr.tr agr.rf ajV170 (by decide) (by decide)) ajV193 (by decide) (by decide)) ajV242 (by decide) (by decide)) hV258 rfl) ajV265 (by decide) (by decide))) (fun _ => ⟨rfl, rfl, rfl, rfl, rfl⟩) (fun _ _ _ => rfl) rfl
                          have wm296 : WMm V265 bq (sT mx196.2 (mx196.1 :: (nx gs 1).2.2.2)) := WMm.mv wm295 (fun _ _ _ _ _ => rfl) ((keepE.tr (keepE.tr (keepE.tr (keepE.rf : keepE gs gs) (show keepE gs (nx gs 1) from keepE.eq (show ∀ j9, 5 ≤ j9 → (nx gs 1).2.1 j9 = gs.2.1 j9 from fun _ _ => rfl))) (show keepE (nx gs 1) mx196.2 from keepE.eq (show ∀ j9, 5 ≤ j9 → mx196.2.2.1 j9 = (nx gs 1).2.1 j9 from (mth_e (j0 := 3) (by decide) h197)))) (show keepE mx196.2 (sT mx196.2 (mx196.1 :: (nx gs 1).2.2.2)) from keepE.eq (show ∀ j9, 5 ≤ j9 → (sT mx196.2 (mx196.1 :: (nx gs 1).2.2.2)).2.1 j9 = mx196.2.2.1 j9 from fun _ _ => rfl)))).k9 ((rfl : (sT mx196.2 (mx196.1 :: (nx gs 1).2.2.2)).2.2.1 = mx196.2.2.2.1).trans ((congrArg (fun q9 : List (Nat × Bool) × List Nat => q9.1) (show keepS (nx gs 1) 1 mx196.2 from kp201).2.2.2).trans ((congrArg (fun q9 : List (Nat × Bool) × List Nat => q9.1) (show keepS gs 1 (nx gs 1) from (keepS.n1 1)).2.2.2).trans (rfl : gs.2.2.1 = gs.2.2.1))))
                          have wm297 : WMm V265 bq (sL (sT mx196.2 (mx196.1 :: (nx gs 1).2.2.2)) (100 + 32 * (((nx gs 1).2.1 2).length - 1) + mx196.1) (cl (nx gs 1) + 1)) := WMm.mv wm296 (fun _ _ _ _ _ => rfl) (sL_k9 (by have h9 := cem.2.1.1; have h8 : (nx gs 1).2.1 2 = gs.2.1 2 := rfl; rw [h8]; omega)) rfl
                          have wm298 : WMm V265 bq (nx sx249 1) := WMm.mv wm297 (fun _ _ _ _ _ => rfl) ((keepE.tr (keepE.tr (keepE.rf : keepE (sL (sT mx196.2 (mx196.1 :: (nx gs 1).2.2.2)) (100 + 32 * (((nx gs 1).2.1 2).length - 1) + mx196.1) (cl (nx gs 1) + 1)) (sL (sT mx196.2 (mx196.1 :: (nx gs 1).2.2.2)) (100 + 32 * (((nx gs 1).2.1 2).length - 1) + mx196.1) (cl (nx gs 1) + 1))) ke253) (show keepE sx249 (nx sx249 1) from keepE.eq (show ∀ j9, 5 ≤ j9 → (nx sx249 1).2.1 j9 = sx249.2.1 j9 from fun _ _ => rfl)))).k9 ((congrArg (fun q9 : List (Nat × Bool) × List Nat => q9.1) (show keepS sx249 1 (nx sx249 1) from (keepS.n1 1)).2.2.2).trans ((congrArg (fun q9 : List (Nat × Bool) × List Nat => q9.1) (show keepS (sL (sT mx196.2 (mx196.1 :: (nx gs 1).2.2.2)) (100 + 32 * (((nx gs 1).2.1 2).length - 1) + mx196.1) (cl (nx gs 1) + 1)) 1 sx249 from kp252).2.2.2).trans (rfl : (sL (sT mx196.2 (mx196.1 :: (nx gs 1).2.2.2)) (100 + 32 * (((nx gs 1).2.1 2).length - 1) + mx196.1) (cl (nx gs 1) + 1)).2.2.1 = (sL (sT mx196.2 (mx196.1 :: (nx gs 1).2.2.2)) (100 + 32 * (((nx gs 1).2.1 2).length - 1) + mx196.1) (cl (nx gs 1) + 1)).2.2.1)))
                          have rw299 : RoV 35 bq V V265 := (fun k hk => ((ajV265 35 k rfl).trans ((up2_o hV258 (by decide)).trans ((t238 k hk).trans ((t189 k hk).trans ((ajV170 35 k rfl).trans rfl))))))
                          have rw300 : RoV 37 bq V V265 := (fun k hk => ((ajV265 37 k rfl).trans ((up2_o hV258 (by decide)).trans ((t239 k hk).trans ((t190 k hk).trans ((ajV170 37 k rfl).trans rfl))))))
                          have rw301 : RoL 36 20 bq L L243 := (fun k hk => ((t240 k hk).trans ((t191 k hk).trans rfl)))
                          have rw302 : RoL 38 20 bq L L243 := (fun k hk => ((t241 k hk).trans ((t192 k hk).trans rfl)))
                          exact W.vret hx hb hr (fun t ht hW => ⟨⟨(V265, L243), rfl, ⟨hMV265, agV265, alL243, (Imp.mk (fun hp => have hp : (V265 0 8).toInt = 0 := hp; (show (V265 0 48).toInt ≤ 2 * (V265 0 7).toInt from by first | omega | ((try (have i_t233 := Imp.go t233 (by omega))); omega)))), (show (V265 0 48).toInt ≤ 8120 from by first | exact om_bb58a60fcee7 t234 pq275 | first | omega | ((try (have i_t233 := Imp.go t233 (by omega))); omega)), (Or.inl ⟨W0 rl269, (nx sx249 1), hr271, rl269, (by omega), (OWm.mt (m := 1) ow (keepS.le (keepS.tr (keepS.rf : keepS gs 0 gs) (keepS.n1 1)) (by decide)) (Nat.le_refl _) kp201 (MTX.le mt202).1 (MTX.le mt202).2 (keepS.le (keepS.tr (keepS.tr (keepS.tr (keepS.rf : keepS (sT mx196.2 (mx196.1 :: (nx gs 1).2.2.2)) 0 (sT mx196.2 (mx196.1 :: (nx gs 1).2.2.2))) (show keepS (sT mx196.2 (mx196.1 :: (nx gs 1).2.2.2)) 0 (sL (sT mx196.2 (mx196.1 :: (nx gs 1).2.2.2)) (100 + 32 * (((nx gs 1).2.1 2).length - 1) + mx196.1) (cl (nx gs 1) + 1)) from keepS.gl (by omega))) kp252) (keepS.n1 1)) (by decide)) (show (mx196.2.2.1 3).length ≤ ((nx sx249 1).2.1 3).length from by have h9 := Rc.ml (h250 []); rw [sL_3] at h9; (exact h9); omega) (show V265 27 gc = V 27 gc from ((ajV265 27 _ rfl).trans ((up2_o hV258 (by decide)).trans ((ajV242 27 _ rfl).trans ((ajV193 27 _ rfl).trans ((ajV170 27 _ rfl).trans rfl)))))) (show V265 32 gc = V 32 gc from ((ajV265 32 _ rfl).trans ((up2_o hV258 (by decide)).trans ((ajV242 32 _ rfl).trans ((ajV193 32 _ rfl).trans ((ajV170 32 _ rfl).trans rfl)))))) (show V265 33 gc = V 33 gc from ((ajV265 33 _ rfl).trans ((up2_o hV258 (by decide)).trans ((ajV242 33 _ rfl).trans ((ajV193 33 _ rfl).trans ((ajV170 33 _ rfl).trans rfl)))))) cs282 (fun f hf hne => ((ajV265 34 _ rfl).trans ((up2_k hV258 (by omega)).trans ((ajV242 34 _ rfl).trans ((ajV193 34 _ rfl).trans ((ajV170 34 _ rfl).trans rfl))))))), ((((keepS.n1 1)).2.2.1 2 (by decide)).trans (((kp252).2.2.1 2 (by decide)).trans ((((show keepS (sT mx196.2 (mx196.1 :: (nx gs 1).2.2.2)) 0 (sL (sT mx196.2 (mx196.1 :: (nx gs 1).2.2.2)) (100 + 32 * (((nx gs 1).2.1 2).length - 1) + mx196.1) (cl (nx gs 1) + 1)) from keepS.gl (by omega))).2.2.1 2 (by decide)).trans ((rfl : (sT mx196.2 (mx196.1 :: (nx gs 1).2.2.2)).2.1 2 = mx196.2.2.1 2).trans (((kp201).2.2.1 2 (by decide)).trans ((((keepS.n1 1)).2.2.1 2 (by decide)).trans (rfl : gs.2.1 2 = gs.2.1 2))))))), ((congrArg (fun q9 => q9.1) ((keepS.n1 1)).2.2.2).trans ((congrArg (fun q9 => q9.1) (kp252).2.2.2).trans ((congrArg (fun q9 => q9.1) ((show keepS (sT mx196.2 (mx196.1 :: (nx gs 1).2.2.2)) 0 (sL (sT mx196.2 (mx196.1 :: (nx gs 1).2.2.2)) (100 + 32 * (((nx gs 1).2.1 2).length - 1) + mx196.1) (cl (nx gs 1) + 1)) from keepS.gl (by omega))).2.2.2).trans ((rfl : (sT mx196.2 (mx196.1 :: (nx gs 1).2.2.2)).2.2.1 = mx196.2.2.2.1).trans ((congrArg (fun q9 => q9.1) (kp201).2.2.2).trans ((congrArg (fun q9 => q9.1) ((keepS.n1 1)).2.2.2).trans (rfl : gs.2.2.1 = gs.2.2.1))))))), cn284, ⟨cd286, re294, wm298⟩⟩), rw299, rw300, rw301, rw302⟩, by rw [ht]; exact hP, va_K.moved hW.alike hK, hD⟩, hS.F ht⟩) hS.2.2 dX12_member_193
                        · skip
                          have kd303 : gT.1 (sx249.1 0) ≠ 59 := fun h9 => h268 (h9.trans (by decide))
                          have hb304 : ∀ k, Rc gT (Crun gs (Imember :: k)) (Cbad (V265 0 8).toInt) := fun k => Rc.go1 (hr255 k) ((tk_n kd303).trans (fl_eq rfl rl269))
                          have r305 : 0 ≤ ((V265 0 8)).toInt ∧ ((V265 0 8)).toInt ≤ 70000 := hMV265 0 8
                          have pq306 : (V265 0 48).toInt = ((V242 0 48)).toInt := congrArg Int32.toInt ((ajV265 0 48 rfl).trans (up2_o hV258 (by decide)))
                          have rw307 : RoV 35 bq V V265 := (fun k hk => ((ajV265 35 k rfl).trans ((up2_o hV258 (by decide)).trans ((t238 k hk).trans ((t189 k hk).trans ((ajV170 35 k rfl).trans rfl))))))
                          have rw308 : RoV 37 bq V V265 := (fun k hk => ((ajV265 37 k rfl).trans ((up2_o hV258 (by decide)).trans ((t239 k hk).trans ((t190 k hk).trans ((ajV170 37 k rfl).trans rfl))))))
                          have rw309 : RoL 36 20 bq L L243 := (fun k hk => ((t240 k hk).trans ((t191 k hk).trans rfl)))
                          have rw310 : RoL 38 20 bq L L243 := (fun k hk => ((t241 k hk).trans ((t192 k hk).trans rfl)))
                          exact W.vret hx hb hr (fun t ht hW => ⟨⟨(V265, L243), rfl, ⟨hMV265, agV265, alL243, (Imp.mk (fun hp => have hp : (V265 0 8).toInt = 0 := hp; (show (V265 0 48).toInt ≤ 2 * (V265 0 7).toInt from by first | omega | ((try (have i_t233 := Imp.go t233 (by omega))); omega)))), (show (V265 0 48).toInt ≤ 8120 from by first | exact om_bb58a60fcee7 t234 pq306 | first | omega | ((try (have i_t233 := Imp.go t233 (by omega))); omega)), (Or.inr ⟨(show 1 ≤ (V265 0 8).toInt from by (first | exact om_f8d8213eda45 q267 | omega)), hb304⟩), rw307, rw308, rw309, rw310⟩, by rw [ht]; exact hP, va_K.moved hW.alike hK, hD⟩, hS.F ht⟩) hS.2.2 dX12_member_193
                      · skip
                        have hb311 : ∀ k, Rc gT (Crun gs (Imember :: k)) (Cbad (V242 0 8).toInt) := fun k => (hr218 k).tr (h250 (Itake 59 :: Imember :: k))
                        refine va_iast (D := D) (i := z224) (x := z230) hx hb hK hP hD hS 27 26 rfl rfl (i_in (a := z224.toInt) rfl (by first | omega | ((try (have i_t233 := Imp.go t233 (by omega))); omega))) dX12_member_178 (fun H locs hP hD hS => ?_)
                        obtain ⟨V312, hV312⟩ : ∃ z, z = up2 V242 34 (Int32.toNatClampNeg z224) z230 := ⟨_, rfl⟩
                        have hP : va_P D vwCl (mw ad kk ks.1 V312 L243) H := by rw [hV312]; exact hP
                        have hD : va_D A (mw ad kk ks.1 V312 L243) := by rw [hV312]; exact hD
                        have hMV312 : rgd bM V312 := hMV242.put hV312 (i_full _)
                        have agV312 : agr [(0, 7), (0, 8), (0, 48), (0, 50)] [27, 28, 29, 30, 31, 32, 33, 34, 35, 36, 37, 38, 45, 46, 47] V V312 := agV242.up hV312 rfl
                        refine lv_goto (tgt := 187) hx hb dX12_member_179 (by decide) ?_
                        refine lv_aload_n hx hb dX12_member_187 rfl (lv_at hl 1 rfl) ?_
                        refine lv_bipush (v := 59) hx hb dX12_member_188 (by decide) ?_
                        have r313 : Int32.toInt 59 = 59 := by decide
                        have pq314 : (V312 0 8).toInt = ((V242 0 8)).toInt := congrArg Int32.toInt (up2_o hV312 (by decide))
                        refine gA_void (gA_runV (As := [.int 59]) (rest := []) (ci := 12) (q0 := 0) hx hb hml hown hg hP hD hK hS hA hnw hgk (s_takeSignB l D ks H.size ad kk V312 L243 59 hMV312 (show 1 ≤ (V312 0 8).toInt from by first | omega | ((try (have i_t233 := Imp.go t233 (by omega))); omega))) w2075 w2077 w96 w172 w2078 rfl rfl hdV_yX12_takeSign ⟨Nat.le_of_ble_eq_true rfl, Nat.le_of_ble_eq_true rfl⟩ rfl hl.1 rfl (Nat.le_of_ble_eq_true rfl) dX12_member_190 ⟨Nat.le_of_ble_eq_true rfl, Nat.le_of_ble_eq_true rfl⟩) hP hD hK hS hA (fun u316 H locs w317 hP hD hK hS => ?_)
                        obtain ⟨V319, L320⟩ := u316
                        obtain ⟨hMV319, ajV319, axL320, t318⟩ := w317
                        have axL320 : L243 = L320 := Eq.symm axL320
                        subst axL320
                        replace hP : va_P D vwCl (mw ad kk ks.1 V319 L243) H := hP
                        replace hD : va_D A (mw ad kk ks.1 V319 L243) := hD
                        replace hMV319 : rgd bM V319 := hMV319
                        replace ajV319 : agr [(0, 7), (0, 8)] [] V312 V319 := ajV319
                        have agV319 : agr [(0, 7), (0, 8), (0, 48), (0, 50)] [27, 28, 29, 30, 31, 32, 33, 34, 35, 36, 37, 38, 45, 46, 47] V V319 := agV312.tr ajV319 (by decide) (by decide)
                        replace t318 : (V319 0 8).toInt = (V312 0 8).toInt := t318
                        have r321 : 0 ≤ ((V319 0 8)).toInt ∧ ((V319 0 8)).toInt ≤ 70000 := hMV319 0 8
                        have pq322 : (V319 0 48).toInt = ((V242 0 48)).toInt := congrArg Int32.toInt ((ajV319 0 48 rfl).trans (up2_o hV312 (by decide)))
                        have rw323 : RoV 35 bq V V319 := (fun k hk => ((ajV319 35 k rfl).trans ((up2_o hV312 (by decide)).trans ((t238 k hk).trans ((t189 k hk).trans ((ajV170 35 k rfl).trans rfl))))))
                        have rw324 : RoV 37 bq V V319 := (fun k hk => ((ajV319 37 k rfl).trans ((up2_o hV312 (by decide)).trans ((t239 k hk).trans ((t190 k hk).trans ((ajV170 37 k rfl).trans rfl))))))
                        have rw325 : RoL 36 20 bq L L243 := (fun k hk => ((t240 k hk).trans ((t191 k hk).trans rfl)))
                        have rw326 : RoL 38 20 bq L L243 := (fun k hk => ((t241 k hk).trans ((t192 k hk).trans rfl)))
                        exact W.vret hx hb hr (fun t ht hW => ⟨⟨(V319, L243), rfl, ⟨hMV319, agV319, alL243, (Imp.mk (fun hp => have hp : (V319 0 8).toInt = 0 := hp; (show (V319 0 48).toInt ≤ 2 * (V319 0 7).toInt from by first | omega | ((try (have i_t233 := Imp.go t233 (by omega))); omega)))), (show (V319 0 48).toInt ≤ 8120 from by first | exact om_bb58a60fcee7 t234 pq322 | first | omega | ((try (have i_t233 := Imp.go t233 (by omega))); omega)), (Or.inr ⟨(show 1 ≤ (V319 0 8).toInt from by omega), (fun k => by rw [show (V319 0 8).toInt = (V242 0 8).toInt from by omega]; exact hb311 k)⟩), rw323, rw324, rw325, rw326⟩, by rw [ht]; exact hP, va_K.moved hW.alike hK, hD⟩, hS.F ht⟩) hS.2.2 dX12_member_193
                  · skip
                    have f327 : 0 ≤ ((V 34 (Int32.toNatClampNeg z210))).toInt := b_nlt rfl (by decide) c213
                    refine lv_aload_n hx hb dX12_member_142 rfl (lv_at hl 1 rfl) ?_
                    refine lv_dup hx hb dX12_member_143 rfl ?_
                    refine va_get (D := D) (ci := 12) (v := .int (V193 0 7)) (C := RX12) (T := TX12) (N := 100) hx hb hg inX12 hown hK hP 0 rfl rfl 7 (by decide) (hg _ w1713) (fun _ h9 => h9) rfl dX12_member_144 ?_
                    refine lv_iconst (v := 1) hx hb dX12_member_147 (by decide) ?_
                    refine lv_isub hx hb dX12_member_148 ?_
                    refine lv_topi (fun z328 ez328 => ?_)
                    have hz328 : z328.toInt = ((V193 0 7)).toInt - 1 := i_sub ez328 rfl (by decide) (by omega)
                    refine va_put (D := D) (ci := 12) (v := .int z328) (ty := tyX12 7) (C := RX12) (T := TX12) (N := 100) hx hb hg inX12 tyX12 tyX12_ok nmX12 hown hK hP hD hS 0 rfl rfl 7 (by decide) (hg _ w1713) (fun _ h9 => h9) rfl (tyX12_ok 7 (by decide)) rfl rfl (Nat.le_of_ble_eq_true rfl) dX12_member_149 (fun H locs hP hD hS => ?_)
                    obtain ⟨V329, hV329⟩ : ∃ z, z = up2 V193 0 7 z328 := ⟨_, rfl⟩
                    have hP : va_P D vwCl (mw ad kk ks.1 V329 L194) H := by rw [hV329]; exact hP
                    have hD : va_D A (mw ad kk ks.1 V329 L194) := by rw [hV329]; exact hD
                    have hMV329 : rgd bM V329 := hMV193.put hV329 (i_full _)
                    have agV329 : agr [(0, 7), (0, 8), (0, 48), (0, 50)] [27, 28, 29, 30, 31, 32, 33, 34, 35, 36, 37, 38, 45, 46, 47] V V329 := agV193.up hV329 rfl
                    have tx := MTX.told mt202 (by rw [oS]; exact ow5.mp (by omega)) (by rw [oS, oL]; exact ow.2.2.2.2.2)
                    have rl330 : RelM V329 L194 bq gn gT (nx gs 1) gl := RelM.v8 (by rw [← tx.2]; exact rl198) hV329 (by (first | exact om_a53909a885f5 hz328 | omega))
                    have fz331 := RelM.rg rl330
                    have pq332 : (V329 0 8).toInt = ((V193 0 8)).toInt := congrArg Int32.toInt (up2_k hV329 (by decide))
                    have pq333 : (V329 0 7).toInt = z328.toInt := congrArg Int32.toInt (up2_s hV329)
                    have mn3 : ∀ k, mst gT (Crun (nx gs 1) (ImethN :: k)) = fl gT (nx gs 1) 3 := fun k => mthN_3 (mth_k3 h197) tx.1 _
                    refine lv_aload_n hx hb dX12_member_152 rfl (lv_at hl 1 rfl) ?_
                    refine lv_iconst (v := 3) hx hb dX12_member_153 (by decide) ?_
                    have r334 : Int32.toInt 3 = 3 := by decide
                    refine gA_void (gA_runV (As := [.int 3]) (rest := []) (ci := 12) (q0 := 0) hx hb hml hown hg hP hD hK hS hA hnw hgk (s_wrongA l D ks H.size ad kk V329 L194 3 (bq) (gn) (gT) ((nx gs 1)) (gl) hMV329 (by decide) rl330) w2035 w2037 w86 w172 w2038 rfl rfl hdV_yX12_wrong ⟨Nat.le_of_ble_eq_true rfl, Nat.le_of_ble_eq_true rfl⟩ rfl hl.1 rfl (Nat.le_of_ble_eq_true rfl) dX12_member_154 ⟨Nat.le_of_ble_eq_true rfl, Nat.le_of_ble_eq_true rfl⟩) hP hD hK hS hA (fun u336 H locs w337 hP hD hK hS => ?_)
                    obtain ⟨V340, L341⟩ := u336
                    obtain ⟨hMV340, ajV340, axL341, t338, t339⟩ := w337
                    have axL341 : L194 = L341 := Eq.symm axL341
                    subst axL341
                    replace hP : va_P D vwCl (mw ad kk ks.1 V340 L194) H := hP
                    replace hD : va_D A (mw ad kk ks.1 V340 L194) := hD
                    replace hMV340 : rgd bM V340 := hMV340
                    replace ajV340 : agr [(0, 8)] [] V329 V340 := ajV340
                    have agV340 : agr [(0, 7), (0, 8), (0, 48), (0, 50)] [27, 28, 29, 30, 31, 32, 33, 34, 35, 36, 37, 38, 45, 46, 47] V V340 := agV329.tr ajV340 (by decide) (by decide)
                    replace t338 : 1 ≤ (V340 0 8).toInt := t338
                    replace t339 : (V340 0 8).toInt = (Int32.toInt 3) + 16 * (gT).2.2 (((nx gs 1)).1 0) := t339
                    have r342 : 0 ≤ ((V340 0 8)).toInt ∧ ((V340 0 8)).toInt ≤ 70000 := hMV340 0 8
                    have hb343 : ∀ k, Rc gT (Crun gs (Imember :: k)) (Cbad (V340 0 8).toInt) := fun k => Rc.go1 (hr177 k) ((mn3 _).trans (fl_eq rfl (show (V340 0 8).toInt = 3 + 16 * gT.2.2 ((nx gs 1).1 0) from by omega)))
                    refine lv_aload_n hx hb dX12_member_157 rfl (lv_at hl 1 rfl) ?_
                    refine va_get (D := D) (ci := 12) (v := .int (V340 0 8)) (C := RX12) (T := TX12) (N := 100) hx hb hg inX12 hown hK hP 0 rfl rfl 8 (by decide) (hg _ w1714) (fun _ h9 => h9) rfl dX12_member_158 ?_
                    refine lv_if_ne (tgt := 179) hx hb dX12_member_161 (by decide) (fun c344 => ?_) (fun c344 => ?_)
                    · skip
                      have f345 : ((V340 0 8)).toInt ≠ 0 := b_neq rfl (by decide) c344
                      refine lv_goto (tgt := 187) hx hb dX12_member_179 (by decide) ?_
                      refine lv_aload_n hx hb dX12_member_187 rfl (lv_at hl 1 rfl) ?_
                      refine lv_bipush (v := 59) hx hb dX12_member_188 (by decide) ?_
                      have r346 : Int32.toInt 59 = 59 := by decide
                      refine gA_void (gA_runV (As := [.int 59]) (rest := []) (ci := 12) (q0 := 0) hx hb hml hown hg hP hD hK hS hA hnw hgk (s_takeSignB l D ks H.size ad kk V340 L194 59 hMV340 (show 1 ≤ (V340 0 8).toInt from by (first | exact om_f8d8213eda45 t338 | omega))) w2075 w2077 w96 w172 w2078 rfl rfl hdV_yX12_takeSign ⟨Nat.le_of_ble_eq_true rfl, Nat.le_of_ble_eq_true rfl⟩ rfl hl.1 rfl (Nat.le_of_ble_eq_true rfl) dX12_member_190 ⟨Nat.le_of_ble_eq_true rfl, Nat.le_of_ble_eq_true rfl⟩) hP hD hK hS hA (fun u348 H locs w349 hP hD hK hS => ?_)
                      obtain ⟨V351, L352⟩ := u348
                      obtain ⟨hMV351, ajV351, axL352, t350⟩ := w349
                      have axL352 : L194 = L352 := Eq.symm axL352
                      subst axL352
                      replace hP : va_P D vwCl (mw ad kk ks.1 V351 L194) H := hP
                      replace hD : va_D A (mw ad kk ks.1 V351 L194) := hD
                      replace hMV351 : rgd bM V351 := hMV351
                      replace ajV351 : agr [(0, 7), (0, 8)] [] V340 V351 := ajV351
                      have agV351 : agr [(0, 7), (0, 8), (0, 48), (0, 50)] [27, 28, 29, 30, 31, 32, 33, 34, 35, 36, 37, 38, 45, 46, 47] V V351 := agV340.tr ajV351 (by decide) (by decide)
                      replace t350 : (V351 0 8).toInt = (V340 0 8).toInt := t350
                      have r353 : 0 ≤ ((V351 0 8)).toInt ∧ ((V351 0 8)).toInt ≤ 70000 := hMV351 0 8
                      have pq354 : (V351 0 48).toInt = ((V 0 48)).toInt := congrArg Int32.toInt ((ajV351 0 48 rfl).trans ((ajV340 0 48 rfl).trans ((up2_k hV329 (by decide)).trans ((ajV193 0 48 rfl).trans (ajV170 0 48 rfl)))))
                      have rw355 : RoV 35 bq V V351 := (fun k hk => ((ajV351 35 k rfl).trans ((ajV340 35 k rfl).trans ((up2_o hV329 (by decide)).trans ((t189 k hk).trans ((ajV170 35 k rfl).trans rfl))))))
                      have rw356 : RoV 37 bq V V351 := (fun k hk => ((ajV351 37 k rfl).trans ((ajV340 37 k rfl).trans ((up2_o hV329 (by decide)).trans ((t190 k hk).trans ((ajV170 37 k rfl).trans rfl))))))
                      have rw357 : RoL 36 20 bq L L194 := (fun k hk => ((t191 k hk).trans rfl))
                      have rw358 : RoL 38 20 bq L L194 := (fun k hk => ((t192 k hk).trans rfl))
                      exact W.vret hx hb hr (fun t ht hW => ⟨⟨(V351, L194), rfl, ⟨hMV351, agV351, alL194, (Imp.mk (fun hp => have hp : (V351 0 8).toInt = 0 := hp; (show (V351 0 48).toInt ≤ 2 * (V351 0 7).toInt from by omega))), (show (V351 0 48).toInt ≤ 8120 from by omega), (Or.inr ⟨(show 1 ≤ (V351 0 8).toInt from by (first | exact om_e3c391a03e81 t338 t350 | omega)), (fun k => by rw [show (V351 0 8).toInt = (V340 0 8).toInt from by omega]; exact hb343 k)⟩), rw355, rw356, rw357, rw358⟩, by rw [ht]; exact hP, va_K.moved hW.alike hK, hD⟩, hS.F ht⟩) hS.2.2 dX12_member_193
                    · skip
                      have f359 : ((V340 0 8)).toInt = 0 := b_eq rfl (by decide) c344
                      exfalso; (first | exact om_09885ab343b9 t338 f359 | omega)
              · skip
                have hb360 : ∀ k, Rc gT (Crun gs (Imember :: k)) (Cbad (V193 0 8).toInt) := fun k => Rc.go1 (hr177 k) (mn_b (Km_mthN h197))
                have r361 : 0 ≤ ((V193 0 8)).toInt ∧ ((V193 0 8)).toInt ≤ 70000 := hMV193 0 8
                refine lv_istore_n (lv' := [(2, .int z185), (0, .ref (ad 0)), (1, .int p0)]) hx hb dX12_member_120 rfl hl (by decide) rfl (fun ls hl => ?_)
                refine lv_aload_n hx hb dX12_member_121 rfl (lv_at hl 1 rfl) ?_
                refine va_get (D := D) (ci := 12) (v := .int (V193 0 8)) (C := RX12) (T := TX12) (N := 100) hx hb hg inX12 hown hK hP 0 rfl rfl 8 (by decide) (hg _ w1714) (fun _ h9 => h9) rfl dX12_member_122 ?_
                refine lv_if_ne (tgt := 157) hx hb dX12_member_125 (by decide) (fun c362 => ?_) (fun c362 => ?_)
                · skip
                  have f363 : ((V193 0 8)).toInt ≠ 0 := b_neq rfl (by decide) c362
                  refine lv_aload_n hx hb dX12_member_157 rfl (lv_at hl 1 rfl) ?_
                  refine va_get (D := D) (ci := 12) (v := .int (V193 0 8)) (C := RX12) (T := TX12) (N := 100) hx hb hg inX12 hown hK hP 0 rfl rfl 8 (by decide) (hg _ w1714) (fun _ h9 => h9) rfl dX12_member_158 ?_
                  refine lv_if_ne (tgt := 179) hx hb dX12_member_161 (by decide) (fun c364 => ?_) (fun c364 => ?_)
                  · skip
                    have f365 : ((V193 0 8)).toInt ≠ 0 := b_neq rfl (by decide) c364
                    refine lv_goto (tgt := 187) hx hb dX12_member_179 (by decide) ?_
                    refine lv_aload_n hx hb dX12_member_187 rfl (lv_at hl 1 rfl) ?_
                    refine lv_bipush (v := 59) hx hb dX12_member_188 (by decide) ?_
                    have r366 : Int32.toInt 59 = 59 := by decide
                    refine gA_void (gA_runV (As := [.int 59]) (rest := []) (ci := 12) (q0 := 0) hx hb hml hown hg hP hD hK hS hA hnw hgk (s_takeSignB l D ks H.size ad kk V193 L194 59 hMV193 (show 1 ≤ (V193 0 8).toInt from by (first | exact om_76052c512981 r361.1 f363 | omega))) w2075 w2077 w96 w172 w2078 rfl rfl hdV_yX12_takeSign ⟨Nat.le_of_ble_eq_true rfl, Nat.le_of_ble_eq_true rfl⟩ rfl hl.1 rfl (Nat.le_of_ble_eq_true rfl) dX12_member_190 ⟨Nat.le_of_ble_eq_true rfl, Nat.le_of_ble_eq_true rfl⟩) hP hD hK hS hA (fun u368 H locs w369 hP hD hK hS => ?_)
                    obtain ⟨V371, L372⟩ := u368
                    obtain ⟨hMV371, ajV371, axL372, t370⟩ := w369
                    have axL372 : L194 = L372 := Eq.symm axL372
                    subst axL372
                    replace hP : va_P D vwCl (mw ad kk ks.1 V371 L194) H := hP
                    replace hD : va_D A (mw ad kk ks.1 V371 L194) := hD
                    replace hMV371 : rgd bM V371 := hMV371
                    replace ajV371 : agr [(0, 7), (0, 8)] [] V193 V371 := ajV371
                    have agV371 : agr [(0, 7), (0, 8), (0, 48), (0, 50)] [27, 28, 29, 30, 31, 32, 33, 34, 35, 36, 37, 38, 45, 46, 47] V V371 := agV193.tr ajV371 (by decide) (by decide)
                    replace t370 : (V371 0 8).toInt = (V193 0 8).toInt := t370
                    have r373 : 0 ≤ ((V371 0 8)).toInt ∧ ((V371 0 8)).toInt ≤ 70000 := hMV371 0 8
                    have pq374 : (V371 0 48).toInt = ((V 0 48)).toInt := congrArg Int32.toInt ((ajV371 0 48 rfl).trans ((ajV193 0 48 rfl).trans (ajV170 0 48 rfl)))
                    have rw375 : RoV 35 bq V V371 := (fun k hk => ((ajV371 35 k rfl).trans ((t189 k hk).trans ((ajV170 35 k rfl).trans rfl))))
                    have rw376 : RoV 37 bq V V371 := (fun k hk => ((ajV371 37 k rfl).trans ((t190 k hk).trans ((ajV170 37 k rfl).trans rfl))))
                    have rw377 : RoL 36 20 bq L L194 := (fun k hk => ((t191 k hk).trans rfl))
                    have rw378 : RoL 38 20 bq L L194 := (fun k hk => ((t192 k hk).trans rfl))
                    exact W.vret hx hb hr (fun t ht hW => ⟨⟨(V371, L194), rfl, ⟨hMV371, agV371, alL194, (Imp.mk (fun hp => have hp : (V371 0 8).toInt = 0 := hp; (show (V371 0 48).toInt ≤ 2 * (V371 0 7).toInt from by omega))), (show (V371 0 48).toInt ≤ 8120 from by omega), (Or.inr ⟨(show 1 ≤ (V371 0 8).toInt from by (first | exact om_1499017b39b7 r361.1 f363 t370 | omega)), (fun k => by rw [show (V371 0 8).toInt = (V193 0 8).toInt from by omega]; exact hb360 k)⟩), rw375, rw376, rw377, rw378⟩, by rw [ht]; exact hP, va_K.moved hW.alike hK, hD⟩, hS.F ht⟩) hS.2.2 dX12_member_193
                  · skip
                    have f379 : ((V193 0 8)).toInt = 0 := b_eq rfl (by decide) c364
                    exfalso; (first | exact om_0abcda13baee r361.1 f363 f379 | omega)
                · skip
                  have f380 : ((V193 0 8)).toInt = 0 := b_eq rfl (by decide) c362
                  exfalso; omega
          · skip
            have kd381 : gT.1 (gs.1 0) ≠ 142 := fun h9 => h173 (h9.trans (by decide))
            have fz382 := RelM.rg rl174
            have pq383 : (V170 0 8).toInt = ((V 0 8)).toInt := congrArg Int32.toInt (ajV170 0 8 rfl)
            have r384 : 0 ≤ ((V 0 8)).toInt ∧ ((V 0 8)).toInt ≤ 70000 := hMV 0 8
            refine lv_if_eq (tgt := 182) hx hb dX12_member_105 (by decide) (fun c385 => ?_) (fun c385 => ?_)
            · skip
              have f386 : z166.toInt = 0 := b_eq rfl (by decide) c385
              refine lv_aload_n hx hb dX12_member_182 rfl (lv_at hl 0 rfl) ?_
              refine lv_iconst (v := 1) hx hb dX12_member_183 (by decide) ?_
              have r387 : Int32.toInt 1 = 1 := by decide
              refine gA_void (gA_runV (As := [.int 1]) (rest := []) (ci := 12) (q0 := 0) hx hb hml hown hg hP hD hK hS hA hnw hgk (s_wrongA l D ks H.size ad kk V170 L 1 (bq) (gn) (gT) (gs) (gl) hMV170 (by decide) rl174) w2035 w2037 w86 w172 w2038 rfl rfl hdV_yX12_wrong ⟨Nat.le_of_ble_eq_true rfl, Nat.le_of_ble_eq_true rfl⟩ rfl hl.1 rfl (Nat.le_of_ble_eq_true rfl) dX12_member_184 ⟨Nat.le_of_ble_eq_true rfl, Nat.le_of_ble_eq_true rfl⟩) hP hD hK hS hA (fun u389 H locs w390 hP hD hK hS => ?_)
              obtain ⟨V393, L394⟩ := u389
              obtain ⟨hMV393, ajV393, axL394, t391, t392⟩ := w390
              have axL394 : L = L394 := Eq.symm axL394
              subst axL394
              replace hP : va_P D vwCl (mw ad kk ks.1 V393 L) H := hP
              replace hD : va_D A (mw ad kk ks.1 V393 L) := hD
              replace hMV393 : rgd bM V393 := hMV393
              replace ajV393 : agr [(0, 8)] [] V170 V393 := ajV393
              have agV393 : agr [(0, 7), (0, 8), (0, 48), (0, 50)] [27, 28, 29, 30, 31, 32, 33, 34, 35, 36, 37, 38, 45, 46, 47] V V393 := agV170.tr ajV393 (by decide) (by decide)
              replace t391 : 1 ≤ (V393 0 8).toInt := t391
              replace t392 : (V393 0 8).toInt = (Int32.toInt 1) + 16 * (gT).2.2 ((gs).1 0) := t392
              have r395 : 0 ≤ ((V393 0 8)).toInt ∧ ((V393 0 8)).toInt ≤ 70000 := hMV393 0 8
              have hr396 : ∀ k, Rc gT (Crun gs (Imember :: k)) (Crun gs (Imember :: k)) := fun k => Rc.rf
              have hb397 : ∀ k, Rc gT (Crun gs (Imember :: k)) (Cbad (V393 0 8).toInt) := fun k => Rc.go1 (hr396 k) ((mb_f kn125 kd158 (Or.inr (by by_cases q9 : gs.1 2 = 1; exact q9; exact absurd (ow.2.1.mpr q9) (by omega))) (Or.inr (by by_cases q9 : gs.1 3 = 1; exact q9; exact absurd (ow.2.2.1.mpr q9) (by omega))) kd381).trans (fl_eq rfl (show (V393 0 8).toInt = 1 + 16 * gT.2.2 (gs.1 0) from by omega)))
              refine lv_aload_n hx hb dX12_member_187 rfl (lv_at hl 0 rfl) ?_
              refine lv_bipush (v := 59) hx hb dX12_member_188 (by decide) ?_
              have r398 : Int32.toInt 59 = 59 := by decide
              refine gA_void (gA_runV (As := [.int 59]) (rest := []) (ci := 12) (q0 := 0) hx hb hml hown hg hP hD hK hS hA hnw hgk (s_takeSignB l D ks H.size ad kk V393 L 59 hMV393 (show 1 ≤ (V393 0 8).toInt from by (first | exact om_f8d8213eda45 t391 | omega))) w2075 w2077 w96 w172 w2078 rfl rfl hdV_yX12_takeSign ⟨Nat.le_of_ble_eq_true rfl, Nat.le_of_ble_eq_true rfl⟩ rfl hl.1 rfl (Nat.le_of_ble_eq_true rfl) dX12_member_190 ⟨Nat.le_of_ble_eq_true rfl, Nat.le_of_ble_eq_true rfl⟩) hP hD hK hS hA (fun u400 H locs w401 hP hD hK hS => ?_)
              obtain ⟨V403, L404⟩ := u400
              obtain ⟨hMV403, ajV403, axL404, t402⟩ := w401
              have axL404 : L = L404 := Eq.symm axL404
              subst axL404
              replace hP : va_P D vwCl (mw ad kk ks.1 V403 L) H := hP
              replace hD : va_D A (mw ad kk ks.1 V403 L) := hD
              replace hMV403 : rgd bM V403 := hMV403
              replace ajV403 : agr [(0, 7), (0, 8)] [] V393 V403 := ajV403
              have agV403 : agr [(0, 7), (0, 8), (0, 48), (0, 50)] [27, 28, 29, 30, 31, 32, 33, 34, 35, 36, 37, 38, 45, 46, 47] V V403 := agV393.tr ajV403 (by decide) (by decide)
              replace t402 : (V403 0 8).toInt = (V393 0 8).toInt := t402
              have r405 : 0 ≤ ((V403 0 8)).toInt ∧ ((V403 0 8)).toInt ≤ 70000 := hMV403 0 8
              have pq406 : (V403 0 48).toInt = ((V 0 48)).toInt := congrArg Int32.toInt ((ajV403 0 48 rfl).trans ((ajV393 0 48 rfl).trans (ajV170 0 48 rfl)))
              have rw407 : RoV 35 bq V V403 := (fun k hk => ((ajV403 35 k rfl).trans ((ajV393 35 k rfl).trans ((ajV170 35 k rfl).trans rfl))))
              have rw408 : RoV 37 bq V V403 := (fun k hk => ((ajV403 37 k rfl).trans ((ajV393 37 k rfl).trans ((ajV170 37 k rfl).trans rfl))))
              have rw409 : RoL 36 20 bq L L := (fun k hk => rfl)
              have rw410 : RoL 38 20 bq L L := (fun k hk => rfl)
              exact W.vret hx hb hr (fun t ht hW => ⟨⟨(V403, L), rfl, ⟨hMV403, agV403, alL, (Imp.mk (fun hp => have hp : (V403 0 8).toInt = 0 := hp; (show (V403 0 48).toInt ≤ 2 * (V403 0 7).toInt from by omega))), (show (V403 0 48).toInt ≤ 8120 from by omega), (Or.inr ⟨(show 1 ≤ (V403 0 8).toInt from by (first | exact om_e3c391a03e81 t391 t402 | omega)), (fun k => by rw [show (V403 0 8).toInt = (V393 0 8).toInt from by omega]; exact hb397 k)⟩), rw407, rw408, rw409, rw410⟩, by rw [ht]; exact hP, va_K.moved hW.alike hK, hD⟩, hS.F ht⟩) hS.2.2 dX12_member_193
            · skip
              have f411 : z166.toInt ≠ 0 := b_neq rfl (by decide) c385
              exfalso; (first | exact om_fb320d7600b7 rgz166.1 q172 f411 | omega)
        · skip
          have f412 : ((V 33 (Int32.toNatClampNeg p0))).toInt < 0 := b_nle (by decide) rfl c163
          refine lv_aload_n hx hb dX12_member_77 rfl (lv_at hl 0 rfl) ?_
          refine lv_bipush (v := 13) hx hb dX12_member_78 (by decide) ?_
          have r413 : Int32.toInt 13 = 13 := by decide
          refine gA_int (gA_runV (As := [.int 13]) (rest := []) (ci := 12) (q0 := 0) hx hb hml hown hg hP hD hK hS hA hnw hgk (s_hasWordA l D ks H.size ad kk V L 13 (bq) (gn) (gT) (gs) (gl) hMV (by decide) rel) w2051 w2053 w90 w172 w2054 rfl rfl hdV_yX12_hasWord ⟨Nat.le_of_ble_eq_true rfl, Nat.le_of_ble_eq_true rfl⟩ rfl hl.1 rfl (Nat.le_of_ble_eq_true rfl) dX12_member_80 ⟨Nat.le_of_ble_eq_true rfl, Nat.le_of_ble_eq_true rfl⟩) hP hD hK hS hA (fun z414 u415 H locs w416 hP hD hK hS => ?_)
          obtain ⟨V418, L419⟩ := u415
          obtain ⟨hMV418, ajV418, axL419, rgz414, t417⟩ := w416
          have axL419 : L = L419 := Eq.symm axL419
          subst axL419
          replace hP : va_P D vwCl (mw ad kk ks.1 V418 L) H := hP
          replace hD : va_D A (mw ad kk ks.1 V418 L) := hD
          replace hMV418 : rgd bM V418 := hMV418
          replace ajV418 : agr [(0, 7)] [] V V418 := ajV418
          have agV418 : agr [(0, 7), (0, 8), (0, 48), (0, 50)] [27, 28, 29, 30, 31, 32, 33, 34, 35, 36, 37, 38, 45, 46, 47] V V418 := agV.tr ajV418 (by decide) (by decide)
          replace rgz414 : 0 ≤ z414.toInt ∧ z414.toInt ≤ 1 := rgz414
          replace t417 : (z414.toInt = 1 ∧ (gT).1 ((gs).1 0) = 128 + (Int32.toInt 13) ∧ RelM V418 L (bq) (gn) (gT) (nx (gs) 1) (gl)) ∨ (z414.toInt = 0 ∧ (gT).1 ((gs).1 0) ≠ 128 + (Int32.toInt 13) ∧ RelM V418 L (bq) (gn) (gT) (gs) (gl)) := t417
          rcases t417 with ⟨q420, h421, rl422⟩ | ⟨q420, h421, rl422⟩
          · skip
            have kd423 : gT.1 (gs.1 0) = 141 := h421.trans (by decide)
            have hr424 : ∀ k, Rc gT (Crun gs (Imember :: k)) (Crun gs (Imember :: k)) := fun k => Rc.rf
            have hr425 : ∀ k, Rc gT (Crun gs (Imember :: k)) (Crun (sL (nx (sN gs 3 1) 1) (100 + 32 * ((gs.2.1 2).length - 1) + 31) (cl gs + 1)) (Iexpr 0 :: Iem 0 :: Itake 59 :: Imember :: k)) := fun k => Rc.go1 (hr424 k) (mb_141 kd423 (ow.2.2.1.mp (by omega)))
            have ps426 : (sN gs 3 1).1 0 = gs.1 0 := rfl
            have ps427 : (nx gs 1).1 0 = gs.1 0 + 1 := rfl
            have fz428 := RelM.rg rl422
            have pq429 : (V418 0 8).toInt = ((V 0 8)).toInt := congrArg Int32.toInt (ajV418 0 8 rfl)
            have r430 : 0 ≤ ((V 0 8)).toInt ∧ ((V 0 8)).toInt ≤ 70000 := hMV 0 8
            refine lv_if_eq (tgt := 99) hx hb dX12_member_83 (by decide) (fun c431 => ?_) (fun c431 => ?_)
            · skip
              have f432 : z414.toInt = 0 := b_eq rfl (by decide) c431
              exfalso; (first | exact om_495ee03a60ae q420 f432 | omega)
            · skip
              have f433 : z414.toInt ≠ 0 := b_neq rfl (by decide) c431
              have rl434 : RelM V418 L bq gn gT (nx (sN gs 3 1) 1) gl := rl422
              have rl435 : RelM V418 L bq gn gT (sL (nx (sN gs 3 1) 1) (100 + 32 * ((gs.2.1 2).length - 1) + 31) (cl gs + 1)) gl := RelM.gl rl434 (by omega)
              have ps436 : (sL (nx (sN gs 3 1) 1) (100 + 32 * ((gs.2.1 2).length - 1) + 31) (cl gs + 1)).1 0 = (nx (sN gs 3 1) 1).1 0 := rfl
              refine lv_aload_n hx hb dX12_member_86 rfl (lv_at hl 0 rfl) ?_
              refine va_get (D := D) (ci := 12) (v := .ref (ad 33)) (C := RX12) (T := TX12) (N := 100) hx hb hg inX12 hown hK hP 0 rfl rfl 33 (by decide) (hg _ w1739) (fun _ h9 => h9) rfl dX12_member_87 ?_
              refine lv_iload_n hx hb dX12_member_90 rfl (lv_at hl 1 rfl) ?_
              refine lv_aload_n hx hb dX12_member_91 rfl (lv_at hl 0 rfl) ?_
              have pq437 : (V418 0 48).toInt = ((V 0 48)).toInt := congrArg Int32.toInt (ajV418 0 48 rfl)
              have pq438 : (V418 0 51).toInt = ((V 0 51)).toInt := congrArg Int32.toInt (ajV418 0 51 rfl)
              have pq439 : (V418 0 52).toInt = ((V 0 52)).toInt := congrArg Int32.toInt (ajV418 0 52 rfl)
              have cd440 : CDm V418 (10000 * bq) gs := CDm.ag cem.1 (show agr [(0, 7)] [] V V418 from (agr.tr agr.rf ajV418 (by decide) (by decide))) ⟨rfl, rfl, fun _ => ⟨rfl, rfl, rfl⟩⟩
              have cd441 : CDm V418 (10000 * bq) (sL (nx (sN gs 3 1) 1) (100 + 32 * ((gs.2.1 2).length - 1) + 31) (cl gs + 1)) := CDm.mv cd440 (fun j9 h9 => ((show ∀ j9, j9 = 5 ∨ 2000 ≤ j9 → (sL (nx (sN gs 3 1) 1) (100 + 32 * ((gs.2.1 2).length - 1) + 31) (cl gs + 1)).2.1 j9 = (nx (sN gs 3 1) 1).2.1 j9 from fun j9 h9 => sL_o _ _ (by have h9 := cem.2.1.1; omega)) j9 h9).trans ((fun j9 h9 => ((show ∀ j9, j9 = 5 ∨ 2000 ≤ j9 → (nx (sN gs 3 1) 1).2.1 j9 = (nx gs 1).2.1 j9 from fun j9 h9 => (show ∀ j9, 5 ≤ j9 → (nx (sN gs 3 1) 1).2.1 j9 = (nx gs 1).2.1 j9 from fun _ _ => rfl) j9 (by omega)) j9 h9).trans ((show ∀ j9, j9 = 5 ∨ 2000 ≤ j9 → (nx gs 1).2.1 j9 = gs.2.1 j9 from fun j9 h9 => (show ∀ j9, 5 ≤ j9 → (nx gs 1).2.1 j9 = gs.2.1 j9 from fun _ _ => rfl) j9 (by omega)) j9 h9)) j9 h9))
              refine gA_int (gA_runV (As := []) (rest := [.int p0, .ref (ad 33)]) (ci := 12) (q0 := 0) hx hb hml hown hg hP hD hK hS hA hnw hgk (s_codeA l D ks H.size ad kk V418 L (bq) (gn) (gT) ((sL (nx (sN gs 3 1) 1) (100 + 32 * ((gs.2.1 2).length - 1) + 31) (cl gs + 1))) (gl) hMV418 rl435 (show (V418 0 48).toInt ≤ 2 * (V418 0 7).toInt from by omega) (EM.o2 (o := gc) (show (V418 27 gc).toInt = (((sL (nx (sN gs 3 1) 1) (100 + 32 * ((gs.2.1 2).length - 1) + 31) (cl gs + 1)).1 1 : Nat) : Int) from by rw [(by rw [(funext (fun q => ajV418 27 q rfl) : V418 27 = V 27)] : V418 27 = V 27)]; exact ow.1) (show (sL (nx (sN gs 3 1) 1) (100 + 32 * ((gs.2.1 2).length - 1) + 31) (cl gs + 1)).1 4 = 0 from ow.2.2.2.1) (by omega) (by omega)) cd441) w2112 w2114 w105 w172 w2115 rfl rfl hdV_yX12_code ⟨Nat.le_of_ble_eq_true rfl, Nat.le_of_ble_eq_true rfl⟩ rfl hl.1 rfl (Nat.le_of_ble_eq_true rfl) dX12_member_92 ⟨Nat.le_of_ble_eq_true rfl, Nat.le_of_ble_eq_true rfl⟩) hP hD hK hS hA (fun z442 u443 H locs w444 hP hD hK hS => ?_)
              obtain ⟨V454, L455⟩ := u443
              obtain ⟨hMV454, ajV454, axL455, rgz442, t445, t446, t447, t448, t449, t450, t451, t452, t453⟩ := w444
              have alL455 : agL [27, 28, 29, 30, 31, 32, 33, 34, 35, 36, 37, 38, 45, 46, 47] L L455 := agL.tr alL axL455 (by decide)
              replace hP : va_P D vwCl (mw ad kk ks.1 V454 L455) H := hP
              replace hD : va_D A (mw ad kk ks.1 V454 L455) := hD
              replace hMV454 : rgd bM V454 := hMV454
              replace ajV454 : agr [(0, 7), (0, 8), (0, 48), (0, 50)] [35, 36, 37, 38, 45, 46, 47] V418 V454 := ajV454
              have agV454 : agr [(0, 7), (0, 8), (0, 48), (0, 50)] [27, 28, 29, 30, 31, 32, 33, 34, 35, 36, 37, 38, 45, 46, 47] V V454 := agV418.tr ajV454 (by decide) (by decide)
              replace rgz442 : 0 ≤ z442.toInt ∧ z442.toInt ≤ 20000 := rgz442
              replace t445 : Imp ((V454 0 8).toInt = 0) ((V454 0 48).toInt - (V418 0 48).toInt ≤ 2 * ((V454 0 7).toInt - (V418 0 7).toInt) + 1) := t445
              replace t446 : (V454 0 48).toInt ≤ 8060 := t446
              replace t447 : (V418 0 48).toInt ≤ (V454 0 48).toInt := t447
              replace t448 : z442.toInt = (V418 0 49).toInt + (V418 0 48).toInt := t448
              replace t449 : RdM (gT) ((sL (nx (sN gs 3 1) 1) (100 + 32 * ((gs.2.1 2).length - 1) + 31) (cl gs + 1))) (fun k => Iexpr 0 :: Iem 0 :: k) (fun k => k) (V454 0 8).toInt (fun s9 => RelM V454 L455 (bq) (gn) (gT) s9 (gl) ∧ keepS ((sL (nx (sN gs 3 1) 1) (100 + 32 * ((gs.2.1 2).length - 1) + 31) (cl gs + 1))) 1 s9 ∧ keepE ((sL (nx (sN gs 3 1) 1) (100 + 32 * ((gs.2.1 2).length - 1) + 31) (cl gs + 1))) s9 ∧ CDm V454 (10000 * (bq)) s9) := t449
              replace t450 : RoV 35 (bq) V418 V454 := t450
              replace t451 : RoV 37 (bq) V418 V454 := t451
              replace t452 : RoL 36 20 (bq) L L455 := t452
              replace t453 : RoL 38 20 (bq) L L455 := t453
              have r456 : 0 ≤ ((V454 0 48)).toInt ∧ ((V454 0 48)).toInt ≤ 10000 := hMV454 0 48
              have r457 : 0 ≤ ((V454 0 8)).toInt ∧ ((V454 0 8)).toInt ≤ 70000 := hMV454 0 8
              have pq458 : (V418 0 49).toInt = ((V 0 49)).toInt := congrArg Int32.toInt (ajV418 0 49 rfl)
              have r459 : 0 ≤ ((V 0 49)).toInt ∧ ((V 0 49)).toInt ≤ 10000 := hMV 0 49
              rcases t449 with ⟨q460, sx461, h462, rl463, kp464, ke465, cd466⟩ | ⟨q460, h462⟩
              · skip
                have hr467 : ∀ k, Rc gT (Crun gs (Imember :: k)) (Crun sx461 (Itake 59 :: Imember :: k)) := fun k => (hr425 k).tr (h462 (Itake 59 :: Imember :: k))
                have fz468 := RelM.rg rl463
                have ps469 := (kp464).1
                refine va_iast (D := D) (i := p0) (x := z442) hx hb hK hP hD hS 26 25 rfl rfl (i_in (a := p0.toInt) rfl (by first | exact om_6e0fb57f3b24 pgc ic gcb r1.2 | first | omega | ((try (have i_t445 := Imp.go t445 (by omega))); omega))) dX12_member_95 (fun H locs hP hD hS => ?_)
                obtain ⟨V470, hV470⟩ : ∃ z, z = up2 V454 33 (Int32.toNatClampNeg p0) z442 := ⟨_, rfl⟩
                have hP : va_P D vwCl (mw ad kk ks.1 V470 L455) H := by rw [hV470]; exact hP
                have hD : va_D A (mw ad kk ks.1 V470 L455) := by rw [hV470]; exact hD
                have hMV470 : rgd bM V470 := hMV454.put hV470 (i_full _)
                have agV470 : agr [(0, 7), (0, 8), (0, 48), (0, 50)] [27, 28, 29, 30, 31, 32, 33, 34, 35, 36, 37, 38, 45, 46, 47] V V470 := agV454.up hV470 rfl
                refine lv_goto (tgt := 187) hx hb dX12_member_96 (by decide) ?_
                refine lv_aload_n hx hb dX12_member_187 rfl (lv_at hl 0 rfl) ?_
                refine lv_bipush (v := 59) hx hb dX12_member_188 (by decide) ?_
                have rl471 : RelM V470 L455 bq gn gT sx461 gl := RelM.ag rl463 (show agr [] [33] V454 V470 from (agr.up agr.rf hV470 rfl)) (by decide) (show agL [] L455 L455 from agL.rf) (by decide)
                have r472 : Int32.toInt 59 = 59 := by decide
                refine gA_void (gA_runV (As := [.int 59]) (rest := []) (ci := 12) (q0 := 0) hx hb hml hown hg hP hD hK hS hA hnw hgk (s_takeSignA l D ks H.size ad kk V470 L455 59 (bq) (gn) (gT) (sx461) (gl) hMV470 rl471 (sg_yes (j := 59) (by decide) (by decide) (by decide))) w2075 w2077 w96 w172 w2078 rfl rfl hdV_yX12_takeSign ⟨Nat.le_of_ble_eq_true rfl, Nat.le_of_ble_eq_true rfl⟩ rfl hl.1 rfl (Nat.le_of_ble_eq_true rfl) dX12_member_190 ⟨Nat.le_of_ble_eq_true rfl, Nat.le_of_ble_eq_true rfl⟩) hP hD hK hS hA (fun u474 H locs w475 hP hD hK hS => ?_)
                obtain ⟨V477, L478⟩ := u474
                obtain ⟨hMV477, ajV477, axL478, t476⟩ := w475
                have axL478 : L455 = L478 := Eq.symm axL478
                subst axL478
                replace hP : va_P D vwCl (mw ad kk ks.1 V477 L455) H := hP
                replace hD : va_D A (mw ad kk ks.1 V477 L455) := hD
                replace hMV477 : rgd bM V477 := hMV477
                replace ajV477 : agr [(0, 7), (0, 8)] [] V470 V477 := ajV477
                have agV477 : agr [(0, 7), (0, 8), (0, 48), (0, 50)] [27, 28, 29, 30, 31, 32, 33, 34, 35, 36, 37, 38, 45, 46, 47] V V477 := agV470.tr ajV477 (by decide) (by decide)
                replace t476 : ((V477 0 8).toInt = 0 ∧ (gT).1 ((sx461).1 0) = (Int32.toInt 59) ∧ RelM V477 L455 (bq) (gn) (gT) (nx (sx461) 1) (gl)) ∨ (1 ≤ (V477 0 8).toInt ∧ (gT).1 ((sx461).1 0) ≠ (Int32.toInt 59) ∧ (V477 0 8).toInt = 1 + 16 * (gT).2.2 ((sx461).1 0)) := t476
                rcases t476 with ⟨q479, h480, rl481⟩ | ⟨q479, h480, rl481⟩
                · skip
                  have kd482 : gT.1 (sx461.1 0) = 59 := h480.trans (by decide)
                  have hr483 : ∀ k, Rc gT (Crun gs (Imember :: k)) (Crun (nx sx461 1) (Imember :: k)) := fun k => Rc.go1 (hr467 k) (tk_y kd482)
                  have ps484 : (nx sx461 1).1 0 = sx461.1 0 + 1 := rfl
                  have fz485 := RelM.rg rl481
                  have r486 : 0 ≤ ((V477 0 8)).toInt ∧ ((V477 0 8)).toInt ≤ 70000 := hMV477 0 8
                  have pq487 : (V477 0 48).toInt = ((V454 0 48)).toInt := congrArg Int32.toInt ((ajV477 0 48 rfl).trans (up2_o hV470 (by decide)))
                  have ps488 : gs.1 0 + 1 ≤ (nx gs 1).1 0 := ((keepS.n1 1)).1
                  have ps489 : (nx (sN gs 3 1) 1).1 0 = (nx gs 1).1 0 := rfl
                  have ps490 : (nx (sN gs 3 1) 1).1 0 + 0 ≤ (sL (nx (sN gs 3 1) 1) (100 + 32 * ((gs.2.1 2).length - 1) + 31) (cl gs + 1)).1 0 := ((show keepS (nx (sN gs 3 1) 1) 0 (sL (nx (sN gs 3 1) 1) (100 + 32 * ((gs.2.1 2).length - 1) + 31) (cl gs + 1)) from keepS.gl (by omega))).1
                  have ps491 : (sL (nx (sN gs 3 1) 1) (100 + 32 * ((gs.2.1 2).length - 1) + 31) (cl gs + 1)).1 0 + 1 ≤ sx461.1 0 := (kp464).1
                  have ps492 : sx461.1 0 + 1 ≤ (nx sx461 1).1 0 := ((keepS.n1 1)).1
                  have cs493 : 0 ≤ (V477 33 gc).toInt := by have h9 : V477 33 (Int32.toNatClampNeg p0) = z442 := ((ajV477 33 (Int32.toNatClampNeg p0) rfl).trans (up2_s hV470)); rw [kgc] at h9; rw [h9]; omega
                  have cn494 : CNm V477 bq gs := CNm.ag cnm (show agr [(0, 7), (0, 8), (0, 48), (0, 50)] [33, 35, 36, 37, 38, 45, 46, 47] V V477 from (agr.tr (agr.up (agr.tr (agr.tr agr.rf ajV418 (by decide) (by decide)) ajV454 (by decide) (by decide)) hV470 rfl) ajV477 (by decide) (by decide))) (by decide) keepC.rf
                  have cn495 : CNm V477 bq (nx sx461 1) := CNm.mv cn494 (fun _ _ _ => rfl) (keepC.tr (keepC.tr (keepC.tr (keepC.tr (keepC.tr (keepC.rf : keepC gs gs) (keepS.c (keepS.n1 1))) (keepC.tn (by decide) : keepC (nx gs 1) (nx (sN gs 3 1) 1))) (keepS.c (show keepS (nx (sN gs 3 1) 1) 0 (sL (nx (sN gs 3 1) 1) (100 + 32 * ((gs.2.1 2).length - 1) + 31) (cl gs + 1)) from keepS.gl (by omega)))) (keepS.c kp464)) (keepS.c (keepS.n1 1)))
                  have cd496 : CDm V477 (10000 * bq) sx461 := CDm.ag cd466 (show agr [(0, 7), (0, 8)] [33] V454 V477 from (agr.tr (agr.up agr.rf hV470 rfl) ajV477 (by decide) (by decide))) ⟨rfl, rfl, fun _ => ⟨rfl, rfl, rfl⟩⟩
                  have cd497 : CDm V477 (10000 * bq) (nx sx461 1) := CDm.mv cd496 (show ∀ j9, j9 = 5 ∨ 2000 ≤ j9 → (nx sx461 1).2.1 j9 = sx461.2.1 j9 from fun j9 h9 => (show ∀ j9, 5 ≤ j9 → (nx sx461 1).2.1 j9 = sx461.2.1 j9 from fun _ _ => rfl) j9 (by omega))
                  have re498 : REm V454 bq gs := REm.ag cem.2.1 (show agr [(0, 7), (0, 8), (0, 48), (0, 50)] [35, 36, 37, 38, 45, 46, 47] V V454 from (agr.tr (agr.tr agr.rf ajV418 (by decide) (by decide)) ajV454 (by decide) (by decide))) (fun _ => ⟨rfl, rfl, rfl⟩) keepE.rf rfl
                  have hu499 := hV470
                  have ce500 := cem.1.1
                  have ce501 := cem.1.2.1
                  rw [kgc] at hu499
                  have re502 : REm V470 bq (sL (nx (sN gs 3 1) 1) (100 + 32 * ((gs.2.1 2).length - 1) + 31) (cl gs + 1)) := REm.st re498 (Or.inr (Or.inr rfl)) (show gc + 1 = 24 * bq + (gs.2.1 2).length from gcl) gcb (cM_31 hu499) (show z442.toInt = ((10000 * bq : Nat) : Int) + ((cl gs : Nat) : Int) from by have h8 : cl gs = cl gs := rfl; omega) (fun _ _ => rfl) rfl
                  have re503 : REm V477 bq (sL (nx (sN gs 3 1) 1) (100 + 32 * ((gs.2.1 2).length - 1) + 31) (cl gs + 1)) := REm.ag re502 (show agr [(0, 7), (0, 8)] [] V470 V477 from (agr.tr agr.rf ajV477 (by decide) (by decide))) (fun _ => ⟨rfl, rfl, rfl⟩) keepE.rf rfl
                  have re504 : REm V477 bq (nx sx461 1) := REm.mv re503 (fun _ _ _ _ => rfl) (keepE.tr (keepE.tr (keepE.rf : keepE (sL (nx (sN gs 3 1) 1) (100 + 32 * ((gs.2.1 2).length - 1) + 31) (cl gs + 1)) (sL (nx (sN gs 3 1) 1) (100 + 32 * ((gs.2.1 2).length - 1) + 31) (cl gs + 1))) ke465) (show keepE sx461 (nx sx461 1) from keepE.eq (show ∀ j9, 5 ≤ j9 → (nx sx461 1).2.1 j9 = sx461.2.1 j9 from fun _ _ => rfl))) (((show keepS sx461 1 (nx sx461 1) from (keepS.n1 1)).2.2.1 2 (by decide)).trans (((show keepS (sL (nx (sN gs 3 1) 1) (100 + 32 * ((gs.2.1 2).length - 1) + 31) (cl gs + 1)) 1 sx461 from kp464).2.2.1 2 (by decide)).trans (rfl : (sL (nx (sN gs 3 1) 1) (100 + 32 * ((gs.2.1 2).length - 1) + 31) (cl gs + 1)).2.1 2 = (sL (nx (sN gs 3 1) 1) (100 + 32 * ((gs.2.1 2).length - 1) + 31) (cl gs + 1)).2.1 2)))
                  have wm505 : WMm V477 bq gs := WMm.ag cem.2.2 (show agr [(0, 7), (0, 8), (0, 48), (0, 50)] [33, 35, 36, 37, 38, 45, 46, 47] V V477 from (agr.tr (agr.up (agr.tr (agr.tr agr.rf ajV418 (by decide) (by decide)) ajV454 (by decide) (by decide)) hV470 rfl) ajV477 (by decide) (by decide))) (fun _ => ⟨rfl, rfl, rfl, rfl, rfl⟩) (fun _ _ _ => rfl) rfl
                  have wm506 : WMm V477 bq (nx (sN gs 3 1) 1) := WMm.mv wm505 (fun _ _ _ _ _ => rfl) ((keepE.tr (keepE.tr (keepE.rf : keepE gs gs) (show keepE gs (nx gs 1) from keepE.eq (show ∀ j9, 5 ≤ j9 → (nx gs 1).2.1 j9 = gs.2.1 j9 from fun _ _ => rfl))) (show keepE (nx gs 1) (nx (sN gs 3 1) 1) from keepE.eq (show ∀ j9, 5 ≤ j9 → (nx (sN gs 3 1) 1).2.1 j9 = (nx gs 1).2.1 j9 from fun _ _ => rfl)))).k9 ((rfl : (nx (sN gs 3 1) 1).2.2.1 = (nx gs 1).2.2.1).trans ((congrArg (fun q9 : List (Nat × Bool) × List Nat => q9.1) (show keepS gs 1 (nx gs 1) from (keepS.n1 1)).2.2.2).trans (rfl : gs.2.2.1 = gs.2.2.1)))
                  have wm507 : WMm V477 bq (sL (nx (sN gs 3 1) 1) (100 + 32 * ((gs.2.1 2).length - 1) + 31) (cl gs + 1)) := WMm.mv wm506 (fun _ _ _ _ _ => rfl) (sL_k9 (by have h9 := cem.2.1.1; omega)) rfl
                  have wm508 : WMm V477 bq (nx sx461 1) := WMm.mv wm507 (fun _ _ _ _ _ => rfl) ((keepE.tr (keepE.tr (keepE.rf : keepE (sL (nx (sN gs 3 1) 1) (100 + 32 * ((gs.2.1 2).length - 1) + 31) (cl gs + 1)) (sL (nx (sN gs 3 1) 1) (100 + 32 * ((gs.2.1 2).length - 1) + 31) (cl gs + 1))) ke465) (show keepE sx461 (nx sx461 1) from keepE.eq (show ∀ j9, 5 ≤ j9 → (nx sx461 1).2.1 j9 = sx461.2.1 j9 from fun _ _ => rfl)))).k9 ((congrArg (fun q9 : List (Nat × Bool) × List Nat => q9.1) (show keepS sx461 1 (nx sx461 1) from (keepS.n1 1)).2.2.2).trans ((congrArg (fun q9 : List (Nat × Bool) × List Nat => q9.1) (show keepS (sL (nx (sN gs 3 1) 1) (100 + 32 * ((gs.2.1 2).length - 1) + 31) (cl gs + 1)) 1 sx461 from kp464).2.2.2).trans (rfl : (sL (nx (sN gs 3 1) 1) (100 + 32 * ((gs.2.1 2).length - 1) + 31) (cl gs + 1)).2.2.1 = (sL (nx (sN gs 3 1) 1) (100 + 32 * ((gs.2.1 2).length - 1) + 31) (cl gs + 1)).2.2.1)))
                  have rw509 : RoV 35 bq V V477 := (fun k hk => ((ajV477 35 k rfl).trans ((up2_o hV470 (by decide)).trans ((t450 k hk).trans ((ajV418 35 k rfl).trans rfl)))))
                  have rw510 : RoV 37 bq V V477 := (fun k hk => ((ajV477 37 k rfl).trans ((up2_o hV470 (by decide)).trans ((t451 k hk).trans ((ajV418 37 k rfl).trans rfl)))))
                  have rw511 : RoL 36 20 bq L L455 := (fun k hk => ((t452 k hk).trans rfl))
                  have rw512 : RoL 38 20 bq L L455 := (fun k hk => ((t453 k hk).trans rfl))
                  exact W.vret hx hb hr (fun t ht hW => ⟨⟨(V477, L455), rfl, ⟨hMV477, agV477, alL455, (Imp.mk (fun hp => have hp : (V477 0 8).toInt = 0 := hp; (show (V477 0 48).toInt ≤ 2 * (V477 0 7).toInt from by first | omega | ((try (have i_t445 := Imp.go t445 (by omega))); omega)))), (show (V477 0 48).toInt ≤ 8120 from by first | exact om_bb58a60fcee7 t446 pq487 | first | omega | ((try (have i_t445 := Imp.go t445 (by omega))); omega)), (Or.inl ⟨W0 rl481, (nx sx461 1), hr483, rl481, (by omega), (OWm.cl ow (keepS.tr (keepS.tr (keepS.tr (keepS.rf : keepS (nx (sN gs 3 1) 1) 0 (nx (sN gs 3 1) 1)) (show keepS (nx (sN gs 3 1) 1) 0 (sL (nx (sN gs 3 1) 1) (100 + 32 * ((gs.2.1 2).length - 1) + 31) (cl gs + 1)) from keepS.gl (by omega))) kp464) (keepS.n1 1)) (Rc.ml (hr483 [])) (show V477 27 gc = V 27 gc from ((ajV477 27 _ rfl).trans ((up2_o hV470 (by decide)).trans ((ajV454 27 _ rfl).trans ((ajV418 27 _ rfl).trans rfl))))) (show V477 32 gc = V 32 gc from ((ajV477 32 _ rfl).trans ((up2_o hV470 (by decide)).trans ((ajV454 32 _ rfl).trans ((ajV418 32 _ rfl).trans rfl))))) cs493 (fun f hf => ((show agr [(0, 7), (0, 8), (0, 48), (0, 50)] [33, 35, 36, 37, 38, 45, 46, 47] V V477 from (agr.tr (agr.up (agr.tr (agr.tr agr.rf ajV418 (by decide) (by decide)) ajV454 (by decide) (by decide)) hV470 rfl) ajV477 (by decide) (by decide))) 34 _ rfl))), ((((keepS.n1 1)).2.2.1 2 (by decide)).trans (((kp464).2.2.1 2 (by decide)).trans ((((show keepS (nx (sN gs 3 1) 1) 0 (sL (nx (sN gs 3 1) 1) (100 + 32 * ((gs.2.1 2).length - 1) + 31) (cl gs + 1)) from keepS.gl (by omega))).2.2.1 2 (by decide)).trans ((rfl : (nx (sN gs 3 1) 1).2.1 2 = (nx gs 1).2.1 2).trans ((((keepS.n1 1)).2.2.1 2 (by decide)).trans (rfl : gs.2.1 2 = gs.2.1 2)))))), ((congrArg (fun q9 => q9.1) ((keepS.n1 1)).2.2.2).trans ((congrArg (fun q9 => q9.1) (kp464).2.2.2).trans ((congrArg (fun q9 => q9.1) ((show keepS (nx (sN gs 3 1) 1) 0 (sL (nx (sN gs 3 1) 1) (100 + 32 * ((gs.2.1 2).length - 1) + 31) (cl gs + 1)) from keepS.gl (by omega))).2.2.2).trans ((rfl : (nx (sN gs 3 1) 1).2.2.1 = (nx gs 1).2.2.1).trans ((congrArg (fun q9 => q9.1) ((keepS.n1 1)).2.2.2).trans (rfl : gs.2.2.1 = gs.2.2.1)))))), cn495, ⟨cd497, re504, wm508⟩⟩), rw509, rw510, rw511, rw512⟩, by rw [ht]; exact hP, va_K.moved hW.alike hK, hD⟩, hS.F ht⟩) hS.2.2 dX12_member_193
                · skip
                  have kd513 : gT.1 (sx461.1 0) ≠ 59 := fun h9 => h480 (h9.trans (by decide))
                  have hb514 : ∀ k, Rc gT (Crun gs (Imember :: k)) (Cbad (V477 0 8).toInt) := fun k => Rc.go1 (hr467 k) ((tk_n kd513).trans (fl_eq rfl rl481))
                  have r515 : 0 ≤ ((V477 0 8)).toInt ∧ ((V477 0 8)).toInt ≤ 70000 := hMV477 0 8
                  have pq516 : (V477 0 48).toInt = ((V454 0 48)).toInt := congrArg Int32.toInt ((ajV477 0 48 rfl).trans (up2_o hV470 (by decide)))
                  have rw517 : RoV 35 bq V V477 := (fun k hk => ((ajV477 35 k rfl).trans ((up2_o hV470 (by decide)).trans ((t450 k hk).trans ((ajV418 35 k rfl).trans rfl)))))
                  have rw518 : RoV 37 bq V V477 := (fun k hk => ((ajV477 37 k rfl).trans ((up2_o hV470 (by decide)).trans ((t451 k hk).trans ((ajV418 37 k rfl).trans rfl)))))
                  have rw519 : RoL 36 20 bq L L455 := (fun k hk => ((t452 k hk).trans rfl))
                  have rw520 : RoL 38 20 bq L L455 := (fun k hk => ((t453 k hk).trans rfl))
                  exact W.vret hx hb hr (fun t ht hW => ⟨⟨(V477, L455), rfl, ⟨hMV477, agV477, alL455, (Imp.mk (fun hp => have hp : (V477 0 8).toInt = 0 := hp; (show (V477 0 48).toInt ≤ 2 * (V477 0 7).toInt from by first | omega | ((try (have i_t445 := Imp.go t445 (by omega))); omega)))), (show (V477 0 48).toInt ≤ 8120 from by first | exact om_bb58a60fcee7 t446 pq516 | first | omega | ((try (have i_t445 := Imp.go t445 (by omega))); omega)), (Or.inr ⟨(show 1 ≤ (V477 0 8).toInt from by (first | exact om_f8d8213eda45 q479 | omega)), hb514⟩), rw517, rw518, rw519, rw520⟩, by rw [ht]; exact hP, va_K.moved hW.alike hK, hD⟩, hS.F ht⟩) hS.2.2 dX12_member_193
              · skip
                have hb521 : ∀ k, Rc gT (Crun gs (Imember :: k)) (Cbad (V454 0 8).toInt) := fun k => (hr425 k).tr (h462 (Itake 59 :: Imember :: k))
                refine va_iast (D := D) (i := p0) (x := z442) hx hb hK hP hD hS 26 25 rfl rfl (i_in (a := p0.toInt) rfl (by first | exact om_6e0fb57f3b24 pgc ic gcb r1.2 | first | omega | ((try (have i_t445 := Imp.go t445 (by omega))); omega))) dX12_member_95 (fun H locs hP hD hS => ?_)
                obtain ⟨V522, hV522⟩ : ∃ z, z = up2 V454 33 (Int32.toNatClampNeg p0) z442 := ⟨_, rfl⟩
                have hP : va_P D vwCl (mw ad kk ks.1 V522 L455) H := by rw [hV522]; exact hP
                have hD : va_D A (mw ad kk ks.1 V522 L455) := by rw [hV522]; exact hD
                have hMV522 : rgd bM V522 := hMV454.put hV522 (i_full _)
                have agV522 : agr [(0, 7), (0, 8), (0, 48), (0, 50)] [27, 28, 29, 30, 31, 32, 33, 34, 35, 36, 37, 38, 45, 46, 47] V V522 := agV454.up hV522 rfl
                refine lv_goto (tgt := 187) hx hb dX12_member_96 (by decide) ?_
                refine lv_aload_n hx hb dX12_member_187 rfl (lv_at hl 0 rfl) ?_
                refine lv_bipush (v := 59) hx hb dX12_member_188 (by decide) ?_
                have r523 : Int32.toInt 59 = 59 := by decide
                have pq524 : (V522 0 8).toInt = ((V454 0 8)).toInt := congrArg Int32.toInt (up2_o hV522 (by decide))
                refine gA_void (gA_runV (As := [.int 59]) (rest := []) (ci := 12) (q0 := 0) hx hb hml hown hg hP hD hK hS hA hnw hgk (s_takeSignB l D ks H.size ad kk V522 L455 59 hMV522 (show 1 ≤ (V522 0 8).toInt from by first | omega | ((try (have i_t445 := Imp.go t445 (by omega))); omega))) w2075 w2077 w96 w172 w2078 rfl rfl hdV_yX12_takeSign ⟨Nat.le_of_ble_eq_true rfl, Nat.le_of_ble_eq_true rfl⟩ rfl hl.1 rfl (Nat.le_of_ble_eq_true rfl) dX12_member_190 ⟨Nat.le_of_ble_eq_true rfl, Nat.le_of_ble_eq_true rfl⟩) hP hD hK hS hA (fun u526 H locs w527 hP hD hK hS => ?_)
                obtain ⟨V529, L530⟩ := u526
                obtain ⟨hMV529, ajV529, axL530, t528⟩ := w527
                have axL530 : L455 = L530 := Eq.symm axL530
                subst axL530
                replace hP : va_P D vwCl (mw ad kk ks.1 V529 L455) H := hP
                replace hD : va_D A (mw ad kk ks.1 V529 L455) := hD
                replace hMV529 : rgd bM V529 := hMV529
                replace ajV529 : agr [(0, 7), (0, 8)] [] V522 V529 := ajV529
                have agV529 : agr [(0, 7), (0, 8), (0, 48), (0, 50)] [27, 28, 29, 30, 31, 32, 33, 34, 35, 36, 37, 38, 45, 46, 47] V V529 := agV522.tr ajV529 (by decide) (by decide)
                replace t528 : (V529 0 8).toInt = (V522 0 8).toInt := t528
                have r531 : 0 ≤ ((V529 0 8)).toInt ∧ ((V529 0 8)).toInt ≤ 70000 := hMV529 0 8
                have pq532 : (V529 0 48).toInt = ((V454 0 48)).toInt := congrArg Int32.toInt ((ajV529 0 48 rfl).trans (up2_o hV522 (by decide)))
                have rw533 : RoV 35 bq V V529 := (fun k hk => ((ajV529 35 k rfl).trans ((up2_o hV522 (by decide)).trans ((t450 k hk).trans ((ajV418 35 k rfl).trans rfl)))))
                have rw534 : RoV 37 bq V V529 := (fun k hk => ((ajV529 37 k rfl).trans ((up2_o hV522 (by decide)).trans ((t451 k hk).trans ((ajV418 37 k rfl).trans rfl)))))
                have rw535 : RoL 36 20 bq L L455 := (fun k hk => ((t452 k hk).trans rfl))
                have rw536 : RoL 38 20 bq L L455 := (fun k hk => ((t453 k hk).trans rfl))
                exact W.vret hx hb hr (fun t ht hW => ⟨⟨(V529, L455), rfl, ⟨hMV529, agV529, alL455, (Imp.mk (fun hp => have hp : (V529 0 8).toInt = 0 := hp; (show (V529 0 48).toInt ≤ 2 * (V529 0 7).toInt from by first | omega | ((try (have i_t445 := Imp.go t445 (by omega))); omega)))), (show (V529 0 48).toInt ≤ 8120 from by first | exact om_bb58a60fcee7 t446 pq532 | first | omega | ((try (have i_t445 := Imp.go t445 (by omega))); omega)), (Or.inr ⟨(show 1 ≤ (V529 0 8).toInt from by omega), (fun k => by rw [show (V529 0 8).toInt = (V454 0 8).toInt from by omega]; exact hb521 k)⟩), rw533, rw534, rw535, rw536⟩, by rw [ht]; exact hP, va_K.moved hW.alike hK, hD⟩, hS.F ht⟩) hS.2.2 dX12_member_193
          · skip
            have kd537 : gT.1 (gs.1 0) ≠ 141 := fun h9 => h421 (h9.trans (by decide))
            have fz538 := RelM.rg rl422
            have pq539 : (V418 0 8).toInt = ((V 0 8)).toInt := congrArg Int32.toInt (ajV418 0 8 rfl)
            have r540 : 0 ≤ ((V 0 8)).toInt ∧ ((V 0 8)).toInt ≤ 70000 := hMV 0 8
            refine lv_if_eq (tgt := 99) hx hb dX12_member_83 (by decide) (fun c541 => ?_) (fun c541 => ?_)
            · skip
              have f542 : z414.toInt = 0 := b_eq rfl (by decide) c541
              refine lv_aload_n hx hb dX12_member_99 rfl (lv_at hl 0 rfl) ?_
              refine lv_bipush (v := 14) hx hb dX12_member_100 (by decide) ?_
              have r543 : Int32.toInt 14 = 14 := by decide
              refine gA_int (gA_runV (As := [.int 14]) (rest := []) (ci := 12) (q0 := 0) hx hb hml hown hg hP hD hK hS hA hnw hgk (s_hasWordA l D ks H.size ad kk V418 L 14 (bq) (gn) (gT) (gs) (gl) hMV418 (by decide) rl422) w2051 w2053 w90 w172 w2054 rfl rfl hdV_yX12_hasWord ⟨Nat.le_of_ble_eq_true rfl, Nat.le_of_ble_eq_true rfl⟩ rfl hl.1 rfl (Nat.le_of_ble_eq_true rfl) dX12_member_102 ⟨Nat.le_of_ble_eq_true rfl, Nat.le_of_ble_eq_true rfl⟩) hP hD hK hS hA (fun z544 u545 H locs w546 hP hD hK hS => ?_)
              obtain ⟨V548, L549⟩ := u545
              obtain ⟨hMV548, ajV548, axL549, rgz544, t547⟩ := w546
              have axL549 : L = L549 := Eq.symm axL549
              subst axL549
              replace hP : va_P D vwCl (mw ad kk ks.1 V548 L) H := hP
              replace hD : va_D A (mw ad kk ks.1 V548 L) := hD
              replace hMV548 : rgd bM V548 := hMV548
              replace ajV548 : agr [(0, 7)] [] V418 V548 := ajV548
              have agV548 : agr [(0, 7), (0, 8), (0, 48), (0, 50)] [27, 28, 29, 30, 31, 32, 33, 34, 35, 36, 37, 38, 45, 46, 47] V V548 := agV418.tr ajV548 (by decide) (by decide)
              replace rgz544 : 0 ≤ z544.toInt ∧ z544.toInt ≤ 1 := rgz544
              replace t547 : (z544.toInt = 1 ∧ (gT).1 ((gs).1 0) = 128 + (Int32.toInt 14) ∧ RelM V548 L (bq) (gn) (gT) (nx (gs) 1) (gl)) ∨ (z544.toInt = 0 ∧ (gT).1 ((gs).1 0) ≠ 128 + (Int32.toInt 14) ∧ RelM V548 L (bq) (gn) (gT) (gs) (gl)) := t547
              rcases t547 with ⟨q550, h551, rl552⟩ | ⟨q550, h551, rl552⟩
              · skip
                have kd553 : gT.1 (gs.1 0) = 142 := h551.trans (by decide)
                have hr554 : ∀ k, Rc gT (Crun gs (Imember :: k)) (Crun gs (Imember :: k)) := fun k => Rc.rf
                have hr555 : ∀ k, Rc gT (Crun gs (Imember :: k)) (Crun (nx gs 1) (ImethN :: Iexpr 0 :: Iem 0 :: Itake 59 :: Imember :: k)) := fun k => Rc.go1 (hr554 k) (mb_142 kd553)
                have ps556 : (nx gs 1).1 0 = gs.1 0 + 1 := rfl
                have fz557 := RelM.rg rl552
                have pq558 : (V548 0 8).toInt = ((V 0 8)).toInt := congrArg Int32.toInt ((ajV548 0 8 rfl).trans (ajV418 0 8 rfl))
                refine lv_if_eq (tgt := 182) hx hb dX12_member_105 (by decide) (fun c559 => ?_) (fun c559 => ?_)
                · skip
                  have f560 : z544.toInt = 0 := b_eq rfl (by decide) c559
                  exfalso; (first | exact om_495ee03a60ae q550 f560 | omega)
                · skip
                  have f561 : z544.toInt ≠ 0 := b_neq rfl (by decide) c559
                  refine lv_aload_n hx hb dX12_member_108 rfl (lv_at hl 0 rfl) ?_
                  refine lv_aload_n hx hb dX12_member_109 rfl (lv_at hl 0 rfl) ?_
                  refine va_get (D := D) (ci := 12) (v := .ref (ad 36)) (C := RX12) (T := TX12) (N := 100) hx hb hg inX12 hown hK hP 0 rfl rfl 36 (by decide) (hg _ w1742) (fun _ h9 => h9) rfl dX12_member_110 ?_
                  refine lv_aload_n hx hb dX12_member_113 rfl (lv_at hl 0 rfl) ?_
                  refine va_get (D := D) (ci := 12) (v := .ref (ad 35)) (C := RX12) (T := TX12) (N := 100) hx hb hg inX12 hown hK hP 0 rfl rfl 35 (by decide) (hg _ w1741) (fun _ h9 => h9) rfl dX12_member_114 ?_
                  refine gA_int (gA_runV (As := [.ref (ad 36), .ref (ad 35)]) (rest := []) (ci := 12) (q0 := 0) hx hb hml hown hg hP hD hK hS hA hnw hgk (s_takeWordOf3 l D ks H.size ad kk V548 L (bq) (gn) (gT) ((nx gs 1)) (gl) hMV548 rl552) w2100 w2102 w102 w172 w2103 rfl rfl hdV_yX12_takeWordOf ⟨Nat.le_of_ble_eq_true rfl, Nat.le_of_ble_eq_true rfl⟩ rfl hl.1 rfl (Nat.le_of_ble_eq_true rfl) dX12_member_117 ⟨Nat.le_of_ble_eq_true rfl, Nat.le_of_ble_eq_true rfl⟩) hP hD hK hS hA (fun z562 u563 H locs w564 hP hD hK hS => ?_)
                  obtain ⟨V570, L571⟩ := u563
                  obtain ⟨hMV570, ajV570, axL571, rgz562, t565, t566, t567, t568, t569⟩ := w564
                  have alL571 : agL [27, 28, 29, 30, 31, 32, 33, 34, 35, 36, 37, 38, 45, 46, 47] L L571 := agL.tr alL axL571 (by decide)
                  replace hP : va_P D vwCl (mw ad kk ks.1 V570 L571) H := hP
                  replace hD : va_D A (mw ad kk ks.1 V570 L571) := hD
                  replace hMV570 : rgd bM V570 := hMV570
                  replace ajV570 : agr [(0, 7), (0, 8)] [35, 36, 37, 38] V548 V570 := ajV570
                  have agV570 : agr [(0, 7), (0, 8), (0, 48), (0, 50)] [27, 28, 29, 30, 31, 32, 33, 34, 35, 36, 37, 38, 45, 46, 47] V V570 := agV548.tr ajV570 (by decide) (by decide)
                  replace rgz562 : (-1) ≤ z562.toInt ∧ z562.toInt ≤ 19 := rgz562
                  replace t565 : KmS (mthW (gT) ((nx gs 1)) 3) (V570 0 8).toInt (fun x9 => RelM V570 L571 (bq) (gn) (gT) x9.2 (gl) ∧ z562.toInt = ((x9.1 : Nat) : Int) ∧ x9.1 < 20 ∧ keepS ((nx gs 1)) 1 x9.2 ∧ MTX (gT) ((nx gs 1)) 3 x9) := t565
                  replace t566 : RoV 35 (bq) V548 V570 := t566
                  replace t567 : RoV 37 (bq) V548 V570 := t567
                  replace t568 : RoL 36 20 (bq) L L571 := t568
                  replace t569 : RoL 38 20 (bq) L L571 := t569
                  rcases t565 with ⟨q572, mx573, h574, rl575, hf576, hb577, kp578, mt579⟩ | ⟨q572, h574⟩
                  · skip
                    have ps580 := kp578.1
                    have fz581 := RelM.rg rl575
                    have r582 : 0 ≤ ((V570 0 8)).toInt ∧ ((V570 0 8)).toInt ≤ 70000 := hMV570 0 8
                    refine lv_istore_n (lv' := [(2, .int z562), (0, .ref (ad 0)), (1, .int p0)]) hx hb dX12_member_120 rfl hl (by decide) rfl (fun ls hl => ?_)
                    refine lv_aload_n hx hb dX12_member_121 rfl (lv_at hl 1 rfl) ?_
                    refine va_get (D := D) (ci := 12) (v := .int (V570 0 8)) (C := RX12) (T := TX12) (N := 100) hx hb hg inX12 hown hK hP 0 rfl rfl 8 (by decide) (hg _ w1714) (fun _ h9 => h9) rfl dX12_member_122 ?_
                    refine lv_if_ne (tgt := 157) hx hb dX12_member_125 (by decide) (fun c583 => ?_) (fun c583 => ?_)
                    · skip
                      have f584 : ((V570 0 8)).toInt ≠ 0 := b_neq rfl (by decide) c583
                      exfalso; omega
                    · skip
                      have f585 : ((V570 0 8)).toInt = 0 := b_eq rfl (by decide) c583
                      refine lv_aload_n hx hb dX12_member_128 rfl (lv_at hl 1 rfl) ?_
                      refine va_get (D := D) (ci := 12) (v := .ref (ad 34)) (C := RX12) (T := TX12) (N := 100) hx hb hg inX12 hown hK hP 0 rfl rfl 34 (by decide) (hg _ w1740) (fun _ h9 => h9) rfl dX12_member_129 ?_
                      refine lv_bipush (v := 20) hx hb dX12_member_132 (by decide) ?_
                      refine lv_iload_n hx hb dX12_member_134 rfl (lv_at hl 2 rfl) ?_
                      refine lv_imul hx hb dX12_member_135 ?_
                      refine lv_topi (fun z586 ez586 => ?_)
                      have hz586 : z586.toInt = 20 * p0.toInt := i_mul ez586 (by decide) rfl (by (first | exact om_add9820b4ee0 rg_p0.2 pgc gcb | omega))
                      refine lv_iload_n hx hb dX12_member_136 rfl (lv_at hl 0 rfl) ?_
                      refine lv_iadd hx hb dX12_member_137 ?_
                      refine lv_topi (fun z587 ez587 => ?_)
                      have hz587 : z587.toInt = z586.toInt + z562.toInt := i_add ez587 rfl rfl (by (first | exact om_85e70de82a4a rg_p0.2 pgc gcb rgz562.1 rgz562.2 hz586 | omega))
                      refine va_iald (D := D) (i := z587) hx hb hK hP 27 26 rfl rfl (i_in (a := z587.toInt) rfl (by omega)) dX12_member_138 ?_
                      refine g_top (v := (V 34 (Int32.toNatClampNeg z587))) ((ajV570 34 (Int32.toNatClampNeg z587) rfl).trans ((ajV548 34 (Int32.toNatClampNeg z587) rfl).trans (ajV418 34 (Int32.toNatClampNeg z587) rfl))) ?_
                      have kc589 : Int32.toNatClampNeg z587 = 20 * gc + mx573.1 := by have h9 := i_clamp (x := z587) rfl (by omega); omega
                      have ma588 : (V 34 (Int32.toNatClampNeg z587)).toInt = (V 34 (20 * gc + mx573.1)).toInt := by rw [kc589]
                      have ow5 := ow.2.2.2.2.1 mx573.1 hb577
                      have oS : (nx gs 1).2.2.2 = gs.2.2.2 := congrArg (fun q9 => q9.2) ((keepS.tr (keepS.rf : keepS gs 0 gs) (keepS.n1 1))).2.2.2
                      have oL : (nx gs 1).2.1 3 = gs.2.1 3 := rfl
                      refine lv_if_lt (tgt := 157) hx hb dX12_member_139 (by decide) (fun c590 => ?_) (fun c590 => ?_)
                      · skip
                        have f591 : ((V 34 (Int32.toNatClampNeg z587))).toInt < 0 := b_lt rfl (by decide) c590
                        refine lv_aload_n hx hb dX12_member_157 rfl (lv_at hl 1 rfl) ?_
                        refine va_get (D := D) (ci := 12) (v := .int (V570 0 8)) (C := RX12) (T := TX12) (N := 100) hx hb hg inX12 hown hK hP 0 rfl rfl 8 (by decide) (hg _ w1714) (fun _ h9 => h9) rfl dX12_member_158 ?_
                        refine lv_if_ne (tgt := 179) hx hb dX12_member_161 (by decide) (fun c592 => ?_) (fun c592 => ?_)
                        · skip
                          have f593 : ((V570 0 8)).toInt ≠ 0 := b_neq rfl (by decide) c592
                          exfalso; (first | exact om_fb320d7600b7 r582.1 f585 f593 | omega)
                        · skip
                          have f594 : ((V570 0 8)).toInt = 0 := b_eq rfl (by decide) c592
                          have nt9 : mx573.1 ∉ (nx gs 1).2.2.2 := by rw [oS]; exact fun q9 => absurd (ow5.mpr q9) (by omega)
                          have hr595 : ∀ k, Rc gT (Crun gs (Imember :: k)) (Crun (sL (sT mx573.2 (mx573.1 :: (nx gs 1).2.2.2)) (100 + 32 * (((nx gs 1).2.1 2).length - 1) + mx573.1) (cl (nx gs 1) + 1)) (Iexpr 0 :: Iem 0 :: Itake 59 :: Imember :: k)) := fun k => Rc.go1 (hr555 k) (mn_y (MTX.new mt579 h574 nt9))
                          have ps596 : (sT mx573.2 (mx573.1 :: (nx gs 1).2.2.2)).1 0 = mx573.2.1 0 := rfl
                          have rl597 : RelM V570 L571 bq gn gT (sT mx573.2 (mx573.1 :: (nx gs 1).2.2.2)) gl := RelM.tl rl575
                          have rl598 : RelM V570 L571 bq gn gT (sL (sT mx573.2 (mx573.1 :: (nx gs 1).2.2.2)) (100 + 32 * (((nx gs 1).2.1 2).length - 1) + mx573.1) (cl (nx gs 1) + 1)) gl := RelM.gl rl597 (by omega)
                          have ps599 : (sL (sT mx573.2 (mx573.1 :: (nx gs 1).2.2.2)) (100 + 32 * (((nx gs 1).2.1 2).length - 1) + mx573.1) (cl (nx gs 1) + 1)).1 0 = (sT mx573.2 (mx573.1 :: (nx gs 1).2.2.2)).1 0 := rfl
                          refine lv_aload_n hx hb dX12_member_164 rfl (lv_at hl 1 rfl) ?_
                          refine va_get (D := D) (ci := 12) (v := .ref (ad 34)) (C := RX12) (T := TX12) (N := 100) hx hb hg inX12 hown hK hP 0 rfl rfl 34 (by decide) (hg _ w1740) (fun _ h9 => h9) rfl dX12_member_165 ?_
                          refine lv_bipush (v := 20) hx hb dX12_member_168 (by decide) ?_
                          refine lv_iload_n hx hb dX12_member_170 rfl (lv_at hl 2 rfl) ?_
                          refine lv_imul hx hb dX12_member_171 ?_
                          refine lv_topi (fun z600 ez600 => ?_)
                          have hz600 : z600.toInt = 20 * p0.toInt := i_mul ez600 (by decide) rfl (by (first | exact om_add9820b4ee0 rg_p0.2 pgc gcb | omega))
                          refine lv_iload_n hx hb dX12_member_172 rfl (lv_at hl 0 rfl) ?_
                          refine lv_iadd hx hb dX12_member_173 ?_
                          refine lv_topi (fun z601 ez601 => ?_)
                          have hz601 : z601.toInt = z600.toInt + z562.toInt := i_add ez601 rfl rfl (by (first | exact om_85e70de82a4a rg_p0.2 pgc gcb rgz562.1 rgz562.2 hz600 | omega))
                          refine lv_aload_n hx hb dX12_member_174 rfl (lv_at hl 1 rfl) ?_
                          have pq602 : (V570 0 48).toInt = ((V 0 48)).toInt := congrArg Int32.toInt ((ajV570 0 48 rfl).trans ((ajV548 0 48 rfl).trans (ajV418 0 48 rfl)))
                          have pq603 : (V570 0 51).toInt = ((V 0 51)).toInt := congrArg Int32.toInt ((ajV570 0 51 rfl).trans ((ajV548 0 51 rfl).trans (ajV418 0 51 rfl)))
                          have pq604 : (V570 0 52).toInt = ((V 0 52)).toInt := congrArg Int32.toInt ((ajV570 0 52 rfl).trans ((ajV548 0 52 rfl).trans (ajV418 0 52 rfl)))
                          have cd605 : CDm V570 (10000 * bq) gs := CDm.ag cem.1 (show agr [(0, 7), (0, 8)] [35, 36, 37, 38] V V570 from (agr.tr (agr.tr (agr.tr agr.rf ajV418 (by decide) (by decide)) ajV548 (by decide) (by decide)) ajV570 (by decide) (by decide))) ⟨rfl, rfl, fun _ => ⟨rfl, rfl, rfl⟩⟩
                          have cd606 : CDm V570 (10000 * bq) (sL (sT mx573.2 (mx573.1 :: (nx gs 1).2.2.2)) (100 + 32 * (((nx gs 1).2.1 2).length - 1) + mx573.1) (cl (nx gs 1) + 1)) := CDm.mv cd605 (fun j9 h9 => ((show ∀ j9, j9 = 5 ∨ 2000 ≤ j9 → (sL (sT mx573.2 (mx573.1 :: (nx gs 1).2.2.2)) (100 + 32 * (((nx gs 1).2.1 2).length - 1) + mx573.1) (cl (nx gs 1) + 1)).2.1 j9 = (sT mx573.2 (mx573.1 :: (nx gs 1).2.2.2)).2.1 j9 from fun j9 h9 => sL_o _ _ (by have h9 := cem.2.1.1; have h8 : (nx gs 1).2.1 2 = gs.2.1 2 := rfl; rw [h8]; omega)) j9 h9).trans ((fun j9 h9 => ((show ∀ j9, j9 = 5 ∨ 2000 ≤ j9 → (sT mx573.2 (mx573.1 :: (nx gs 1).2.2.2)).2.1 j9 = mx573.2.2.1 j9 from fun j9 h9 => (show ∀ j9, 5 ≤ j9 → (sT mx573.2 (mx573.1 :: (nx gs 1).2.2.2)).2.1 j9 = mx573.2.2.1 j9 from fun _ _ => rfl) j9 (by omega)) j9 h9).trans ((fun j9 h9 => ((show ∀ j9, j9 = 5 ∨ 2000 ≤ j9 → mx573.2.2.1 j9 = (nx gs 1).2.1 j9 from fun j9 h9 => (show ∀ j9, 5 ≤ j9 → mx573.2.2.1 j9 = (nx gs 1).2.1 j9 from (mth_e (j0 := 3) (by decide) h574)) j9 (by omega)) j9 h9).trans ((show ∀ j9, j9 = 5 ∨ 2000 ≤ j9 → (nx gs 1).2.1 j9 = gs.2.1 j9 from fun j9 h9 => (show ∀ j9, 5 ≤ j9 → (nx gs 1).2.1 j9 = gs.2.1 j9 from fun _ _ => rfl) j9 (by omega)) j9 h9)) j9 h9)) j9 h9))
                          refine gA_int (gA_runV (As := []) (rest := [.int z601, .ref (ad 34)]) (ci := 12) (q0 := 0) hx hb hml hown hg hP hD hK hS hA hnw hgk (s_codeA l D ks H.size ad kk V570 L571 (bq) (gn) (gT) ((sL (sT mx573.2 (mx573.1 :: (nx gs 1).2.2.2)) (100 + 32 * (((nx gs 1).2.1 2).length - 1) + mx573.1) (cl (nx gs 1) + 1))) (gl) hMV570 rl598 (show (V570 0 48).toInt ≤ 2 * (V570 0 7).toInt from by omega) (EM.o2 (o := gc) (show (V570 27 gc).toInt = ((mx573.2.1 1 : Nat) : Int) from by rw [(by rw [(funext (fun q => ajV570 27 q rfl) : V570 27 = V548 27), (funext (fun q => ajV548 27 q rfl) : V548 27 = V418 27), (funext (fun q => ajV418 27 q rfl) : V418 27 = V 27)] : V570 27 = V 27)]; exact (by rw [((keepS.tr (keepS.tr (keepS.rf : keepS gs 0 gs) (keepS.n1 1)) kp578)).2.1 1 (by decide)]; exact ow.1)) (show mx573.2.1 4 = 0 from (by rw [((keepS.tr (keepS.tr (keepS.rf : keepS gs 0 gs) (keepS.n1 1)) kp578)).2.1 4 (by decide)]; exact ow.2.2.2.1)) (by omega) (by omega)) cd606) w2112 w2114 w105 w172 w2115 rfl rfl hdV_yX12_code ⟨Nat.le_of_ble_eq_true rfl, Nat.le_of_ble_eq_true rfl⟩ rfl hl.1 rfl (Nat.le_of_ble_eq_true rfl) dX12_member_175 ⟨Nat.le_of_ble_eq_true rfl, Nat.le_of_ble_eq_true rfl⟩) hP hD hK hS hA (fun z607 u608 H locs w609 hP hD hK hS => ?_)
                          obtain ⟨V619, L620⟩ := u608
                          obtain ⟨hMV619, ajV619, axL620, rgz607, t610, t611, t612, t613, t614, t615, t616, t617, t618⟩ := w609
                          have alL620 : agL [27, 28, 29, 30, 31, 32, 33, 34, 35, 36, 37, 38, 45, 46, 47] L L620 := agL.tr alL571 axL620 (by decide)
                          replace hP : va_P D vwCl (mw ad kk ks.1 V619 L620) H := hP
                          replace hD : va_D A (mw ad kk ks.1 V619 L620) := hD
                          replace hMV619 : rgd bM V619 := hMV619
                          replace ajV619 : agr [(0, 7), (0, 8), (0, 48), (0, 50)] [35, 36, 37, 38, 45, 46, 47] V570 V619 := ajV619
                          have agV619 : agr [(0, 7), (0, 8), (0, 48), (0, 50)] [27, 28, 29, 30, 31, 32, 33, 34, 35, 36, 37, 38, 45, 46, 47] V V619 := agV570.tr ajV619 (by decide) (by decide)
                          replace rgz607 : 0 ≤ z607.toInt ∧ z607.toInt ≤ 20000 := rgz607
                          replace t610 : Imp ((V619 0 8).toInt = 0) ((V619 0 48).toInt - (V570 0 48).toInt ≤ 2 * ((V619 0 7).toInt - (V570 0 7).toInt) + 1) := t610
                          replace t611 : (V619 0 48).toInt ≤ 8060 := t611
                          replace t612 : (V570 0 48).toInt ≤ (V619 0 48).toInt := t612
                          replace t613 : z607.toInt = (V570 0 49).toInt + (V570 0 48).toInt := t613
                          replace t614 : RdM (gT) ((sL (sT mx573.2 (mx573.1 :: (nx gs 1).2.2.2)) (100 + 32 * (((nx gs 1).2.1 2).length - 1) + mx573.1) (cl (nx gs 1) + 1))) (fun k => Iexpr 0 :: Iem 0 :: k) (fun k => k) (V619 0 8).toInt (fun s9 => RelM V619 L620 (bq) (gn) (gT) s9 (gl) ∧ keepS ((sL (sT mx573.2 (mx573.1 :: (nx gs 1).2.2.2)) (100 + 32 * (((nx gs 1).2.1 2).length - 1) + mx573.1) (cl (nx gs 1) + 1))) 1 s9 ∧ keepE ((sL (sT mx573.2 (mx573.1 :: (nx gs 1).2.2.2)) (100 + 32 * (((nx gs 1).2.1 2).length - 1) + mx573.1) (cl (nx gs 1) + 1))) s9 ∧ CDm V619 (10000 * (bq)) s9) := t614
                          replace t615 : RoV 35 (bq) V570 V619 := t615
                          replace t616 : RoV 37 (bq) V570 V619 := t616
                          replace t617 : RoL 36 20 (bq) L571 L620 := t617
                          replace t618 : RoL 38 20 (bq) L571 L620 := t618
                          have r621 : 0 ≤ ((V619 0 48)).toInt ∧ ((V619 0 48)).toInt ≤ 10000 := hMV619 0 48
                          have r622 : 0 ≤ ((V619 0 8)).toInt ∧ ((V619 0 8)).toInt ≤ 70000 := hMV619 0 8
                          have pq623 : (V570 0 49).toInt = ((V 0 49)).toInt := congrArg Int32.toInt ((ajV570 0 49 rfl).trans ((ajV548 0 49 rfl).trans (ajV418 0 49 rfl)))
                          have r624 : 0 ≤ ((V 0 49)).toInt ∧ ((V 0 49)).toInt ≤ 10000 := hMV 0 49
                          rcases t614 with ⟨q625, sx626, h627, rl628, kp629, ke630, cd631⟩ | ⟨q625, h627⟩
                          · skip
                            have hr632 : ∀ k, Rc gT (Crun gs (Imember :: k)) (Crun sx626 (Itake 59 :: Imember :: k)) := fun k => (hr595 k).tr (h627 (Itake 59 :: Imember :: k))
                            have fz633 := RelM.rg rl628
                            have ps634 := (kp629).1
                            refine va_iast (D := D) (i := z601) (x := z607) hx hb hK hP hD hS 27 26 rfl rfl (i_in (a := z601.toInt) rfl (by first | omega | ((try (have i_t610 := Imp.go t610 (by omega))); omega))) dX12_member_178 (fun H locs hP hD hS => ?_)
                            obtain ⟨V635, hV635⟩ : ∃ z, z = up2 V619 34 (Int32.toNatClampNeg z601) z607 := ⟨_, rfl⟩
                            have hP : va_P D vwCl (mw ad kk ks.1 V635 L620) H := by rw [hV635]; exact hP
                            have hD : va_D A (mw ad kk ks.1 V635 L620) := by rw [hV635]; exact hD
                            have hMV635 : rgd bM V635 := hMV619.put hV635 (i_full _)
                            have agV635 : agr [(0, 7), (0, 8), (0, 48), (0, 50)] [27, 28, 29, 30, 31, 32, 33, 34, 35, 36, 37, 38, 45, 46, 47] V V635 := agV619.up hV635 rfl
                            refine lv_goto (tgt := 187) hx hb dX12_member_179 (by decide) ?_
                            refine lv_aload_n hx hb dX12_member_187 rfl (lv_at hl 1 rfl) ?_
                            refine lv_bipush (v := 59) hx hb dX12_member_188 (by decide) ?_
                            have rl636 : RelM V635 L620 bq gn gT sx626 gl := RelM.ag rl628 (show agr [] [34] V619 V635 from (agr.up agr.rf hV635 rfl)) (by decide) (show agL [] L620 L620 from agL.rf) (by decide)
                            have r637 : Int32.toInt 59 = 59 := by decide
                            refine gA_void (gA_runV (As := [.int 59]) (rest := []) (ci := 12) (q0 := 0) hx hb hml hown hg hP hD hK hS hA hnw hgk (s_takeSignA l D ks H.size ad kk V635 L620 59 (bq) (gn) (gT) (sx626) (gl) hMV635 rl636 (sg_yes (j := 59) (by decide) (by decide) (by decide))) w2075 w2077 w96 w172 w2078 rfl rfl hdV_yX12_takeSign ⟨Nat.le_of_ble_eq_true rfl, Nat.le_of_ble_eq_true rfl⟩ rfl hl.1 rfl (Nat.le_of_ble_eq_true rfl) dX12_member_190 ⟨Nat.le_of_ble_eq_true rfl, Nat.le_of_ble_eq_true rfl⟩) hP hD hK hS hA (fun u639 H locs w640 hP hD hK hS => ?_)
                            obtain ⟨V642, L643⟩ := u639
                            obtain ⟨hMV642, ajV642, axL643, t641⟩ := w640
                            have axL643 : L620 = L643 := Eq.symm axL643
                            subst axL643
                            replace hP : va_P D vwCl (mw ad kk ks.1 V642 L620) H := hP
                            replace hD : va_D A (mw ad kk ks.1 V642 L620) := hD
                            replace hMV642 : rgd bM V642 := hMV642
                            replace ajV642 : agr [(0, 7), (0, 8)] [] V635 V642 := ajV642
                            have agV642 : agr [(0, 7), (0, 8), (0, 48), (0, 50)] [27, 28, 29, 30, 31, 32, 33, 34, 35, 36, 37, 38, 45, 46, 47] V V642 := agV635.tr ajV642 (by decide) (by decide)
                            replace t641 : ((V642 0 8).toInt = 0 ∧ (gT).1 ((sx626).1 0) = (Int32.toInt 59) ∧ RelM V642 L620 (bq) (gn) (gT) (nx (sx626) 1) (gl)) ∨ (1 ≤ (V642 0 8).toInt ∧ (gT).1 ((sx626).1 0) ≠ (Int32.toInt 59) ∧ (V642 0 8).toInt = 1 + 16 * (gT).2.2 ((sx626).1 0)) := t641
                            rcases t641 with ⟨q644, h645, rl646⟩ | ⟨q644, h645, rl646⟩
                            · skip
                              have kd647 : gT.1 (sx626.1 0) = 59 := h645.trans (by decide)
                              have hr648 : ∀ k, Rc gT (Crun gs (Imember :: k)) (Crun (nx sx626 1) (Imember :: k)) := fun k => Rc.go1 (hr632 k) (tk_y kd647)
                              have ps649 : (nx sx626 1).1 0 = sx626.1 0 + 1 := rfl
                              have fz650 := RelM.rg rl646
                              have r651 : 0 ≤ ((V642 0 8)).toInt ∧ ((V642 0 8)).toInt ≤ 70000 := hMV642 0 8
                              have pq652 : (V642 0 48).toInt = ((V619 0 48)).toInt := congrArg Int32.toInt ((ajV642 0 48 rfl).trans (up2_o hV635 (by decide)))
                              have ps653 : gs.1 0 + 1 ≤ (nx gs 1).1 0 := ((keepS.n1 1)).1
                              have ps654 : (nx gs 1).1 0 + 1 ≤ mx573.2.1 0 := (kp578).1
                              have ps655 : (sT mx573.2 (mx573.1 :: (nx gs 1).2.2.2)).1 0 = mx573.2.1 0 := rfl
                              have ps656 : (sT mx573.2 (mx573.1 :: (nx gs 1).2.2.2)).1 0 + 0 ≤ (sL (sT mx573.2 (mx573.1 :: (nx gs 1).2.2.2)) (100 + 32 * (((nx gs 1).2.1 2).length - 1) + mx573.1) (cl (nx gs 1) + 1)).1 0 := ((show keepS (sT mx573.2 (mx573.1 :: (nx gs 1).2.2.2)) 0 (sL (sT mx573.2 (mx573.1 :: (nx gs 1).2.2.2)) (100 + 32 * (((nx gs 1).2.1 2).length - 1) + mx573.1) (cl (nx gs 1) + 1)) from keepS.gl (by omega))).1
                              have ps657 : (sL (sT mx573.2 (mx573.1 :: (nx gs 1).2.2.2)) (100 + 32 * (((nx gs 1).2.1 2).length - 1) + mx573.1) (cl (nx gs 1) + 1)).1 0 + 1 ≤ sx626.1 0 := (kp629).1
                              have ps658 : sx626.1 0 + 1 ≤ (nx sx626 1).1 0 := ((keepS.n1 1)).1
                              have k34 : (Int32.toNatClampNeg z601) = 20 * gc + mx573.1 := by have h9 := i_clamp (x := z601) rfl (by omega); omega
                              have cs659 : 0 ≤ (V642 34 (20 * gc + mx573.1)).toInt := by have h9 : V642 34 (Int32.toNatClampNeg z601) = z607 := ((ajV642 34 (Int32.toNatClampNeg z601) rfl).trans (up2_s hV635)); rw [k34] at h9; rw [h9]; omega
                              have cn660 : CNm V642 bq gs := CNm.ag cnm (show agr [(0, 7), (0, 8), (0, 48), (0, 50)] [34, 35, 36, 37, 38, 45, 46, 47] V V642 from (agr.tr (agr.up (agr.tr (agr.tr (agr.tr (agr.tr agr.rf ajV418 (by decide) (by decide)) ajV548 (by decide) (by decide)) ajV570 (by decide) (by decide)) ajV619 (by decide) (by decide)) hV635 rfl) ajV642 (by decide) (by decide))) (by decide) keepC.rf
                              have cn661 : CNm V642 bq (nx sx626 1) := CNm.mv cn660 (fun _ _ _ => rfl) (keepC.tr (keepC.tr (keepC.tr (keepC.tr (keepC.tr (keepC.tr (keepC.rf : keepC gs gs) (keepS.c (keepS.n1 1))) (keepS.c kp578)) (keepC.st : keepC mx573.2 (sT mx573.2 (mx573.1 :: (nx gs 1).2.2.2)))) (keepS.c (show keepS (sT mx573.2 (mx573.1 :: (nx gs 1).2.2.2)) 0 (sL (sT mx573.2 (mx573.1 :: (nx gs 1).2.2.2)) (100 + 32 * (((nx gs 1).2.1 2).length - 1) + mx573.1) (cl (nx gs 1) + 1)) from keepS.gl (by omega)))) (keepS.c kp629)) (keepS.c (keepS.n1 1)))
                              have cd662 : CDm V642 (10000 * bq) sx626 := CDm.ag cd631 (show agr [(0, 7), (0, 8)] [34] V619 V642 from (agr.tr (agr.up agr.rf hV635 rfl) ajV642 (by decide) (by decide))) ⟨rfl, rfl, fun _ => ⟨rfl, rfl, rfl⟩⟩
                              have cd663 : CDm V642 (10000 * bq) (nx sx626 1) := CDm.mv cd662 (show ∀ j9, j9 = 5 ∨ 2000 ≤ j9 → (nx sx626 1).2.1 j9 = sx626.2.1 j9 from fun j9 h9 => (show ∀ j9, 5 ≤ j9 → (nx sx626 1).2.1 j9 = sx626.2.1 j9 from fun _ _ => rfl) j9 (by omega))
                              have re664 : REm V619 bq gs := REm.ag cem.2.1 (show agr [(0, 7), (0, 8), (0, 48), (0, 50)] [35, 36, 37, 38, 45, 46, 47] V V619 from (agr.tr (agr.tr (agr.tr (agr.tr agr.rf ajV418 (by decide) (by decide)) ajV548 (by decide) (by decide)) ajV570 (by decide) (by decide)) ajV619 (by decide) (by decide))) (fun _ => ⟨rfl, rfl, rfl⟩) keepE.rf rfl
                              have hu665 := hV635
                              have ce666 := cem.1.1
                              have ce667 := cem.1.2.1
                              rw [show (Int32.toNatClampNeg z601) = 20 * gc + mx573.1 from by have h9 := i_clamp (x := z601) rfl (by omega); omega] at hu665
                              have re669 : REm V619 bq (nx gs 1) := REm.mv re664 (fun _ _ _ _ => rfl) (keepE.tr (keepE.rf : keepE gs gs) (show keepE gs (nx gs 1) from keepE.eq (show ∀ j9, 5 ≤ j9 → (nx gs 1).2.1 j9 = gs.2.1 j9 from fun _ _ => rfl))) (((show keepS gs 1 (nx gs 1) from (keepS.n1 1)).2.2.1 2 (by decide)).trans (rfl : gs.2.1 2 = gs.2.1 2))
                              have re668 : REm V635 bq (sL (sT mx573.2 (mx573.1 :: (nx gs 1).2.2.2)) (100 + 32 * (((nx gs 1).2.1 2).length - 1) + mx573.1) (cl (nx gs 1) + 1)) := REm.st re669 (Or.inl hb577) (show gc + 1 = 24 * bq + ((nx gs 1).2.1 2).length from gcl) gcb (cM_m hb577 hu665) (show z607.toInt = ((10000 * bq : Nat) : Int) + ((cl (nx gs 1) : Nat) : Int) from by have h8 : cl (nx gs 1) = cl gs := rfl; omega) (fun j9 h9 => (mth_e (j0 := 3) (by decide) h574) j9 h9) ((kp578).2.2.1 2 (by decide))
                              have re670 : REm V642 bq (sL (sT mx573.2 (mx573.1 :: (nx gs 1).2.2.2)) (100 + 32 * (((nx gs 1).2.1 2).length - 1) + mx573.1) (cl (nx gs 1) + 1)) := REm.ag re668 (show agr [(0, 7), (0, 8)] [] V635 V642 from (agr.tr agr.rf ajV642 (by decide) (by decide))) (fun _ => ⟨rfl, rfl, rfl⟩) keepE.rf rfl
                              have re671 : REm V642 bq (nx sx626 1) := REm.mv re670 (fun _ _ _ _ => rfl) (keepE.tr (keepE.tr (keepE.rf : keepE (sL (sT mx573.2 (mx573.1 :: (nx gs 1).2.2.2)) (100 + 32 * (((nx gs 1).2.1 2).length - 1) + mx573.1) (cl (nx gs 1) + 1)) (sL (sT mx573.2 (mx573.1 :: (nx gs 1).2.2.2)) (100 + 32 * (((nx gs 1).2.1 2).length - 1) + mx573.1) (cl (nx gs 1) + 1))) ke630) (show keepE sx626 (nx sx626 1) from keepE.eq (show ∀ j9, 5 ≤ j9 → (nx sx626 1).2.1 j9 = sx626.2.1 j9 from fun _ _ => rfl))) (((show keepS sx626 1 (nx sx626 1) from (keepS.n1 1)).2.2.1 2 (by decide)).trans (((show keepS (sL (sT mx573.2 (mx573.1 :: (nx gs 1).2.2.2)) (100 + 32 * (((nx gs 1).2.1 2).length - 1) + mx573.1) (cl (nx gs 1) + 1)) 1 sx626 from kp629).2.2.1 2 (by decide)).trans (rfl : (sL (sT mx573.2 (mx573.1 :: (nx gs 1).2.2.2)) (100 + 32 * (((nx gs 1).2.1 2).length - 1) + mx573.1) (cl (nx gs 1) + 1)).2.1 2 = (sL (sT mx573.2 (mx573.1 :: (nx gs 1).2.2.2)) (100 + 32 * (((nx gs 1).2.1 2).length - 1) + mx573.1) (cl (nx gs 1) + 1)).2.1 2)))
                              have wm672 : WMm V642 bq gs := WMm.ag cem.2.2 (show agr [(0, 7), (0, 8), (0, 48), (0, 50)] [34, 35, 36, 37, 38, 45, 46, 47] V V642 from (agr.tr (agr.up (agr.tr (agr.tr (agr.tr (agr.tr agr.rf ajV418 (by decide) (by decide)) ajV548 (by decide) (by decide)) ajV570 (by decide) (by decide)) ajV619 (by decide) (by decide)) hV635 rfl) ajV642 (by decide) (by decide))) (fun _ => ⟨rfl, rfl, rfl, rfl, rfl⟩) (fun _ _ _ => rfl) rfl
                              have wm673 : WMm V642 bq (sT mx573.2 (mx573.1 :: (nx gs 1).2.2.2)) := WMm.mv wm672 (fun _ _ _ _ _ => rfl) ((keepE.tr (keepE.tr (keepE.tr (keepE.rf : keepE gs gs) (show keepE gs (nx gs 1) from keepE.eq (show ∀ j9, 5 ≤ j9 → (nx gs 1).2.1 j9 = gs.2.1 j9 from fun _ _ => rfl))) (show keepE (nx gs 1) mx573.2 from keepE.eq (show ∀ j9, 5 ≤ j9 → mx573.2.2.1 j9 = (nx gs 1).2.1 j9 from (mth_e (j0 := 3) (by decide) h574)))) (show keepE mx573.2 (sT mx573.2 (mx573.1 :: (nx gs 1).2.2.2)) from keepE.eq (show ∀ j9, 5 ≤ j9 → (sT mx573.2 (mx573.1 :: (nx gs 1).2.2.2)).2.1 j9 = mx573.2.2.1 j9 from fun _ _ => rfl)))).k9 ((rfl : (sT mx573.2 (mx573.1 :: (nx gs 1).2.2.2)).2.2.1 = mx573.2.2.2.1).trans ((congrArg (fun q9 : List (Nat × Bool) × List Nat => q9.1) (show keepS (nx gs 1) 1 mx573.2 from kp578).2.2.2).trans ((congrArg (fun q9 : List (Nat × Bool) × List Nat => q9.1) (show keepS gs 1 (nx gs 1) from (keepS.n1 1)).2.2.2).trans (rfl : gs.2.2.1 = gs.2.2.1))))
                              have wm674 : WMm V642 bq (sL (sT mx573.2 (mx573.1 :: (nx gs 1).2.2.2)) (100 + 32 * (((nx gs 1).2.1 2).length - 1) + mx573.1) (cl (nx gs 1) + 1)) := WMm.mv wm673 (fun _ _ _ _ _ => rfl) (sL_k9 (by have h9 := cem.2.1.1; have h8 : (nx gs 1).2.1 2 = gs.2.1 2 := rfl; rw [h8]; omega)) rfl
                              have wm675 : WMm V642 bq (nx sx626 1) := WMm.mv wm674 (fun _ _ _ _ _ => rfl) ((keepE.tr (keepE.tr (keepE.rf : keepE (sL (sT mx573.2 (mx573.1 :: (nx gs 1).2.2.2)) (100 + 32 * (((nx gs 1).2.1 2).length - 1) + mx573.1) (cl (nx gs 1) + 1)) (sL (sT mx573.2 (mx573.1 :: (nx gs 1).2.2.2)) (100 + 32 * (((nx gs 1).2.1 2).length - 1) + mx573.1) (cl (nx gs 1) + 1))) ke630) (show keepE sx626 (nx sx626 1) from keepE.eq (show ∀ j9, 5 ≤ j9 → (nx sx626 1).2.1 j9 = sx626.2.1 j9 from fun _ _ => rfl)))).k9 ((congrArg (fun q9 : List (Nat × Bool) × List Nat => q9.1) (show keepS sx626 1 (nx sx626 1) from (keepS.n1 1)).2.2.2).trans ((congrArg (fun q9 : List (Nat × Bool) × List Nat => q9.1) (show keepS (sL (sT mx573.2 (mx573.1 :: (nx gs 1).2.2.2)) (100 + 32 * (((nx gs 1).2.1 2).length - 1) + mx573.1) (cl (nx gs 1) + 1)) 1 sx626 from kp629).2.2.2).trans (rfl : (sL (sT mx573.2 (mx573.1 :: (nx gs 1).2.2.2)) (100 + 32 * (((nx gs 1).2.1 2).length - 1) + mx573.1) (cl (nx gs 1) + 1)).2.2.1 = (sL (sT mx573.2 (mx573.1 :: (nx gs 1).2.2.2)) (100 + 32 * (((nx gs 1).2.1 2).length - 1) + mx573.1) (cl (nx gs 1) + 1)).2.2.1)))
                              have rw676 : RoV 35 bq V V642 := (fun k hk => ((ajV642 35 k rfl).trans ((up2_o hV635 (by decide)).trans ((t615 k hk).trans ((t566 k hk).trans ((ajV548 35 k rfl).trans ((ajV418 35 k rfl).trans rfl)))))))
                              have rw677 : RoV 37 bq V V642 := (fun k hk => ((ajV642 37 k rfl).trans ((up2_o hV635 (by decide)).trans ((t616 k hk).trans ((t567 k hk).trans ((ajV548 37 k rfl).trans ((ajV418 37 k rfl).trans rfl)))))))
                              have rw678 : RoL 36 20 bq L L620 := (fun k hk => ((t617 k hk).trans ((t568 k hk).trans rfl)))
                              have rw679 : RoL 38 20 bq L L620 := (fun k hk => ((t618 k hk).trans ((t569 k hk).trans rfl)))
                              exact W.vret hx hb hr (fun t ht hW => ⟨⟨(V642, L620), rfl, ⟨hMV642, agV642, alL620, (Imp.mk (fun hp => have hp : (V642 0 8).toInt = 0 := hp; (show (V642 0 48).toInt ≤ 2 * (V642 0 7).toInt from by first | omega | ((try (have i_t610 := Imp.go t610 (by omega))); omega)))), (show (V642 0 48).toInt ≤ 8120 from by first | exact om_bb58a60fcee7 t611 pq652 | first | omega | ((try (have i_t610 := Imp.go t610 (by omega))); omega)), (Or.inl ⟨W0 rl646, (nx sx626 1), hr648, rl646, (by omega), (OWm.mt (m := 1) ow (keepS.le (keepS.tr (keepS.rf : keepS gs 0 gs) (keepS.n1 1)) (by decide)) (Nat.le_refl _) kp578 (MTX.le mt579).1 (MTX.le mt579).2 (keepS.le (keepS.tr (keepS.tr (keepS.tr (keepS.rf : keepS (sT mx573.2 (mx573.1 :: (nx gs 1).2.2.2)) 0 (sT mx573.2 (mx573.1 :: (nx gs 1).2.2.2))) (show keepS (sT mx573.2 (mx573.1 :: (nx gs 1).2.2.2)) 0 (sL (sT mx573.2 (mx573.1 :: (nx gs 1).2.2.2)) (100 + 32 * (((nx gs 1).2.1 2).length - 1) + mx573.1) (cl (nx gs 1) + 1)) from keepS.gl (by omega))) kp629) (keepS.n1 1)) (by decide)) (show (mx573.2.2.1 3).length ≤ ((nx sx626 1).2.1 3).length from by have h9 := Rc.ml (h627 []); rw [sL_3] at h9; (exact h9); omega) (show V642 27 gc = V 27 gc from ((ajV642 27 _ rfl).trans ((up2_o hV635 (by decide)).trans ((ajV619 27 _ rfl).trans ((ajV570 27 _ rfl).trans ((ajV548 27 _ rfl).trans ((ajV418 27 _ rfl).trans rfl))))))) (show V642 32 gc = V 32 gc from ((ajV642 32 _ rfl).trans ((up2_o hV635 (by decide)).trans ((ajV619 32 _ rfl).trans ((ajV570 32 _ rfl).trans ((ajV548 32 _ rfl).trans ((ajV418 32 _ rfl).trans rfl))))))) (show V642 33 gc = V 33 gc from ((ajV642 33 _ rfl).trans ((up2_o hV635 (by decide)).trans ((ajV619 33 _ rfl).trans ((ajV570 33 _ rfl).trans ((ajV548 33 _ rfl).trans ((ajV418 33 _ rfl).trans rfl))))))) cs659 (fun f hf hne => ((ajV642 34 _ rfl).trans ((up2_k hV635 (by omega)).trans ((ajV619 34 _ rfl).trans ((ajV570 34 _ rfl).trans ((ajV548 34 _ rfl).trans ((ajV418 34 _ rfl).trans rfl)))))))), ((((keepS.n1 1)).2.2.1 2 (by decide)).trans (((kp629).2.2.1 2 (by decide)).trans ((((show keepS (sT mx573.2 (mx573.1 :: (nx gs 1).2.2.2)) 0 (sL (sT mx573.2 (mx573.1 :: (nx gs 1).2.2.2)) (100 + 32 * (((nx gs 1).2.1 2).length - 1) + mx573.1) (cl (nx gs 1) + 1)) from keepS.gl (by omega))).2.2.1 2 (by decide)).trans ((rfl : (sT mx573.2 (mx573.1 :: (nx gs 1).2.2.2)).2.1 2 = mx573.2.2.1 2).trans (((kp578).2.2.1 2 (by decide)).trans ((((keepS.n1 1)).2.2.1 2 (by decide)).trans (rfl : gs.2.1 2 = gs.2.1 2))))))), ((congrArg (fun q9 => q9.1) ((keepS.n1 1)).2.2.2).trans ((congrArg (fun q9 => q9.1) (kp629).2.2.2).trans ((congrArg (fun q9 => q9.1) ((show keepS (sT mx573.2 (mx573.1 :: (nx gs 1).2.2.2)) 0 (sL (sT mx573.2 (mx573.1 :: (nx gs 1).2.2.2)) (100 + 32 * (((nx gs 1).2.1 2).length - 1) + mx573.1) (cl (nx gs 1) + 1)) from keepS.gl (by omega))).2.2.2).trans ((rfl : (sT mx573.2 (mx573.1 :: (nx gs 1).2.2.2)).2.2.1 = mx573.2.2.2.1).trans ((congrArg (fun q9 => q9.1) (kp578).2.2.2).trans ((congrArg (fun q9 => q9.1) ((keepS.n1 1)).2.2.2).trans (rfl : gs.2.2.1 = gs.2.2.1))))))), cn661, ⟨cd663, re671, wm675⟩⟩), rw676, rw677, rw678, rw679⟩, by rw [ht]; exact hP, va_K.moved hW.alike hK, hD⟩, hS.F ht⟩) hS.2.2 dX12_member_193
                            · skip
                              have kd680 : gT.1 (sx626.1 0) ≠ 59 := fun h9 => h645 (h9.trans (by decide))
                              have hb681 : ∀ k, Rc gT (Crun gs (Imember :: k)) (Cbad (V642 0 8).toInt) := fun k => Rc.go1 (hr632 k) ((tk_n kd680).trans (fl_eq rfl rl646))
                              have r682 : 0 ≤ ((V642 0 8)).toInt ∧ ((V642 0 8)).toInt ≤ 70000 := hMV642 0 8
                              have pq683 : (V642 0 48).toInt = ((V619 0 48)).toInt := congrArg Int32.toInt ((ajV642 0 48 rfl).trans (up2_o hV635 (by decide)))
                              have rw684 : RoV 35 bq V V642 := (fun k hk => ((ajV642 35 k rfl).trans ((up2_o hV635 (by decide)).trans ((t615 k hk).trans ((t566 k hk).trans ((ajV548 35 k rfl).trans ((ajV418 35 k rfl).trans rfl)))))))
                              have rw685 : RoV 37 bq V V642 := (fun k hk => ((ajV642 37 k rfl).trans ((up2_o hV635 (by decide)).trans ((t616 k hk).trans ((t567 k hk).trans ((ajV548 37 k rfl).trans ((ajV418 37 k rfl).trans rfl)))))))
                              have rw686 : RoL 36 20 bq L L620 := (fun k hk => ((t617 k hk).trans ((t568 k hk).trans rfl)))
                              have rw687 : RoL 38 20 bq L L620 := (fun k hk => ((t618 k hk).trans ((t569 k hk).trans rfl)))
                              exact W.vret hx hb hr (fun t ht hW => ⟨⟨(V642, L620), rfl, ⟨hMV642, agV642, alL620, (Imp.mk (fun hp => have hp : (V642 0 8).toInt = 0 := hp; (show (V642 0 48).toInt ≤ 2 * (V642 0 7).toInt from by first | omega | ((try (have i_t610 := Imp.go t610 (by omega))); omega)))), (show (V642 0 48).toInt ≤ 8120 from by first | exact om_bb58a60fcee7 t611 pq683 | first | omega | ((try (have i_t610 := Imp.go t610 (by omega))); omega)), (Or.inr ⟨(show 1 ≤ (V642 0 8).toInt from by (first | exact om_f8d8213eda45 q644 | omega)), hb681⟩), rw684, rw685, rw686, rw687⟩, by rw [ht]; exact hP, va_K.moved hW.alike hK, hD⟩, hS.F ht⟩) hS.2.2 dX12_member_193
                          · skip
                            have hb688 : ∀ k, Rc gT (Crun gs (Imember :: k)) (Cbad (V619 0 8).toInt) := fun k => (hr595 k).tr (h627 (Itake 59 :: Imember :: k))
                            refine va_iast (D := D) (i := z601) (x := z607) hx hb hK hP hD hS 27 26 rfl rfl (i_in (a := z601.toInt) rfl (by first | omega | ((try (have i_t610 := Imp.go t610 (by omega))); omega))) dX12_member_178 (fun H locs hP hD hS => ?_)
                            obtain ⟨V689, hV689⟩ : ∃ z, z = up2 V619 34 (Int32.toNatClampNeg z601) z607 := ⟨_, rfl⟩
                            have hP : va_P D vwCl (mw ad kk ks.1 V689 L620) H := by rw [hV689]; exact hP
                            have hD : va_D A (mw ad kk ks.1 V689 L620) := by rw [hV689]; exact hD
                            have hMV689 : rgd bM V689 := hMV619.put hV689 (i_full _)
                            have agV689 : agr [(0, 7), (0, 8), (0, 48), (0, 50)] [27, 28, 29, 30, 31, 32, 33, 34, 35, 36, 37, 38, 45, 46, 47] V V689 := agV619.up hV689 rfl
                            refine lv_goto (tgt := 187) hx hb dX12_member_179 (by decide) ?_
                            refine lv_aload_n hx hb dX12_member_187 rfl (lv_at hl 1 rfl) ?_
                            refine lv_bipush (v := 59) hx hb dX12_member_188 (by decide) ?_
                            have r690 : Int32.toInt 59 = 59 := by decide
                            have pq691 : (V689 0 8).toInt = ((V619 0 8)).toInt := congrArg Int32.toInt (up2_o hV689 (by decide))
                            refine gA_void (gA_runV (As := [.int 59]) (rest := []) (ci := 12) (q0 := 0) hx hb hml hown hg hP hD hK hS hA hnw hgk (s_takeSignB l D ks H.size ad kk V689 L620 59 hMV689 (show 1 ≤ (V689 0 8).toInt from by first | omega | ((try (have i_t610 := Imp.go t610 (by omega))); omega))) w2075 w2077 w96 w172 w2078 rfl rfl hdV_yX12_takeSign ⟨Nat.le_of_ble_eq_true rfl, Nat.le_of_ble_eq_true rfl⟩ rfl hl.1 rfl (Nat.le_of_ble_eq_true rfl) dX12_member_190 ⟨Nat.le_of_ble_eq_true rfl, Nat.le_of_ble_eq_true rfl⟩) hP hD hK hS hA (fun u693 H locs w694 hP hD hK hS => ?_)
                            obtain ⟨V696, L697⟩ := u693
                            obtain ⟨hMV696, ajV696, axL697, t695⟩ := w694
                            have axL697 : L620 = L697 := Eq.symm axL697
                            subst axL697
                            replace hP : va_P D vwCl (mw ad kk ks.1 V696 L620) H := hP
                            replace hD : va_D A (mw ad kk ks.1 V696 L620) := hD
                            replace hMV696 : rgd bM V696 := hMV696
                            replace ajV696 : agr [(0, 7), (0, 8)] [] V689 V696 := ajV696
                            have agV696 : agr [(0, 7), (0, 8), (0, 48), (0, 50)] [27, 28, 29, 30, 31, 32, 33, 34, 35, 36, 37, 38, 45, 46, 47] V V696 := agV689.tr ajV696 (by decide) (by decide)
                            replace t695 : (V696 0 8).toInt = (V689 0 8).toInt := t695
                            have r698 : 0 ≤ ((V696 0 8)).toInt ∧ ((V696 0 8)).toInt ≤ 70000 := hMV696 0 8
                            have pq699 : (V696 0 48).toInt = ((V619 0 48)).toInt := congrArg Int32.toInt ((ajV696 0 48 rfl).trans (up2_o hV689 (by decide)))
                            have rw700 : RoV 35 bq V V696 := (fun k hk => ((ajV696 35 k rfl).trans ((up2_o hV689 (by decide)).trans ((t615 k hk).trans ((t566 k hk).trans ((ajV548 35 k rfl).trans ((ajV418 35 k rfl).trans rfl)))))))
                            have rw701 : RoV 37 bq V V696 := (fun k hk => ((ajV696 37 k rfl).trans ((up2_o hV689 (by decide)).trans ((t616 k hk).trans ((t567 k hk).trans ((ajV548 37 k rfl).trans ((ajV418 37 k rfl).trans rfl)))))))
                            have rw702 : RoL 36 20 bq L L620 := (fun k hk => ((t617 k hk).trans ((t568 k hk).trans rfl)))
                            have rw703 : RoL 38 20 bq L L620 := (fun k hk => ((t618 k hk).trans ((t569 k hk).trans rfl)))
                            exact W.vret hx hb hr (fun t ht hW => ⟨⟨(V696, L620), rfl, ⟨hMV696, agV696, alL620, (Imp.mk (fun hp => have hp : (V696 0 8).toInt = 0 := hp; (show (V696 0 48).toInt ≤ 2 * (V696 0 7).toInt from by first | omega | ((try (have i_t610 := Imp.go t610 (by omega))); omega)))), (show (V696 0 48).toInt ≤ 8120 from by first | exact om_bb58a60fcee7 t611 pq699 | first | omega | ((try (have i_t610 := Imp.go t610 (by omega))); omega)), (Or.inr ⟨(show 1 ≤ (V696 0 8).toInt from by omega), (fun k => by rw [show (V696 0 8).toInt = (V619 0 8).toInt from by omega]; exact hb688 k)⟩), rw700, rw701, rw702, rw703⟩, by rw [ht]; exact hP, va_K.moved hW.alike hK, hD⟩, hS.F ht⟩) hS.2.2 dX12_member_193
                      · skip
                        have f704 : 0 ≤ ((V 34 (Int32.toNatClampNeg z587))).toInt := b_nlt rfl (by decide) c590
                        refine lv_aload_n hx hb dX12_member_142 rfl (lv_at hl 1 rfl) ?_
                        refine lv_dup hx hb dX12_member_143 rfl ?_
                        refine va_get (D := D) (ci := 12) (v := .int (V570 0 7)) (C := RX12) (T := TX12) (N := 100) hx hb hg inX12 hown hK hP 0 rfl rfl 7 (by decide) (hg _ w1713) (fun _ h9 => h9) rfl dX12_member_144 ?_
                        refine lv_iconst (v := 1) hx hb dX12_member_147 (by decide) ?_
                        refine lv_isub hx hb dX12_member_148 ?_
                        refine lv_topi (fun z705 ez705 => ?_)
                        have hz705 : z705.toInt = ((V570 0 7)).toInt - 1 := i_sub ez705 rfl (by decide) (by omega)
                        refine va_put (D := D) (ci := 12) (v := .int z705) (ty := tyX12 7) (C := RX12) (T := TX12) (N := 100) hx hb hg inX12 tyX12 tyX12_ok nmX12 hown hK hP hD hS 0 rfl rfl 7 (by decide) (hg _ w1713) (fun _ h9 => h9) rfl (tyX12_ok 7 (by decide)) rfl rfl (Nat.le_of_ble_eq_true rfl) dX12_member_149 (fun H locs hP hD hS => ?_)
                        obtain ⟨V706, hV706⟩ : ∃ z, z = up2 V570 0 7 z705 := ⟨_, rfl⟩
                        have hP : va_P D vwCl (mw ad kk ks.1 V706 L571) H := by rw [hV706]; exact hP
                        have hD : va_D A (mw ad kk ks.1 V706 L571) := by rw [hV706]; exact hD
                        have hMV706 : rgd bM V706 := hMV570.put hV706 (i_full _)
                        have agV706 : agr [(0, 7), (0, 8), (0, 48), (0, 50)] [27, 28, 29, 30, 31, 32, 33, 34, 35, 36, 37, 38, 45, 46, 47] V V706 := agV570.up hV706 rfl
                        have tx := MTX.told mt579 (by rw [oS]; exact ow5.mp (by omega)) (by rw [oS, oL]; exact ow.2.2.2.2.2)
                        have rl707 : RelM V706 L571 bq gn gT (nx gs 1) gl := RelM.v8 (by rw [← tx.2]; exact rl575) hV706 (by (first | exact om_a53909a885f5 hz705 | omega))
                        have fz708 := RelM.rg rl707
                        have pq709 : (V706 0 8).toInt = ((V570 0 8)).toInt := congrArg Int32.toInt (up2_k hV706 (by decide))
                        have pq710 : (V706 0 7).toInt = z705.toInt := congrArg Int32.toInt (up2_s hV706)
                        have mn3 : ∀ k, mst gT (Crun (nx gs 1) (ImethN :: k)) = fl gT (nx gs 1) 3 := fun k => mthN_3 (mth_k3 h574) tx.1 _
                        refine lv_aload_n hx hb dX12_member_152 rfl (lv_at hl 1 rfl) ?_
                        refine lv_iconst (v := 3) hx hb dX12_member_153 (by decide) ?_
                        have r711 : Int32.toInt 3 = 3 := by decide
                        refine gA_void (gA_runV (As := [.int 3]) (rest := []) (ci := 12) (q0 := 0) hx hb hml hown hg hP hD hK hS hA hnw hgk (s_wrongA l D ks H.size ad kk V706 L571 3 (bq) (gn) (gT) ((nx gs 1)) (gl) hMV706 (by decide) rl707) w2035 w2037 w86 w172 w2038 rfl rfl hdV_yX12_wrong ⟨Nat.le_of_ble_eq_true rfl, Nat.le_of_ble_eq_true rfl⟩ rfl hl.1 rfl (Nat.le_of_ble_eq_true rfl) dX12_member_154 ⟨Nat.le_of_ble_eq_true rfl, Nat.le_of_ble_eq_true rfl⟩) hP hD hK hS hA (fun u713 H locs w714 hP hD hK hS => ?_)
                        obtain ⟨V717, L718⟩ := u713
                        obtain ⟨hMV717, ajV717, axL718, t715, t716⟩ := w714
                        have axL718 : L571 = L718 := Eq.symm axL718
                        subst axL718
                        replace hP : va_P D vwCl (mw ad kk ks.1 V717 L571) H := hP
                        replace hD : va_D A (mw ad kk ks.1 V717 L571) := hD
                        replace hMV717 : rgd bM V717 := hMV717
                        replace ajV717 : agr [(0, 8)] [] V706 V717 := ajV717
                        have agV717 : agr [(0, 7), (0, 8), (0, 48), (0, 50)] [27, 28, 29, 30, 31, 32, 33, 34, 35, 36, 37, 38, 45, 46, 47] V V717 := agV706.tr ajV717 (by decide) (by decide)
                        replace t715 : 1 ≤ (V717 0 8).toInt := t715
                        replace t716 : (V717 0 8).toInt = (Int32.toInt 3) + 16 * (gT).2.2 (((nx gs 1)).1 0) := t716
                        have r719 : 0 ≤ ((V717 0 8)).toInt ∧ ((V717 0 8)).toInt ≤ 70000 := hMV717 0 8
                        have hb720 : ∀ k, Rc gT (Crun gs (Imember :: k)) (Cbad (V717 0 8).toInt) := fun k => Rc.go1 (hr555 k) ((mn3 _).trans (fl_eq rfl (show (V717 0 8).toInt = 3 + 16 * gT.2.2 ((nx gs 1).1 0) from by omega)))
                        refine lv_aload_n hx hb dX12_member_157 rfl (lv_at hl 1 rfl) ?_
                        refine va_get (D := D) (ci := 12) (v := .int (V717 0 8)) (C := RX12) (T := TX12) (N := 100) hx hb hg inX12 hown hK hP 0 rfl rfl 8 (by decide) (hg _ w1714) (fun _ h9 => h9) rfl dX12_member_158 ?_
                        refine lv_if_ne (tgt := 179) hx hb dX12_member_161 (by decide) (fun c721 => ?_) (fun c721 => ?_)
                        · skip
                          have f722 : ((V717 0 8)).toInt ≠ 0 := b_neq rfl (by decide) c721
                          refine lv_goto (tgt := 187) hx hb dX12_member_179 (by decide) ?_
                          refine lv_aload_n hx hb dX12_member_187 rfl (lv_at hl 1 rfl) ?_
                          refine lv_bipush (v := 59) hx hb dX12_member_188 (by decide) ?_
                          have r723 : Int32.toInt 59 = 59 := by decide
                          refine gA_void (gA_runV (As := [.int 59]) (rest := []) (ci := 12) (q0 := 0) hx hb hml hown hg hP hD hK hS hA hnw hgk (s_takeSignB l D ks H.size ad kk V717 L571 59 hMV717 (show 1 ≤ (V717 0 8).toInt from by (first | exact om_f8d8213eda45 t715 | omega))) w2075 w2077 w96 w172 w2078 rfl rfl hdV_yX12_takeSign ⟨Nat.le_of_ble_eq_true rfl, Nat.le_of_ble_eq_true rfl⟩ rfl hl.1 rfl (Nat.le_of_ble_eq_true rfl) dX12_member_190 ⟨Nat.le_of_ble_eq_true rfl, Nat.le_of_ble_eq_true rfl⟩) hP hD hK hS hA (fun u725 H locs w726 hP hD hK hS => ?_)
                          obtain ⟨V728, L729⟩ := u725
                          obtain ⟨hMV728, ajV728, axL729, t727⟩ := w726
                          have axL729 : L571 = L729 := Eq.symm axL729
                          subst axL729
                          replace hP : va_P D vwCl (mw ad kk ks.1 V728 L571) H := hP
                          replace hD : va_D A (mw ad kk ks.1 V728 L571) := hD
                          replace hMV728 : rgd bM V728 := hMV728
                          replace ajV728 : agr [(0, 7), (0, 8)] [] V717 V728 := ajV728
                          have agV728 : agr [(0, 7), (0, 8), (0, 48), (0, 50)] [27, 28, 29, 30, 31, 32, 33, 34, 35, 36, 37, 38, 45, 46, 47] V V728 := agV717.tr ajV728 (by decide) (by decide)
                          replace t727 : (V728 0 8).toInt = (V717 0 8).toInt := t727
                          have r730 : 0 ≤ ((V728 0 8)).toInt ∧ ((V728 0 8)).toInt ≤ 70000 := hMV728 0 8
                          have pq731 : (V728 0 48).toInt = ((V 0 48)).toInt := congrArg Int32.toInt ((ajV728 0 48 rfl).trans ((ajV717 0 48 rfl).trans ((up2_k hV706 (by decide)).trans ((ajV570 0 48 rfl).trans ((ajV548 0 48 rfl).trans (ajV418 0 48 rfl))))))
                          have rw732 : RoV 35 bq V V728 := (fun k hk => ((ajV728 35 k rfl).trans ((ajV717 35 k rfl).trans ((up2_o hV706 (by decide)).trans ((t566 k hk).trans ((ajV548 35 k rfl).trans ((ajV418 35 k rfl).trans rfl)))))))
                          have rw733 : RoV 37 bq V V728 := (fun k hk => ((ajV728 37 k rfl).trans ((ajV717 37 k rfl).trans ((up2_o hV706 (by decide)).trans ((t567 k hk).trans ((ajV548 37 k rfl).trans ((ajV418 37 k rfl).trans rfl)))))))
                          have rw734 : RoL 36 20 bq L L571 := (fun k hk => ((t568 k hk).trans rfl))
                          have rw735 : RoL 38 20 bq L L571 := (fun k hk => ((t569 k hk).trans rfl))
                          exact W.vret hx hb hr (fun t ht hW => ⟨⟨(V728, L571), rfl, ⟨hMV728, agV728, alL571, (Imp.mk (fun hp => have hp : (V728 0 8).toInt = 0 := hp; (show (V728 0 48).toInt ≤ 2 * (V728 0 7).toInt from by omega))), (show (V728 0 48).toInt ≤ 8120 from by omega), (Or.inr ⟨(show 1 ≤ (V728 0 8).toInt from by (first | exact om_e3c391a03e81 t715 t727 | omega)), (fun k => by rw [show (V728 0 8).toInt = (V717 0 8).toInt from by omega]; exact hb720 k)⟩), rw732, rw733, rw734, rw735⟩, by rw [ht]; exact hP, va_K.moved hW.alike hK, hD⟩, hS.F ht⟩) hS.2.2 dX12_member_193
                        · skip
                          have f736 : ((V717 0 8)).toInt = 0 := b_eq rfl (by decide) c721
                          exfalso; (first | exact om_09885ab343b9 t715 f736 | omega)
                  · skip
                    have hb737 : ∀ k, Rc gT (Crun gs (Imember :: k)) (Cbad (V570 0 8).toInt) := fun k => Rc.go1 (hr555 k) (mn_b (Km_mthN h574))
                    have r738 : 0 ≤ ((V570 0 8)).toInt ∧ ((V570 0 8)).toInt ≤ 70000 := hMV570 0 8
                    refine lv_istore_n (lv' := [(2, .int z562), (0, .ref (ad 0)), (1, .int p0)]) hx hb dX12_member_120 rfl hl (by decide) rfl (fun ls hl => ?_)
                    refine lv_aload_n hx hb dX12_member_121 rfl (lv_at hl 1 rfl) ?_
                    refine va_get (D := D) (ci := 12) (v := .int (V570 0 8)) (C := RX12) (T := TX12) (N := 100) hx hb hg inX12 hown hK hP 0 rfl rfl 8 (by decide) (hg _ w1714) (fun _ h9 => h9) rfl dX12_member_122 ?_
                    refine lv_if_ne (tgt := 157) hx hb dX12_member_125 (by decide) (fun c739 => ?_) (fun c739 => ?_)
                    · skip
                      have f740 : ((V570 0 8)).toInt ≠ 0 := b_neq rfl (by decide) c739
                      refine lv_aload_n hx hb dX12_member_157 rfl (lv_at hl 1 rfl) ?_
                      refine va_get (D := D) (ci := 12) (v := .int (V570 0 8)) (C := RX12) (T := TX12) (N := 100) hx hb hg inX12 hown hK hP 0 rfl rfl 8 (by decide) (hg _ w1714) (fun _ h9 => h9) rfl dX12_member_158 ?_
                      refine lv_if_ne (tgt := 179) hx hb dX12_member_161 (by decide) (fun c741 => ?_) (fun c741 => ?_)
                      · skip
                        have f742 : ((V570 0 8)).toInt ≠ 0 := b_neq rfl (by decide) c741
                        refine lv_goto (tgt := 187) hx hb dX12_member_179 (by decide) ?_
                        refine lv_aload_n hx hb dX12_member_187 rfl (lv_at hl 1 rfl) ?_
                        refine lv_bipush (v := 59) hx hb dX12_member_188 (by decide) ?_
                        have r743 : Int32.toInt 59 = 59 := by decide
                        refine gA_void (gA_runV (As := [.int 59]) (rest := []) (ci := 12) (q0 := 0) hx hb hml hown hg hP hD hK hS hA hnw hgk (s_takeSignB l D ks H.size ad kk V570 L571 59 hMV570 (show 1 ≤ (V570 0 8).toInt from by (first | exact om_76052c512981 r738.1 f740 | omega))) w2075 w2077 w96 w172 w2078 rfl rfl hdV_yX12_takeSign ⟨Nat.le_of_ble_eq_true rfl, Nat.le_of_ble_eq_true rfl⟩ rfl hl.1 rfl (Nat.le_of_ble_eq_true rfl) dX12_member_190 ⟨Nat.le_of_ble_eq_true rfl, Nat.le_of_ble_eq_true rfl⟩) hP hD hK hS hA (fun u745 H locs w746 hP hD hK hS => ?_)
                        obtain ⟨V748, L749⟩ := u745
                        obtain ⟨hMV748, ajV748, axL749, t747⟩ := w746
                        have axL749 : L571 = L749 := Eq.symm axL749
                        subst axL749
                        replace hP : va_P D vwCl (mw ad kk ks.1 V748 L571) H := hP
                        replace hD : va_D A (mw ad kk ks.1 V748 L571) := hD
                        replace hMV748 : rgd bM V748 := hMV748
                        replace ajV748 : agr [(0, 7), (0, 8)] [] V570 V748 := ajV748
                        have agV748 : agr [(0, 7), (0, 8), (0, 48), (0, 50)] [27, 28, 29, 30, 31, 32, 33, 34, 35, 36, 37, 38, 45, 46, 47] V V748 := agV570.tr ajV748 (by decide) (by decide)
                        replace t747 : (V748 0 8).toInt = (V570 0 8).toInt := t747
                        have r750 : 0 ≤ ((V748 0 8)).toInt ∧ ((V748 0 8)).toInt ≤ 70000 := hMV748 0 8
                        have pq751 : (V748 0 48).toInt = ((V 0 48)).toInt := congrArg Int32.toInt ((ajV748 0 48 rfl).trans ((ajV570 0 48 rfl).trans ((ajV548 0 48 rfl).trans (ajV418 0 48 rfl))))
                        have rw752 : RoV 35 bq V V748 := (fun k hk => ((ajV748 35 k rfl).trans ((t566 k hk).trans ((ajV548 35 k rfl).trans ((ajV418 35 k rfl).trans rfl)))))
                        have rw753 : RoV 37 bq V V748 := (fun k hk => ((ajV748 37 k rfl).trans ((t567 k hk).trans ((ajV548 37 k rfl).trans ((ajV418 37 k rfl).trans rfl)))))
                        have rw754 : RoL 36 20 bq L L571 := (fun k hk => ((t568 k hk).trans rfl))
                        have rw755 : RoL 38 20 bq L L571 := (fun k hk => ((t569 k hk).trans rfl))
                        exact W.vret hx hb hr (fun t ht hW => ⟨⟨(V748, L571), rfl, ⟨hMV748, agV748, alL571, (Imp.mk (fun hp => have hp : (V748 0 8).toInt = 0 := hp; (show (V748 0 48).toInt ≤ 2 * (V748 0 7).toInt from by omega))), (show (V748 0 48).toInt ≤ 8120 from by omega), (Or.inr ⟨(show 1 ≤ (V748 0 8).toInt from by (first | exact om_1499017b39b7 r738.1 f740 t747 | omega)), (fun k => by rw [show (V748 0 8).toInt = (V570 0 8).toInt from by omega]; exact hb737 k)⟩), rw752, rw753, rw754, rw755⟩, by rw [ht]; exact hP, va_K.moved hW.alike hK, hD⟩, hS.F ht⟩) hS.2.2 dX12_member_193
                      · skip
                        have f756 : ((V570 0 8)).toInt = 0 := b_eq rfl (by decide) c741
                        exfalso; (first | exact om_0abcda13baee r738.1 f740 f756 | omega)
                    · skip
                      have f757 : ((V570 0 8)).toInt = 0 := b_eq rfl (by decide) c739
                      exfalso; omega
              · skip
                have kd758 : gT.1 (gs.1 0) ≠ 142 := fun h9 => h551 (h9.trans (by decide))
                have fz759 := RelM.rg rl552
                have pq760 : (V548 0 8).toInt = ((V 0 8)).toInt := congrArg Int32.toInt ((ajV548 0 8 rfl).trans (ajV418 0 8 rfl))
                refine lv_if_eq (tgt := 182) hx hb dX12_member_105 (by decide) (fun c761 => ?_) (fun c761 => ?_)
                · skip
                  have f762 : z544.toInt = 0 := b_eq rfl (by decide) c761
                  refine lv_aload_n hx hb dX12_member_182 rfl (lv_at hl 0 rfl) ?_
                  refine lv_iconst (v := 1) hx hb dX12_member_183 (by decide) ?_
                  have r763 : Int32.toInt 1 = 1 := by decide
                  refine gA_void (gA_runV (As := [.int 1]) (rest := []) (ci := 12) (q0 := 0) hx hb hml hown hg hP hD hK hS hA hnw hgk (s_wrongA l D ks H.size ad kk V548 L 1 (bq) (gn) (gT) (gs) (gl) hMV548 (by decide) rl552) w2035 w2037 w86 w172 w2038 rfl rfl hdV_yX12_wrong ⟨Nat.le_of_ble_eq_true rfl, Nat.le_of_ble_eq_true rfl⟩ rfl hl.1 rfl (Nat.le_of_ble_eq_true rfl) dX12_member_184 ⟨Nat.le_of_ble_eq_true rfl, Nat.le_of_ble_eq_true rfl⟩) hP hD hK hS hA (fun u765 H locs w766 hP hD hK hS => ?_)
                  obtain ⟨V769, L770⟩ := u765
                  obtain ⟨hMV769, ajV769, axL770, t767, t768⟩ := w766
                  have axL770 : L = L770 := Eq.symm axL770
                  subst axL770
                  replace hP : va_P D vwCl (mw ad kk ks.1 V769 L) H := hP
                  replace hD : va_D A (mw ad kk ks.1 V769 L) := hD
                  replace hMV769 : rgd bM V769 := hMV769
                  replace ajV769 : agr [(0, 8)] [] V548 V769 := ajV769
                  have agV769 : agr [(0, 7), (0, 8), (0, 48), (0, 50)] [27, 28, 29, 30, 31, 32, 33, 34, 35, 36, 37, 38, 45, 46, 47] V V769 := agV548.tr ajV769 (by decide) (by decide)
                  replace t767 : 1 ≤ (V769 0 8).toInt := t767
                  replace t768 : (V769 0 8).toInt = (Int32.toInt 1) + 16 * (gT).2.2 ((gs).1 0) := t768
                  have r771 : 0 ≤ ((V769 0 8)).toInt ∧ ((V769 0 8)).toInt ≤ 70000 := hMV769 0 8
                  have hr772 : ∀ k, Rc gT (Crun gs (Imember :: k)) (Crun gs (Imember :: k)) := fun k => Rc.rf
                  have hb773 : ∀ k, Rc gT (Crun gs (Imember :: k)) (Cbad (V769 0 8).toInt) := fun k => Rc.go1 (hr772 k) ((mb_f kn125 kd158 (Or.inr (by by_cases q9 : gs.1 2 = 1; exact q9; exact absurd (ow.2.1.mpr q9) (by omega))) (Or.inl kd537) kd758).trans (fl_eq rfl (show (V769 0 8).toInt = 1 + 16 * gT.2.2 (gs.1 0) from by omega)))
                  refine lv_aload_n hx hb dX12_member_187 rfl (lv_at hl 0 rfl) ?_
                  refine lv_bipush (v := 59) hx hb dX12_member_188 (by decide) ?_
                  have r774 : Int32.toInt 59 = 59 := by decide
                  refine gA_void (gA_runV (As := [.int 59]) (rest := []) (ci := 12) (q0 := 0) hx hb hml hown hg hP hD hK hS hA hnw hgk (s_takeSignB l D ks H.size ad kk V769 L 59 hMV769 (show 1 ≤ (V769 0 8).toInt from by (first | exact om_f8d8213eda45 t767 | omega))) w2075 w2077 w96 w172 w2078 rfl rfl hdV_yX12_takeSign ⟨Nat.le_of_ble_eq_true rfl, Nat.le_of_ble_eq_true rfl⟩ rfl hl.1 rfl (Nat.le_of_ble_eq_true rfl) dX12_member_190 ⟨Nat.le_of_ble_eq_true rfl, Nat.le_of_ble_eq_true rfl⟩) hP hD hK hS hA (fun u776 H locs w777 hP hD hK hS => ?_)
                  obtain ⟨V779, L780⟩ := u776
                  obtain ⟨hMV779, ajV779, axL780, t778⟩ := w777
                  have axL780 : L = L780 := Eq.symm axL780
                  subst axL780
                  replace hP : va_P D vwCl (mw ad kk ks.1 V779 L) H := hP
                  replace hD : va_D A (mw ad kk ks.1 V779 L) := hD
                  replace hMV779 : rgd bM V779 := hMV779
                  replace ajV779 : agr [(0, 7), (0, 8)] [] V769 V779 := ajV779
                  have agV779 : agr [(0, 7), (0, 8), (0, 48), (0, 50)] [27, 28, 29, 30, 31, 32, 33, 34, 35, 36, 37, 38, 45, 46, 47] V V779 := agV769.tr ajV779 (by decide) (by decide)
                  replace t778 : (V779 0 8).toInt = (V769 0 8).toInt := t778
                  have r781 : 0 ≤ ((V779 0 8)).toInt ∧ ((V779 0 8)).toInt ≤ 70000 := hMV779 0 8
                  have pq782 : (V779 0 48).toInt = ((V 0 48)).toInt := congrArg Int32.toInt ((ajV779 0 48 rfl).trans ((ajV769 0 48 rfl).trans ((ajV548 0 48 rfl).trans (ajV418 0 48 rfl))))
                  have rw783 : RoV 35 bq V V779 := (fun k hk => ((ajV779 35 k rfl).trans ((ajV769 35 k rfl).trans ((ajV548 35 k rfl).trans ((ajV418 35 k rfl).trans rfl)))))
                  have rw784 : RoV 37 bq V V779 := (fun k hk => ((ajV779 37 k rfl).trans ((ajV769 37 k rfl).trans ((ajV548 37 k rfl).trans ((ajV418 37 k rfl).trans rfl)))))
                  have rw785 : RoL 36 20 bq L L := (fun k hk => rfl)
                  have rw786 : RoL 38 20 bq L L := (fun k hk => rfl)
                  exact W.vret hx hb hr (fun t ht hW => ⟨⟨(V779, L), rfl, ⟨hMV779, agV779, alL, (Imp.mk (fun hp => have hp : (V779 0 8).toInt = 0 := hp; (show (V779 0 48).toInt ≤ 2 * (V779 0 7).toInt from by omega))), (show (V779 0 48).toInt ≤ 8120 from by omega), (Or.inr ⟨(show 1 ≤ (V779 0 8).toInt from by (first | exact om_e3c391a03e81 t767 t778 | omega)), (fun k => by rw [show (V779 0 8).toInt = (V769 0 8).toInt from by omega]; exact hb773 k)⟩), rw783, rw784, rw785, rw786⟩, by rw [ht]; exact hP, va_K.moved hW.alike hK, hD⟩, hS.F ht⟩) hS.2.2 dX12_member_193
                · skip
                  have f787 : z544.toInt ≠ 0 := b_neq rfl (by decide) c761
                  exfalso; (first | exact om_fb320d7600b7 rgz544.1 q550 f787 | omega)
            · skip
              have f788 : z414.toInt ≠ 0 := b_neq rfl (by decide) c541
              exfalso; (first | exact om_fb320d7600b7 rgz414.1 q420 f788 | omega)
      · skip
        have f789 : ((V 32 (Int32.toNatClampNeg p0))).toInt < 0 := b_nle (by decide) rfl c161
        refine lv_aload_n hx hb dX12_member_46 rfl (lv_at hl 0 rfl) ?_
        refine lv_bipush (v := 12) hx hb dX12_member_47 (by decide) ?_
        have r790 : Int32.toInt 12 = 12 := by decide
        refine gA_int (gA_runV (As := [.int 12]) (rest := []) (ci := 12) (q0 := 0) hx hb hml hown hg hP hD hK hS hA hnw hgk (s_hasWordA l D ks H.size ad kk V L 12 (bq) (gn) (gT) (gs) (gl) hMV (by decide) rel) w2051 w2053 w90 w172 w2054 rfl rfl hdV_yX12_hasWord ⟨Nat.le_of_ble_eq_true rfl, Nat.le_of_ble_eq_true rfl⟩ rfl hl.1 rfl (Nat.le_of_ble_eq_true rfl) dX12_member_49 ⟨Nat.le_of_ble_eq_true rfl, Nat.le_of_ble_eq_true rfl⟩) hP hD hK hS hA (fun z791 u792 H locs w793 hP hD hK hS => ?_)
        obtain ⟨V795, L796⟩ := u792
        obtain ⟨hMV795, ajV795, axL796, rgz791, t794⟩ := w793
        have axL796 : L = L796 := Eq.symm axL796
        subst axL796
        replace hP : va_P D vwCl (mw ad kk ks.1 V795 L) H := hP
        replace hD : va_D A (mw ad kk ks.1 V795 L) := hD
        replace hMV795 : rgd bM V795 := hMV795
        replace ajV795 : agr [(0, 7)] [] V V795 := ajV795
        have agV795 : agr [(0, 7), (0, 8), (0, 48), (0, 50)] [27, 28, 29, 30, 31, 32, 33, 34, 35, 36, 37, 38, 45, 46, 47] V V795 := agV.tr ajV795 (by decide) (by decide)
        replace rgz791 : 0 ≤ z791.toInt ∧ z791.toInt ≤ 1 := rgz791
        replace t794 : (z791.toInt = 1 ∧ (gT).1 ((gs).1 0) = 128 + (Int32.toInt 12) ∧ RelM V795 L (bq) (gn) (gT) (nx (gs) 1) (gl)) ∨ (z791.toInt = 0 ∧ (gT).1 ((gs).1 0) ≠ 128 + (Int32.toInt 12) ∧ RelM V795 L (bq) (gn) (gT) (gs) (gl)) := t794
        rcases t794 with ⟨q797, h798, rl799⟩ | ⟨q797, h798, rl799⟩
        · skip
          have kd800 : gT.1 (gs.1 0) = 140 := h798.trans (by decide)
          have hr801 : ∀ k, Rc gT (Crun gs (Imember :: k)) (Crun gs (Imember :: k)) := fun k => Rc.rf
          have hr802 : ∀ k, Rc gT (Crun gs (Imember :: k)) (Crun (sL (nx (sN gs 2 1) 1) (100 + 32 * ((gs.2.1 2).length - 1) + 30) (cl gs + 1)) (Iexpr 0 :: Iem 0 :: Itake 59 :: Imember :: k)) := fun k => Rc.go1 (hr801 k) (mb_140 kd800 (ow.2.1.mp (by omega)))
          have ps803 : (sN gs 2 1).1 0 = gs.1 0 := rfl
          have ps804 : (nx gs 1).1 0 = gs.1 0 + 1 := rfl
          have fz805 := RelM.rg rl799
          have pq806 : (V795 0 8).toInt = ((V 0 8)).toInt := congrArg Int32.toInt (ajV795 0 8 rfl)
          have r807 : 0 ≤ ((V 0 8)).toInt ∧ ((V 0 8)).toInt ≤ 70000 := hMV 0 8
          refine lv_if_eq (tgt := 68) hx hb dX12_member_52 (by decide) (fun c808 => ?_) (fun c808 => ?_)
          · skip
            have f809 : z791.toInt = 0 := b_eq rfl (by decide) c808
            exfalso; (first | exact om_495ee03a60ae q797 f809 | omega)
          · skip
            have f810 : z791.toInt ≠ 0 := b_neq rfl (by decide) c808
            have rl811 : RelM V795 L bq gn gT (nx (sN gs 2 1) 1) gl := rl799
            have rl812 : RelM V795 L bq gn gT (sL (nx (sN gs 2 1) 1) (100 + 32 * ((gs.2.1 2).length - 1) + 30) (cl gs + 1)) gl := RelM.gl rl811 (by omega)
            have ps813 : (sL (nx (sN gs 2 1) 1) (100 + 32 * ((gs.2.1 2).length - 1) + 30) (cl gs + 1)).1 0 = (nx (sN gs 2 1) 1).1 0 := rfl
            refine lv_aload_n hx hb dX12_member_55 rfl (lv_at hl 0 rfl) ?_
            refine va_get (D := D) (ci := 12) (v := .ref (ad 32)) (C := RX12) (T := TX12) (N := 100) hx hb hg inX12 hown hK hP 0 rfl rfl 32 (by decide) (hg _ w1738) (fun _ h9 => h9) rfl dX12_member_56 ?_
            refine lv_iload_n hx hb dX12_member_59 rfl (lv_at hl 1 rfl) ?_
            refine lv_aload_n hx hb dX12_member_60 rfl (lv_at hl 0 rfl) ?_
            have pq814 : (V795 0 48).toInt = ((V 0 48)).toInt := congrArg Int32.toInt (ajV795 0 48 rfl)
            have pq815 : (V795 0 51).toInt = ((V 0 51)).toInt := congrArg Int32.toInt (ajV795 0 51 rfl)
            have pq816 : (V795 0 52).toInt = ((V 0 52)).toInt := congrArg Int32.toInt (ajV795 0 52 rfl)
            have cd817 : CDm V795 (10000 * bq) gs := CDm.ag cem.1 (show agr [(0, 7)] [] V V795 from (agr.tr agr.rf ajV795 (by decide) (by decide))) ⟨rfl, rfl, fun _ => ⟨rfl, rfl, rfl⟩⟩
            have cd818 : CDm V795 (10000 * bq) (sL (nx (sN gs 2 1) 1) (100 + 32 * ((gs.2.1 2).length - 1) + 30) (cl gs + 1)) := CDm.mv cd817 (fun j9 h9 => ((show ∀ j9, j9 = 5 ∨ 2000 ≤ j9 → (sL (nx (sN gs 2 1) 1) (100 + 32 * ((gs.2.1 2).length - 1) + 30) (cl gs + 1)).2.1 j9 = (nx (sN gs 2 1) 1).2.1 j9 from fun j9 h9 => sL_o _ _ (by have h9 := cem.2.1.1; omega)) j9 h9).trans ((fun j9 h9 => ((show ∀ j9, j9 = 5 ∨ 2000 ≤ j9 → (nx (sN gs 2 1) 1).2.1 j9 = (nx gs 1).2.1 j9 from fun j9 h9 => (show ∀ j9, 5 ≤ j9 → (nx (sN gs 2 1) 1).2.1 j9 = (nx gs 1).2.1 j9 from fun _ _ => rfl) j9 (by omega)) j9 h9).trans ((show ∀ j9, j9 = 5 ∨ 2000 ≤ j9 → (nx gs 1).2.1 j9 = gs.2.1 j9 from fun j9 h9 => (show ∀ j9, 5 ≤ j9 → (nx gs 1).2.1 j9 = gs.2.1 j9 from fun _ _ => rfl) j9 (by omega)) j9 h9)) j9 h9))
            refine gA_int (gA_runV (As := []) (rest := [.int p0, .ref (ad 32)]) (ci := 12) (q0 := 0) hx hb hml hown hg hP hD hK hS hA hnw hgk (s_codeA l D ks H.size ad kk V795 L (bq) (gn) (gT) ((sL (nx (sN gs 2 1) 1) (100 + 32 * ((gs.2.1 2).length - 1) + 30) (cl gs + 1))) (gl) hMV795 rl812 (show (V795 0 48).toInt ≤ 2 * (V795 0 7).toInt from by omega) (EM.o2 (o := gc) (show (V795 27 gc).toInt = (((sL (nx (sN gs 2 1) 1) (100 + 32 * ((gs.2.1 2).length - 1) + 30) (cl gs + 1)).1 1 : Nat) : Int) from by rw [(by rw [(funext (fun q => ajV795 27 q rfl) : V795 27 = V 27)] : V795 27 = V 27)]; exact ow.1) (show (sL (nx (sN gs 2 1) 1) (100 + 32 * ((gs.2.1 2).length - 1) + 30) (cl gs + 1)).1 4 = 0 from ow.2.2.2.1) (by omega) (by omega)) cd818) w2112 w2114 w105 w172 w2115 rfl rfl hdV_yX12_code ⟨Nat.le_of_ble_eq_true rfl, Nat.le_of_ble_eq_true rfl⟩ rfl hl.1 rfl (Nat.le_of_ble_eq_true rfl) dX12_member_61 ⟨Nat.le_of_ble_eq_true rfl, Nat.le_of_ble_eq_true rfl⟩) hP hD hK hS hA (fun z819 u820 H locs w821 hP hD hK hS => ?_)
            obtain ⟨V831, L832⟩ := u820
            obtain ⟨hMV831, ajV831, axL832, rgz819, t822, t823, t824, t825, t826, t827, t828, t829, t830⟩ := w821
            have alL832 : agL [27, 28, 29, 30, 31, 32, 33, 34, 35, 36, 37, 38, 45, 46, 47] L L832 := agL.tr alL axL832 (by decide)
            replace hP : va_P D vwCl (mw ad kk ks.1 V831 L832) H := hP
            replace hD : va_D A (mw ad kk ks.1 V831 L832) := hD
            replace hMV831 : rgd bM V831 := hMV831
            replace ajV831 : agr [(0, 7), (0, 8), (0, 48), (0, 50)] [35, 36, 37, 38, 45, 46, 47] V795 V831 := ajV831
            have agV831 : agr [(0, 7), (0, 8), (0, 48), (0, 50)] [27, 28, 29, 30, 31, 32, 33, 34, 35, 36, 37, 38, 45, 46, 47] V V831 := agV795.tr ajV831 (by decide) (by decide)
            replace rgz819 : 0 ≤ z819.toInt ∧ z819.toInt ≤ 20000 := rgz819
            replace t822 : Imp ((V831 0 8).toInt = 0) ((V831 0 48).toInt - (V795 0 48).toInt ≤ 2 * ((V831 0 7).toInt - (V795 0 7).toInt) + 1) := t822
            replace t823 : (V831 0 48).toInt ≤ 8060 := t823
            replace t824 : (V795 0 48).toInt ≤ (V831 0 48).toInt := t824
            replace t825 : z819.toInt = (V795 0 49).toInt + (V795 0 48).toInt := t825
            replace t826 : RdM (gT) ((sL (nx (sN gs 2 1) 1) (100 + 32 * ((gs.2.1 2).length - 1) + 30) (cl gs + 1))) (fun k => Iexpr 0 :: Iem 0 :: k) (fun k => k) (V831 0 8).toInt (fun s9 => RelM V831 L832 (bq) (gn) (gT) s9 (gl) ∧ keepS ((sL (nx (sN gs 2 1) 1) (100 + 32 * ((gs.2.1 2).length - 1) + 30) (cl gs + 1))) 1 s9 ∧ keepE ((sL (nx (sN gs 2 1) 1) (100 + 32 * ((gs.2.1 2).length - 1) + 30) (cl gs + 1))) s9 ∧ CDm V831 (10000 * (bq)) s9) := t826
            replace t827 : RoV 35 (bq) V795 V831 := t827
            replace t828 : RoV 37 (bq) V795 V831 := t828
            replace t829 : RoL 36 20 (bq) L L832 := t829
            replace t830 : RoL 38 20 (bq) L L832 := t830
            have r833 : 0 ≤ ((V831 0 48)).toInt ∧ ((V831 0 48)).toInt ≤ 10000 := hMV831 0 48
            have r834 : 0 ≤ ((V831 0 8)).toInt ∧ ((V831 0 8)).toInt ≤ 70000 := hMV831 0 8
            have pq835 : (V795 0 49).toInt = ((V 0 49)).toInt := congrArg Int32.toInt (ajV795 0 49 rfl)
            have r836 : 0 ≤ ((V 0 49)).toInt ∧ ((V 0 49)).toInt ≤ 10000 := hMV 0 49
            rcases t826 with ⟨q837, sx838, h839, rl840, kp841, ke842, cd843⟩ | ⟨q837, h839⟩
            · skip
              have hr844 : ∀ k, Rc gT (Crun gs (Imember :: k)) (Crun sx838 (Itake 59 :: Imember :: k)) := fun k => (hr802 k).tr (h839 (Itake 59 :: Imember :: k))
              have fz845 := RelM.rg rl840
              have ps846 := (kp841).1
              refine va_iast (D := D) (i := p0) (x := z819) hx hb hK hP hD hS 25 24 rfl rfl (i_in (a := p0.toInt) rfl (by first | exact om_6e0fb57f3b24 pgc ic gcb r1.2 | first | omega | ((try (have i_t822 := Imp.go t822 (by omega))); omega))) dX12_member_64 (fun H locs hP hD hS => ?_)
              obtain ⟨V847, hV847⟩ : ∃ z, z = up2 V831 32 (Int32.toNatClampNeg p0) z819 := ⟨_, rfl⟩
              have hP : va_P D vwCl (mw ad kk ks.1 V847 L832) H := by rw [hV847]; exact hP
              have hD : va_D A (mw ad kk ks.1 V847 L832) := by rw [hV847]; exact hD
              have hMV847 : rgd bM V847 := hMV831.put hV847 (i_full _)
              have agV847 : agr [(0, 7), (0, 8), (0, 48), (0, 50)] [27, 28, 29, 30, 31, 32, 33, 34, 35, 36, 37, 38, 45, 46, 47] V V847 := agV831.up hV847 rfl
              refine lv_goto (tgt := 187) hx hb dX12_member_65 (by decide) ?_
              refine lv_aload_n hx hb dX12_member_187 rfl (lv_at hl 0 rfl) ?_
              refine lv_bipush (v := 59) hx hb dX12_member_188 (by decide) ?_
              have rl848 : RelM V847 L832 bq gn gT sx838 gl := RelM.ag rl840 (show agr [] [32] V831 V847 from (agr.up agr.rf hV847 rfl)) (by decide) (show agL [] L832 L832 from agL.rf) (by decide)
              have r849 : Int32.toInt 59 = 59 := by decide
              refine gA_void (gA_runV (As := [.int 59]) (rest := []) (ci := 12) (q0 := 0) hx hb hml hown hg hP hD hK hS hA hnw hgk (s_takeSignA l D ks H.size ad kk V847 L832 59 (bq) (gn) (gT) (sx838) (gl) hMV847 rl848 (sg_yes (j := 59) (by decide) (by decide) (by decide))) w2075 w2077 w96 w172 w2078 rfl rfl hdV_yX12_takeSign ⟨Nat.le_of_ble_eq_true rfl, Nat.le_of_ble_eq_true rfl⟩ rfl hl.1 rfl (Nat.le_of_ble_eq_true rfl) dX12_member_190 ⟨Nat.le_of_ble_eq_true rfl, Nat.le_of_ble_eq_true rfl⟩) hP hD hK hS hA (fun u851 H locs w852 hP hD hK hS => ?_)
              obtain ⟨V854, L855⟩ := u851
              obtain ⟨hMV854, ajV854, axL855, t853⟩ := w852
              have axL855 : L832 = L855 := Eq.symm axL855
              subst axL855
              replace hP : va_P D vwCl (mw ad kk ks.1 V854 L832) H := hP
              replace hD : va_D A (mw ad kk ks.1 V854 L832) := hD
              replace hMV854 : rgd bM V854 := hMV854
              replace ajV854 : agr [(0, 7), (0, 8)] [] V847 V854 := ajV854
              have agV854 : agr [(0, 7), (0, 8), (0, 48), (0, 50)] [27, 28, 29, 30, 31, 32, 33, 34, 35, 36, 37, 38, 45, 46, 47] V V854 := agV847.tr ajV854 (by decide) (by decide)
              replace t853 : ((V854 0 8).toInt = 0 ∧ (gT).1 ((sx838).1 0) = (Int32.toInt 59) ∧ RelM V854 L832 (bq) (gn) (gT) (nx (sx838) 1) (gl)) ∨ (1 ≤ (V854 0 8).toInt ∧ (gT).1 ((sx838).1 0) ≠ (Int32.toInt 59) ∧ (V854 0 8).toInt = 1 + 16 * (gT).2.2 ((sx838).1 0)) := t853
              rcases t853 with ⟨q856, h857, rl858⟩ | ⟨q856, h857, rl858⟩
              · skip
                have kd859 : gT.1 (sx838.1 0) = 59 := h857.trans (by decide)
                have hr860 : ∀ k, Rc gT (Crun gs (Imember :: k)) (Crun (nx sx838 1) (Imember :: k)) := fun k => Rc.go1 (hr844 k) (tk_y kd859)
                have ps861 : (nx sx838 1).1 0 = sx838.1 0 + 1 := rfl
                have fz862 := RelM.rg rl858
                have r863 : 0 ≤ ((V854 0 8)).toInt ∧ ((V854 0 8)).toInt ≤ 70000 := hMV854 0 8
                have pq864 : (V854 0 48).toInt = ((V831 0 48)).toInt := congrArg Int32.toInt ((ajV854 0 48 rfl).trans (up2_o hV847 (by decide)))
                have ps865 : gs.1 0 + 1 ≤ (nx gs 1).1 0 := ((keepS.n1 1)).1
                have ps866 : (nx (sN gs 2 1) 1).1 0 = (nx gs 1).1 0 := rfl
                have ps867 : (nx (sN gs 2 1) 1).1 0 + 0 ≤ (sL (nx (sN gs 2 1) 1) (100 + 32 * ((gs.2.1 2).length - 1) + 30) (cl gs + 1)).1 0 := ((show keepS (nx (sN gs 2 1) 1) 0 (sL (nx (sN gs 2 1) 1) (100 + 32 * ((gs.2.1 2).length - 1) + 30) (cl gs + 1)) from keepS.gl (by omega))).1
                have ps868 : (sL (nx (sN gs 2 1) 1) (100 + 32 * ((gs.2.1 2).length - 1) + 30) (cl gs + 1)).1 0 + 1 ≤ sx838.1 0 := (kp841).1
                have ps869 : sx838.1 0 + 1 ≤ (nx sx838 1).1 0 := ((keepS.n1 1)).1
                have cs870 : 0 ≤ (V854 32 gc).toInt := by have h9 : V854 32 (Int32.toNatClampNeg p0) = z819 := ((ajV854 32 (Int32.toNatClampNeg p0) rfl).trans (up2_s hV847)); rw [kgc] at h9; rw [h9]; omega
                have cn871 : CNm V854 bq gs := CNm.ag cnm (show agr [(0, 7), (0, 8), (0, 48), (0, 50)] [32, 35, 36, 37, 38, 45, 46, 47] V V854 from (agr.tr (agr.up (agr.tr (agr.tr agr.rf ajV795 (by decide) (by decide)) ajV831 (by decide) (by decide)) hV847 rfl) ajV854 (by decide) (by decide))) (by decide) keepC.rf
                have cn872 : CNm V854 bq (nx sx838 1) := CNm.mv cn871 (fun _ _ _ => rfl) (keepC.tr (keepC.tr (keepC.tr (keepC.tr (keepC.tr (keepC.rf : keepC gs gs) (keepS.c (keepS.n1 1))) (keepC.tn (by decide) : keepC (nx gs 1) (nx (sN gs 2 1) 1))) (keepS.c (show keepS (nx (sN gs 2 1) 1) 0 (sL (nx (sN gs 2 1) 1) (100 + 32 * ((gs.2.1 2).length - 1) + 30) (cl gs + 1)) from keepS.gl (by omega)))) (keepS.c kp841)) (keepS.c (keepS.n1 1)))
                have cd873 : CDm V854 (10000 * bq) sx838 := CDm.ag cd843 (show agr [(0, 7), (0, 8)] [32] V831 V854 from (agr.tr (agr.up agr.rf hV847 rfl) ajV854 (by decide) (by decide))) ⟨rfl, rfl, fun _ => ⟨rfl, rfl, rfl⟩⟩
                have cd874 : CDm V854 (10000 * bq) (nx sx838 1) := CDm.mv cd873 (show ∀ j9, j9 = 5 ∨ 2000 ≤ j9 → (nx sx838 1).2.1 j9 = sx838.2.1 j9 from fun j9 h9 => (show ∀ j9, 5 ≤ j9 → (nx sx838 1).2.1 j9 = sx838.2.1 j9 from fun _ _ => rfl) j9 (by omega))
                have re875 : REm V831 bq gs := REm.ag cem.2.1 (show agr [(0, 7), (0, 8), (0, 48), (0, 50)] [35, 36, 37, 38, 45, 46, 47] V V831 from (agr.tr (agr.tr agr.rf ajV795 (by decide) (by decide)) ajV831 (by decide) (by decide))) (fun _ => ⟨rfl, rfl, rfl⟩) keepE.rf rfl
                have hu876 := hV847
                have ce877 := cem.1.1
                have ce878 := cem.1.2.1
                rw [kgc] at hu876
                have re879 : REm V847 bq (sL (nx (sN gs 2 1) 1) (100 + 32 * ((gs.2.1 2).length - 1) + 30) (cl gs + 1)) := REm.st re875 (Or.inr (Or.inl rfl)) (show gc + 1 = 24 * bq + (gs.2.1 2).length from gcl) gcb (cM_30 hu876) (show z819.toInt = ((10000 * bq : Nat) : Int) + ((cl gs : Nat) : Int) from by have h8 : cl gs = cl gs := rfl; omega) (fun _ _ => rfl) rfl
                have re880 : REm V854 bq (sL (nx (sN gs 2 1) 1) (100 + 32 * ((gs.2.1 2).length - 1) + 30) (cl gs + 1)) := REm.ag re879 (show agr [(0, 7), (0, 8)] [] V847 V854 from (agr.tr agr.rf ajV854 (by decide) (by decide))) (fun _ => ⟨rfl, rfl, rfl⟩) keepE.rf rfl
                have re881 : REm V854 bq (nx sx838 1) := REm.mv re880 (fun _ _ _ _ => rfl) (keepE.tr (keepE.tr (keepE.rf : keepE (sL (nx (sN gs 2 1) 1) (100 + 32 * ((gs.2.1 2).length - 1) + 30) (cl gs + 1)) (sL (nx (sN gs 2 1) 1) (100 + 32 * ((gs.2.1 2).length - 1) + 30) (cl gs + 1))) ke842) (show keepE sx838 (nx sx838 1) from keepE.eq (show ∀ j9, 5 ≤ j9 → (nx sx838 1).2.1 j9 = sx838.2.1 j9 from fun _ _ => rfl))) (((show keepS sx838 1 (nx sx838 1) from (keepS.n1 1)).2.2.1 2 (by decide)).trans (((show keepS (sL (nx (sN gs 2 1) 1) (100 + 32 * ((gs.2.1 2).length - 1) + 30) (cl gs + 1)) 1 sx838 from kp841).2.2.1 2 (by decide)).trans (rfl : (sL (nx (sN gs 2 1) 1) (100 + 32 * ((gs.2.1 2).length - 1) + 30) (cl gs + 1)).2.1 2 = (sL (nx (sN gs 2 1) 1) (100 + 32 * ((gs.2.1 2).length - 1) + 30) (cl gs + 1)).2.1 2)))
                have wm882 : WMm V854 bq gs := WMm.ag cem.2.2 (show agr [(0, 7), (0, 8), (0, 48), (0, 50)] [32, 35, 36, 37, 38, 45, 46, 47] V V854 from (agr.tr (agr.up (agr.tr (agr.tr agr.rf ajV795 (by decide) (by decide)) ajV831 (by decide) (by decide)) hV847 rfl) ajV854 (by decide) (by decide))) (fun _ => ⟨rfl, rfl, rfl, rfl, rfl⟩) (fun _ _ _ => rfl) rfl
                have wm883 : WMm V854 bq (nx (sN gs 2 1) 1) := WMm.mv wm882 (fun _ _ _ _ _ => rfl) ((keepE.tr (keepE.tr (keepE.rf : keepE gs gs) (show keepE gs (nx gs 1) from keepE.eq (show ∀ j9, 5 ≤ j9 → (nx gs 1).2.1 j9 = gs.2.1 j9 from fun _ _ => rfl))) (show keepE (nx gs 1) (nx (sN gs 2 1) 1) from keepE.eq (show ∀ j9, 5 ≤ j9 → (nx (sN gs 2 1) 1).2.1 j9 = (nx gs 1).2.1 j9 from fun _ _ => rfl)))).k9 ((rfl : (nx (sN gs 2 1) 1).2.2.1 = (nx gs 1).2.2.1).trans ((congrArg (fun q9 : List (Nat × Bool) × List Nat => q9.1) (show keepS gs 1 (nx gs 1) from (keepS.n1 1)).2.2.2).trans (rfl : gs.2.2.1 = gs.2.2.1)))
                have wm884 : WMm V854 bq (sL (nx (sN gs 2 1) 1) (100 + 32 * ((gs.2.1 2).length - 1) + 30) (cl gs + 1)) := WMm.mv wm883 (fun _ _ _ _ _ => rfl) (sL_k9 (by have h9 := cem.2.1.1; omega)) rfl
                have wm885 : WMm V854 bq (nx sx838 1) := WMm.mv wm884 (fun _ _ _ _ _ => rfl) ((keepE.tr (keepE.tr (keepE.rf : keepE (sL (nx (sN gs 2 1) 1) (100 + 32 * ((gs.2.1 2).length - 1) + 30) (cl gs + 1)) (sL (nx (sN gs 2 1) 1) (100 + 32 * ((gs.2.1 2).length - 1) + 30) (cl gs + 1))) ke842) (show keepE sx838 (nx sx838 1) from keepE.eq (show ∀ j9, 5 ≤ j9 → (nx sx838 1).2.1 j9 = sx838.2.1 j9 from fun _ _ => rfl)))).k9 ((congrArg (fun q9 : List (Nat × Bool) × List Nat => q9.1) (show keepS sx838 1 (nx sx838 1) from (keepS.n1 1)).2.2.2).trans ((congrArg (fun q9 : List (Nat × Bool) × List Nat => q9.1) (show keepS (sL (nx (sN gs 2 1) 1) (100 + 32 * ((gs.2.1 2).length - 1) + 30) (cl gs + 1)) 1 sx838 from kp841).2.2.2).trans (rfl : (sL (nx (sN gs 2 1) 1) (100 + 32 * ((gs.2.1 2).length - 1) + 30) (cl gs + 1)).2.2.1 = (sL (nx (sN gs 2 1) 1) (100 + 32 * ((gs.2.1 2).length - 1) + 30) (cl gs + 1)).2.2.1)))
                have rw886 : RoV 35 bq V V854 := (fun k hk => ((ajV854 35 k rfl).trans ((up2_o hV847 (by decide)).trans ((t827 k hk).trans ((ajV795 35 k rfl).trans rfl)))))
                have rw887 : RoV 37 bq V V854 := (fun k hk => ((ajV854 37 k rfl).trans ((up2_o hV847 (by decide)).trans ((t828 k hk).trans ((ajV795 37 k rfl).trans rfl)))))
                have rw888 : RoL 36 20 bq L L832 := (fun k hk => ((t829 k hk).trans rfl))
                have rw889 : RoL 38 20 bq L L832 := (fun k hk => ((t830 k hk).trans rfl))
                exact W.vret hx hb hr (fun t ht hW => ⟨⟨(V854, L832), rfl, ⟨hMV854, agV854, alL832, (Imp.mk (fun hp => have hp : (V854 0 8).toInt = 0 := hp; (show (V854 0 48).toInt ≤ 2 * (V854 0 7).toInt from by first | omega | ((try (have i_t822 := Imp.go t822 (by omega))); omega)))), (show (V854 0 48).toInt ≤ 8120 from by first | exact om_bb58a60fcee7 t823 pq864 | first | omega | ((try (have i_t822 := Imp.go t822 (by omega))); omega)), (Or.inl ⟨W0 rl858, (nx sx838 1), hr860, rl858, (by omega), (OWm.op ow (keepS.tr (keepS.tr (keepS.tr (keepS.rf : keepS (nx (sN gs 2 1) 1) 0 (nx (sN gs 2 1) 1)) (show keepS (nx (sN gs 2 1) 1) 0 (sL (nx (sN gs 2 1) 1) (100 + 32 * ((gs.2.1 2).length - 1) + 30) (cl gs + 1)) from keepS.gl (by omega))) kp841) (keepS.n1 1)) (Rc.ml (hr860 [])) (show V854 27 gc = V 27 gc from ((ajV854 27 _ rfl).trans ((up2_o hV847 (by decide)).trans ((ajV831 27 _ rfl).trans ((ajV795 27 _ rfl).trans rfl))))) cs870 (show V854 33 gc = V 33 gc from ((ajV854 33 _ rfl).trans ((up2_o hV847 (by decide)).trans ((ajV831 33 _ rfl).trans ((ajV795 33 _ rfl).trans rfl))))) (fun f hf => ((show agr [(0, 7), (0, 8), (0, 48), (0, 50)] [32, 35, 36, 37, 38, 45, 46, 47] V V854 from (agr.tr (agr.up (agr.tr (agr.tr agr.rf ajV795 (by decide) (by decide)) ajV831 (by decide) (by decide)) hV847 rfl) ajV854 (by decide) (by decide))) 34 _ rfl))), ((((keepS.n1 1)).2.2.1 2 (by decide)).trans (((kp841).2.2.1 2 (by decide)).trans ((((show keepS (nx (sN gs 2 1) 1) 0 (sL (nx (sN gs 2 1) 1) (100 + 32 * ((gs.2.1 2).length - 1) + 30) (cl gs + 1)) from keepS.gl (by omega))).2.2.1 2 (by decide)).trans ((rfl : (nx (sN gs 2 1) 1).2.1 2 = (nx gs 1).2.1 2).trans ((((keepS.n1 1)).2.2.1 2 (by decide)).trans (rfl : gs.2.1 2 = gs.2.1 2)))))), ((congrArg (fun q9 => q9.1) ((keepS.n1 1)).2.2.2).trans ((congrArg (fun q9 => q9.1) (kp841).2.2.2).trans ((congrArg (fun q9 => q9.1) ((show keepS (nx (sN gs 2 1) 1) 0 (sL (nx (sN gs 2 1) 1) (100 + 32 * ((gs.2.1 2).length - 1) + 30) (cl gs + 1)) from keepS.gl (by omega))).2.2.2).trans ((rfl : (nx (sN gs 2 1) 1).2.2.1 = (nx gs 1).2.2.1).trans ((congrArg (fun q9 => q9.1) ((keepS.n1 1)).2.2.2).trans (rfl : gs.2.2.1 = gs.2.2.1)))))), cn872, ⟨cd874, re881, wm885⟩⟩), rw886, rw887, rw888, rw889⟩, by rw [ht]; exact hP, va_K.moved hW.alike hK, hD⟩, hS.F ht⟩) hS.2.2 dX12_member_193
              · skip
                have kd890 : gT.1 (sx838.1 0) ≠ 59 := fun h9 => h857 (h9.trans (by decide))
                have hb891 : ∀ k, Rc gT (Crun gs (Imember :: k)) (Cbad (V854 0 8).toInt) := fun k => Rc.go1 (hr844 k) ((tk_n kd890).trans (fl_eq rfl rl858))
                have r892 : 0 ≤ ((V854 0 8)).toInt ∧ ((V854 0 8)).toInt ≤ 70000 := hMV854 0 8
                have pq893 : (V854 0 48).toInt = ((V831 0 48)).toInt := congrArg Int32.toInt ((ajV854 0 48 rfl).trans (up2_o hV847 (by decide)))
                have rw894 : RoV 35 bq V V854 := (fun k hk => ((ajV854 35 k rfl).trans ((up2_o hV847 (by decide)).trans ((t827 k hk).trans ((ajV795 35 k rfl).trans rfl)))))
                have rw895 : RoV 37 bq V V854 := (fun k hk => ((ajV854 37 k rfl).trans ((up2_o hV847 (by decide)).trans ((t828 k hk).trans ((ajV795 37 k rfl).trans rfl)))))
                have rw896 : RoL 36 20 bq L L832 := (fun k hk => ((t829 k hk).trans rfl))
                have rw897 : RoL 38 20 bq L L832 := (fun k hk => ((t830 k hk).trans rfl))
                exact W.vret hx hb hr (fun t ht hW => ⟨⟨(V854, L832), rfl, ⟨hMV854, agV854, alL832, (Imp.mk (fun hp => have hp : (V854 0 8).toInt = 0 := hp; (show (V854 0 48).toInt ≤ 2 * (V854 0 7).toInt from by first | omega | ((try (have i_t822 := Imp.go t822 (by omega))); omega)))), (show (V854 0 48).toInt ≤ 8120 from by first | exact om_bb58a60fcee7 t823 pq893 | first | omega | ((try (have i_t822 := Imp.go t822 (by omega))); omega)), (Or.inr ⟨(show 1 ≤ (V854 0 8).toInt from by (first | exact om_f8d8213eda45 q856 | omega)), hb891⟩), rw894, rw895, rw896, rw897⟩, by rw [ht]; exact hP, va_K.moved hW.alike hK, hD⟩, hS.F ht⟩) hS.2.2 dX12_member_193
            · skip
              have hb898 : ∀ k, Rc gT (Crun gs (Imember :: k)) (Cbad (V831 0 8).toInt) := fun k => (hr802 k).tr (h839 (Itake 59 :: Imember :: k))
              refine va_iast (D := D) (i := p0) (x := z819) hx hb hK hP hD hS 25 24 rfl rfl (i_in (a := p0.toInt) rfl (by first | exact om_6e0fb57f3b24 pgc ic gcb r1.2 | first | omega | ((try (have i_t822 := Imp.go t822 (by omega))); omega))) dX12_member_64 (fun H locs hP hD hS => ?_)
              obtain ⟨V899, hV899⟩ : ∃ z, z = up2 V831 32 (Int32.toNatClampNeg p0) z819 := ⟨_, rfl⟩
              have hP : va_P D vwCl (mw ad kk ks.1 V899 L832) H := by rw [hV899]; exact hP
              have hD : va_D A (mw ad kk ks.1 V899 L832) := by rw [hV899]; exact hD
              have hMV899 : rgd bM V899 := hMV831.put hV899 (i_full _)
              have agV899 : agr [(0, 7), (0, 8), (0, 48), (0, 50)] [27, 28, 29, 30, 31, 32, 33, 34, 35, 36, 37, 38, 45, 46, 47] V V899 := agV831.up hV899 rfl
              refine lv_goto (tgt := 187) hx hb dX12_member_65 (by decide) ?_
              refine lv_aload_n hx hb dX12_member_187 rfl (lv_at hl 0 rfl) ?_
              refine lv_bipush (v := 59) hx hb dX12_member_188 (by decide) ?_
              have r900 : Int32.toInt 59 = 59 := by decide
              have pq901 : (V899 0 8).toInt = ((V831 0 8)).toInt := congrArg Int32.toInt (up2_o hV899 (by decide))
              refine gA_void (gA_runV (As := [.int 59]) (rest := []) (ci := 12) (q0 := 0) hx hb hml hown hg hP hD hK hS hA hnw hgk (s_takeSignB l D ks H.size ad kk V899 L832 59 hMV899 (show 1 ≤ (V899 0 8).toInt from by first | omega | ((try (have i_t822 := Imp.go t822 (by omega))); omega))) w2075 w2077 w96 w172 w2078 rfl rfl hdV_yX12_takeSign ⟨Nat.le_of_ble_eq_true rfl, Nat.le_of_ble_eq_true rfl⟩ rfl hl.1 rfl (Nat.le_of_ble_eq_true rfl) dX12_member_190 ⟨Nat.le_of_ble_eq_true rfl, Nat.le_of_ble_eq_true rfl⟩) hP hD hK hS hA (fun u903 H locs w904 hP hD hK hS => ?_)
              obtain ⟨V906, L907⟩ := u903
              obtain ⟨hMV906, ajV906, axL907, t905⟩ := w904
              have axL907 : L832 = L907 := Eq.symm axL907
              subst axL907
              replace hP : va_P D vwCl (mw ad kk ks.1 V906 L832) H := hP
              replace hD : va_D A (mw ad kk ks.1 V906 L832) := hD
              replace hMV906 : rgd bM V906 := hMV906
              replace ajV906 : agr [(0, 7), (0, 8)] [] V899 V906 := ajV906
              have agV906 : agr [(0, 7), (0, 8), (0, 48), (0, 50)] [27, 28, 29, 30, 31, 32, 33, 34, 35, 36, 37, 38, 45, 46, 47] V V906 := agV899.tr ajV906 (by decide) (by decide)
              replace t905 : (V906 0 8).toInt = (V899 0 8).toInt := t905
              have r908 : 0 ≤ ((V906 0 8)).toInt ∧ ((V906 0 8)).toInt ≤ 70000 := hMV906 0 8
              have pq909 : (V906 0 48).toInt = ((V831 0 48)).toInt := congrArg Int32.toInt ((ajV906 0 48 rfl).trans (up2_o hV899 (by decide)))
              have rw910 : RoV 35 bq V V906 := (fun k hk => ((ajV906 35 k rfl).trans ((up2_o hV899 (by decide)).trans ((t827 k hk).trans ((ajV795 35 k rfl).trans rfl)))))
              have rw911 : RoV 37 bq V V906 := (fun k hk => ((ajV906 37 k rfl).trans ((up2_o hV899 (by decide)).trans ((t828 k hk).trans ((ajV795 37 k rfl).trans rfl)))))
              have rw912 : RoL 36 20 bq L L832 := (fun k hk => ((t829 k hk).trans rfl))
              have rw913 : RoL 38 20 bq L L832 := (fun k hk => ((t830 k hk).trans rfl))
              exact W.vret hx hb hr (fun t ht hW => ⟨⟨(V906, L832), rfl, ⟨hMV906, agV906, alL832, (Imp.mk (fun hp => have hp : (V906 0 8).toInt = 0 := hp; (show (V906 0 48).toInt ≤ 2 * (V906 0 7).toInt from by first | omega | ((try (have i_t822 := Imp.go t822 (by omega))); omega)))), (show (V906 0 48).toInt ≤ 8120 from by first | exact om_bb58a60fcee7 t823 pq909 | first | omega | ((try (have i_t822 := Imp.go t822 (by omega))); omega)), (Or.inr ⟨(show 1 ≤ (V906 0 8).toInt from by omega), (fun k => by rw [show (V906 0 8).toInt = (V831 0 8).toInt from by omega]; exact hb898 k)⟩), rw910, rw911, rw912, rw913⟩, by rw [ht]; exact hP, va_K.moved hW.alike hK, hD⟩, hS.F ht⟩) hS.2.2 dX12_member_193
        · skip
          have kd914 : gT.1 (gs.1 0) ≠ 140 := fun h9 => h798 (h9.trans (by decide))
          have fz915 := RelM.rg rl799
          have pq916 : (V795 0 8).toInt = ((V 0 8)).toInt := congrArg Int32.toInt (ajV795 0 8 rfl)
          have r917 : 0 ≤ ((V 0 8)).toInt ∧ ((V 0 8)).toInt ≤ 70000 := hMV 0 8
          refine lv_if_eq (tgt := 68) hx hb dX12_member_52 (by decide) (fun c918 => ?_) (fun c918 => ?_)
          · skip
            have f919 : z791.toInt = 0 := b_eq rfl (by decide) c918
            refine lv_aload_n hx hb dX12_member_68 rfl (lv_at hl 0 rfl) ?_
            refine va_get (D := D) (ci := 12) (v := .ref (ad 33)) (C := RX12) (T := TX12) (N := 100) hx hb hg inX12 hown hK hP 0 rfl rfl 33 (by decide) (hg _ w1739) (fun _ h9 => h9) rfl dX12_member_69 ?_
            refine lv_iload_n hx hb dX12_member_72 rfl (lv_at hl 1 rfl) ?_
            refine va_iald (D := D) (i := p0) hx hb hK hP 26 25 rfl rfl (i_in (a := p0.toInt) rfl (by (first | exact om_f0baf2fc82c2 rg_p0.2 pgc gcb | omega))) dX12_member_73 ?_
            refine g_top (v := (V 33 (Int32.toNatClampNeg p0))) (ajV795 33 (Int32.toNatClampNeg p0) rfl) ?_
            refine lv_if_ge (tgt := 99) hx hb dX12_member_74 (by decide) (fun c920 => ?_) (fun c920 => ?_)
            · skip
              have f921 : 0 ≤ ((V 33 (Int32.toNatClampNeg p0))).toInt := b_le (by decide) rfl c920
              refine lv_aload_n hx hb dX12_member_99 rfl (lv_at hl 0 rfl) ?_
              refine lv_bipush (v := 14) hx hb dX12_member_100 (by decide) ?_
              have r922 : Int32.toInt 14 = 14 := by decide
              refine gA_int (gA_runV (As := [.int 14]) (rest := []) (ci := 12) (q0 := 0) hx hb hml hown hg hP hD hK hS hA hnw hgk (s_hasWordA l D ks H.size ad kk V795 L 14 (bq) (gn) (gT) (gs) (gl) hMV795 (by decide) rl799) w2051 w2053 w90 w172 w2054 rfl rfl hdV_yX12_hasWord ⟨Nat.le_of_ble_eq_true rfl, Nat.le_of_ble_eq_true rfl⟩ rfl hl.1 rfl (Nat.le_of_ble_eq_true rfl) dX12_member_102 ⟨Nat.le_of_ble_eq_true rfl, Nat.le_of_ble_eq_true rfl⟩) hP hD hK hS hA (fun z923 u924 H locs w925 hP hD hK hS => ?_)
              obtain ⟨V927, L928⟩ := u924
              obtain ⟨hMV927, ajV927, axL928, rgz923, t926⟩ := w925
              have axL928 : L = L928 := Eq.symm axL928
              subst axL928
              replace hP : va_P D vwCl (mw ad kk ks.1 V927 L) H := hP
              replace hD : va_D A (mw ad kk ks.1 V927 L) := hD
              replace hMV927 : rgd bM V927 := hMV927
              replace ajV927 : agr [(0, 7)] [] V795 V927 := ajV927
              have agV927 : agr [(0, 7), (0, 8), (0, 48), (0, 50)] [27, 28, 29, 30, 31, 32, 33, 34, 35, 36, 37, 38, 45, 46, 47] V V927 := agV795.tr ajV927 (by decide) (by decide)
              replace rgz923 : 0 ≤ z923.toInt ∧ z923.toInt ≤ 1 := rgz923
              replace t926 : (z923.toInt = 1 ∧ (gT).1 ((gs).1 0) = 128 + (Int32.toInt 14) ∧ RelM V927 L (bq) (gn) (gT) (nx (gs) 1) (gl)) ∨ (z923.toInt = 0 ∧ (gT).1 ((gs).1 0) ≠ 128 + (Int32.toInt 14) ∧ RelM V927 L (bq) (gn) (gT) (gs) (gl)) := t926
              rcases t926 with ⟨q929, h930, rl931⟩ | ⟨q929, h930, rl931⟩
              · skip
                have kd932 : gT.1 (gs.1 0) = 142 := h930.trans (by decide)
                have hr933 : ∀ k, Rc gT (Crun gs (Imember :: k)) (Crun gs (Imember :: k)) := fun k => Rc.rf
                have hr934 : ∀ k, Rc gT (Crun gs (Imember :: k)) (Crun (nx gs 1) (ImethN :: Iexpr 0 :: Iem 0 :: Itake 59 :: Imember :: k)) := fun k => Rc.go1 (hr933 k) (mb_142 kd932)
                have ps935 : (nx gs 1).1 0 = gs.1 0 + 1 := rfl
                have fz936 := RelM.rg rl931
                have pq937 : (V927 0 8).toInt = ((V 0 8)).toInt := congrArg Int32.toInt ((ajV927 0 8 rfl).trans (ajV795 0 8 rfl))
                refine lv_if_eq (tgt := 182) hx hb dX12_member_105 (by decide) (fun c938 => ?_) (fun c938 => ?_)
                · skip
                  have f939 : z923.toInt = 0 := b_eq rfl (by decide) c938
                  exfalso; (first | exact om_495ee03a60ae q929 f939 | omega)
                · skip
                  have f940 : z923.toInt ≠ 0 := b_neq rfl (by decide) c938
                  refine lv_aload_n hx hb dX12_member_108 rfl (lv_at hl 0 rfl) ?_
                  refine lv_aload_n hx hb dX12_member_109 rfl (lv_at hl 0 rfl) ?_
                  refine va_get (D := D) (ci := 12) (v := .ref (ad 36)) (C := RX12) (T := TX12) (N := 100) hx hb hg inX12 hown hK hP 0 rfl rfl 36 (by decide) (hg _ w1742) (fun _ h9 => h9) rfl dX12_member_110 ?_
                  refine lv_aload_n hx hb dX12_member_113 rfl (lv_at hl 0 rfl) ?_
                  refine va_get (D := D) (ci := 12) (v := .ref (ad 35)) (C := RX12) (T := TX12) (N := 100) hx hb hg inX12 hown hK hP 0 rfl rfl 35 (by decide) (hg _ w1741) (fun _ h9 => h9) rfl dX12_member_114 ?_
                  refine gA_int (gA_runV (As := [.ref (ad 36), .ref (ad 35)]) (rest := []) (ci := 12) (q0 := 0) hx hb hml hown hg hP hD hK hS hA hnw hgk (s_takeWordOf3 l D ks H.size ad kk V927 L (bq) (gn) (gT) ((nx gs 1)) (gl) hMV927 rl931) w2100 w2102 w102 w172 w2103 rfl rfl hdV_yX12_takeWordOf ⟨Nat.le_of_ble_eq_true rfl, Nat.le_of_ble_eq_true rfl⟩ rfl hl.1 rfl (Nat.le_of_ble_eq_true rfl) dX12_member_117 ⟨Nat.le_of_ble_eq_true rfl, Nat.le_of_ble_eq_true rfl⟩) hP hD hK hS hA (fun z941 u942 H locs w943 hP hD hK hS => ?_)
                  obtain ⟨V949, L950⟩ := u942
                  obtain ⟨hMV949, ajV949, axL950, rgz941, t944, t945, t946, t947, t948⟩ := w943
                  have alL950 : agL [27, 28, 29, 30, 31, 32, 33, 34, 35, 36, 37, 38, 45, 46, 47] L L950 := agL.tr alL axL950 (by decide)
                  replace hP : va_P D vwCl (mw ad kk ks.1 V949 L950) H := hP
                  replace hD : va_D A (mw ad kk ks.1 V949 L950) := hD
                  replace hMV949 : rgd bM V949 := hMV949
                  replace ajV949 : agr [(0, 7), (0, 8)] [35, 36, 37, 38] V927 V949 := ajV949
                  have agV949 : agr [(0, 7), (0, 8), (0, 48), (0, 50)] [27, 28, 29, 30, 31, 32, 33, 34, 35, 36, 37, 38, 45, 46, 47] V V949 := agV927.tr ajV949 (by decide) (by decide)
                  replace rgz941 : (-1) ≤ z941.toInt ∧ z941.toInt ≤ 19 := rgz941
                  replace t944 : KmS (mthW (gT) ((nx gs 1)) 3) (V949 0 8).toInt (fun x9 => RelM V949 L950 (bq) (gn) (gT) x9.2 (gl) ∧ z941.toInt = ((x9.1 : Nat) : Int) ∧ x9.1 < 20 ∧ keepS ((nx gs 1)) 1 x9.2 ∧ MTX (gT) ((nx gs 1)) 3 x9) := t944
                  replace t945 : RoV 35 (bq) V927 V949 := t945
                  replace t946 : RoV 37 (bq) V927 V949 := t946
                  replace t947 : RoL 36 20 (bq) L L950 := t947
                  replace t948 : RoL 38 20 (bq) L L950 := t948
                  rcases t944 with ⟨q951, mx952, h953, rl954, hf955, hb956, kp957, mt958⟩ | ⟨q951, h953⟩
                  · skip
                    have ps959 := kp957.1
                    have fz960 := RelM.rg rl954
                    have r961 : 0 ≤ ((V949 0 8)).toInt ∧ ((V949 0 8)).toInt ≤ 70000 := hMV949 0 8
                    refine lv_istore_n (lv' := [(2, .int z941), (0, .ref (ad 0)), (1, .int p0)]) hx hb dX12_member_120 rfl hl (by decide) rfl (fun ls hl => ?_)
                    refine lv_aload_n hx hb dX12_member_121 rfl (lv_at hl 1 rfl) ?_
                    refine va_get (D := D) (ci := 12) (v := .int (V949 0 8)) (C := RX12) (T := TX12) (N := 100) hx hb hg inX12 hown hK hP 0 rfl rfl 8 (by decide) (hg _ w1714) (fun _ h9 => h9) rfl dX12_member_122 ?_
                    refine lv_if_ne (tgt := 157) hx hb dX12_member_125 (by decide) (fun c962 => ?_) (fun c962 => ?_)
                    · skip
                      have f963 : ((V949 0 8)).toInt ≠ 0 := b_neq rfl (by decide) c962
                      exfalso; omega
                    · skip
                      have f964 : ((V949 0 8)).toInt = 0 := b_eq rfl (by decide) c962
                      refine lv_aload_n hx hb dX12_member_128 rfl (lv_at hl 1 rfl) ?_
                      refine va_get (D := D) (ci := 12) (v := .ref (ad 34)) (C := RX12) (T := TX12) (N := 100) hx hb hg inX12 hown hK hP 0 rfl rfl 34 (by decide) (hg _ w1740) (fun _ h9 => h9) rfl dX12_member_129 ?_
                      refine lv_bipush (v := 20) hx hb dX12_member_132 (by decide) ?_
                      refine lv_iload_n hx hb dX12_member_134 rfl (lv_at hl 2 rfl) ?_
                      refine lv_imul hx hb dX12_member_135 ?_
                      refine lv_topi (fun z965 ez965 => ?_)
                      have hz965 : z965.toInt = 20 * p0.toInt := i_mul ez965 (by decide) rfl (by (first | exact om_add9820b4ee0 rg_p0.2 pgc gcb | omega))
                      refine lv_iload_n hx hb dX12_member_136 rfl (lv_at hl 0 rfl) ?_
                      refine lv_iadd hx hb dX12_member_137 ?_
                      refine lv_topi (fun z966 ez966 => ?_)
                      have hz966 : z966.toInt = z965.toInt + z941.toInt := i_add ez966 rfl rfl (by (first | exact om_85e70de82a4a rg_p0.2 pgc gcb rgz941.1 rgz941.2 hz965 | omega))
                      refine va_iald (D := D) (i := z966) hx hb hK hP 27 26 rfl rfl (i_in (a := z966.toInt) rfl (by omega)) dX12_member_138 ?_
                      refine g_top (v := (V 34 (Int32.toNatClampNeg z966))) ((ajV949 34 (Int32.toNatClampNeg z966) rfl).trans ((ajV927 34 (Int32.toNatClampNeg z966) rfl).trans (ajV795 34 (Int32.toNatClampNeg z966) rfl))) ?_
                      have kc968 : Int32.toNatClampNeg z966 = 20 * gc + mx952.1 := by have h9 := i_clamp (x := z966) rfl (by omega); omega
                      have ma967 : (V 34 (Int32.toNatClampNeg z966)).toInt = (V 34 (20 * gc + mx952.1)).toInt := by rw [kc968]
                      have ow5 := ow.2.2.2.2.1 mx952.1 hb956
                      have oS : (nx gs 1).2.2.2 = gs.2.2.2 := congrArg (fun q9 => q9.2) ((keepS.tr (keepS.rf : keepS gs 0 gs) (keepS.n1 1))).2.2.2
                      have oL : (nx gs 1).2.1 3 = gs.2.1 3 := rfl
                      refine lv_if_lt (tgt := 157) hx hb dX12_member_139 (by decide) (fun c969 => ?_) (fun c969 => ?_)
                      · skip
                        have f970 : ((V 34 (Int32.toNatClampNeg z966))).toInt < 0 := b_lt rfl (by decide) c969
                        refine lv_aload_n hx hb dX12_member_157 rfl (lv_at hl 1 rfl) ?_
                        refine va_get (D := D) (ci := 12) (v := .int (V949 0 8)) (C := RX12) (T := TX12) (N := 100) hx hb hg inX12 hown hK hP 0 rfl rfl 8 (by decide) (hg _ w1714) (fun _ h9 => h9) rfl dX12_member_158 ?_
                        refine lv_if_ne (tgt := 179) hx hb dX12_member_161 (by decide) (fun c971 => ?_) (fun c971 => ?_)
                        · skip
                          have f972 : ((V949 0 8)).toInt ≠ 0 := b_neq rfl (by decide) c971
                          exfalso; (first | exact om_fb320d7600b7 r961.1 f964 f972 | omega)
                        · skip
                          have f973 : ((V949 0 8)).toInt = 0 := b_eq rfl (by decide) c971
                          have nt9 : mx952.1 ∉ (nx gs 1).2.2.2 := by rw [oS]; exact fun q9 => absurd (ow5.mpr q9) (by omega)
                          have hr974 : ∀ k, Rc gT (Crun gs (Imember :: k)) (Crun (sL (sT mx952.2 (mx952.1 :: (nx gs 1).2.2.2)) (100 + 32 * (((nx gs 1).2.1 2).length - 1) + mx952.1) (cl (nx gs 1) + 1)) (Iexpr 0 :: Iem 0 :: Itake 59 :: Imember :: k)) := fun k => Rc.go1 (hr934 k) (mn_y (MTX.new mt958 h953 nt9))
                          have ps975 : (sT mx952.2 (mx952.1 :: (nx gs 1).2.2.2)).1 0 = mx952.2.1 0 := rfl
                          have rl976 : RelM V949 L950 bq gn gT (sT mx952.2 (mx952.1 :: (nx gs 1).2.2.2)) gl := RelM.tl rl954
                          have rl977 : RelM V949 L950 bq gn gT (sL (sT mx952.2 (mx952.1 :: (nx gs 1).2.2.2)) (100 + 32 * (((nx gs 1).2.1 2).length - 1) + mx952.1) (cl (nx gs 1) + 1)) gl := RelM.gl rl976 (by omega)
                          have ps978 : (sL (sT mx952.2 (mx952.1 :: (nx gs 1).2.2.2)) (100 + 32 * (((nx gs 1).2.1 2).length - 1) + mx952.1) (cl (nx gs 1) + 1)).1 0 = (sT mx952.2 (mx952.1 :: (nx gs 1).2.2.2)).1 0 := rfl
                          refine lv_aload_n hx hb dX12_member_164 rfl (lv_at hl 1 rfl) ?_
                          refine va_get (D := D) (ci := 12) (v := .ref (ad 34)) (C := RX12) (T := TX12) (N := 100) hx hb hg inX12 hown hK hP 0 rfl rfl 34 (by decide) (hg _ w1740) (fun _ h9 => h9) rfl dX12_member_165 ?_
                          refine lv_bipush (v := 20) hx hb dX12_member_168 (by decide) ?_
                          refine lv_iload_n hx hb dX12_member_170 rfl (lv_at hl 2 rfl) ?_
                          refine lv_imul hx hb dX12_member_171 ?_
                          refine lv_topi (fun z979 ez979 => ?_)
                          have hz979 : z979.toInt = 20 * p0.toInt := i_mul ez979 (by decide) rfl (by (first | exact om_add9820b4ee0 rg_p0.2 pgc gcb | omega))
                          refine lv_iload_n hx hb dX12_member_172 rfl (lv_at hl 0 rfl) ?_
                          refine lv_iadd hx hb dX12_member_173 ?_
                          refine lv_topi (fun z980 ez980 => ?_)
                          have hz980 : z980.toInt = z979.toInt + z941.toInt := i_add ez980 rfl rfl (by (first | exact om_85e70de82a4a rg_p0.2 pgc gcb rgz941.1 rgz941.2 hz979 | omega))
                          refine lv_aload_n hx hb dX12_member_174 rfl (lv_at hl 1 rfl) ?_
                          have pq981 : (V949 0 48).toInt = ((V 0 48)).toInt := congrArg Int32.toInt ((ajV949 0 48 rfl).trans ((ajV927 0 48 rfl).trans (ajV795 0 48 rfl)))
                          have pq982 : (V949 0 51).toInt = ((V 0 51)).toInt := congrArg Int32.toInt ((ajV949 0 51 rfl).trans ((ajV927 0 51 rfl).trans (ajV795 0 51 rfl)))
                          have pq983 : (V949 0 52).toInt = ((V 0 52)).toInt := congrArg Int32.toInt ((ajV949 0 52 rfl).trans ((ajV927 0 52 rfl).trans (ajV795 0 52 rfl)))
                          have cd984 : CDm V949 (10000 * bq) gs := CDm.ag cem.1 (show agr [(0, 7), (0, 8)] [35, 36, 37, 38] V V949 from (agr.tr (agr.tr (agr.tr agr.rf ajV795 (by decide) (by decide)) ajV927 (by decide) (by decide)) ajV949 (by decide) (by decide))) ⟨rfl, rfl, fun _ => ⟨rfl, rfl, rfl⟩⟩
                          have cd985 : CDm V949 (10000 * bq) (sL (sT mx952.2 (mx952.1 :: (nx gs 1).2.2.2)) (100 + 32 * (((nx gs 1).2.1 2).length - 1) + mx952.1) (cl (nx gs 1) + 1)) := CDm.mv cd984 (fun j9 h9 => ((show ∀ j9, j9 = 5 ∨ 2000 ≤ j9 → (sL (sT mx952.2 (mx952.1 :: (nx gs 1).2.2.2)) (100 + 32 * (((nx gs 1).2.1 2).length - 1) + mx952.1) (cl (nx gs 1) + 1)).2.1 j9 = (sT mx952.2 (mx952.1 :: (nx gs 1).2.2.2)).2.1 j9 from fun j9 h9 => sL_o _ _ (by have h9 := cem.2.1.1; have h8 : (nx gs 1).2.1 2 = gs.2.1 2 := rfl; rw [h8]; omega)) j9 h9).trans ((fun j9 h9 => ((show ∀ j9, j9 = 5 ∨ 2000 ≤ j9 → (sT mx952.2 (mx952.1 :: (nx gs 1).2.2.2)).2.1 j9 = mx952.2.2.1 j9 from fun j9 h9 => (show ∀ j9, 5 ≤ j9 → (sT mx952.2 (mx952.1 :: (nx gs 1).2.2.2)).2.1 j9 = mx952.2.2.1 j9 from fun _ _ => rfl) j9 (by omega)) j9 h9).trans ((fun j9 h9 => ((show ∀ j9, j9 = 5 ∨ 2000 ≤ j9 → mx952.2.2.1 j9 = (nx gs 1).2.1 j9 from fun j9 h9 => (show ∀ j9, 5 ≤ j9 → mx952.2.2.1 j9 = (nx gs 1).2.1 j9 from (mth_e (j0 := 3) (by decide) h953)) j9 (by omega)) j9 h9).trans ((show ∀ j9, j9 = 5 ∨ 2000 ≤ j9 → (nx gs 1).2.1 j9 = gs.2.1 j9 from fun j9 h9 => (show ∀ j9, 5 ≤ j9 → (nx gs 1).2.1 j9 = gs.2.1 j9 from fun _ _ => rfl) j9 (by omega)) j9 h9)) j9 h9)) j9 h9))
                          refine gA_int (gA_runV (As := []) (rest := [.int z980, .ref (ad 34)]) (ci := 12) (q0 := 0) hx hb hml hown hg hP hD hK hS hA hnw hgk (s_codeA l D ks H.size ad kk V949 L950 (bq) (gn) (gT) ((sL (sT mx952.2 (mx952.1 :: (nx gs 1).2.2.2)) (100 + 32 * (((nx gs 1).2.1 2).length - 1) + mx952.1) (cl (nx gs 1) + 1))) (gl) hMV949 rl977 (show (V949 0 48).toInt ≤ 2 * (V949 0 7).toInt from by omega) (EM.o2 (o := gc) (show (V949 27 gc).toInt = ((mx952.2.1 1 : Nat) : Int) from by rw [(by rw [(funext (fun q => ajV949 27 q rfl) : V949 27 = V927 27), (funext (fun q => ajV927 27 q rfl) : V927 27 = V795 27), (funext (fun q => ajV795 27 q rfl) : V795 27 = V 27)] : V949 27 = V 27)]; exact (by rw [((keepS.tr (keepS.tr (keepS.rf : keepS gs 0 gs) (keepS.n1 1)) kp957)).2.1 1 (by decide)]; exact ow.1)) (show mx952.2.1 4 = 0 from (by rw [((keepS.tr (keepS.tr (keepS.rf : keepS gs 0 gs) (keepS.n1 1)) kp957)).2.1 4 (by decide)]; exact ow.2.2.2.1)) (by omega) (by omega)) cd985) w2112 w2114 w105 w172 w2115 rfl rfl hdV_yX12_code ⟨Nat.le_of_ble_eq_true rfl, Nat.le_of_ble_eq_true rfl⟩ rfl hl.1 rfl (Nat.le_of_ble_eq_true rfl) dX12_member_175 ⟨Nat.le_of_ble_eq_true rfl, Nat.le_of_ble_eq_true rfl⟩) hP hD hK hS hA (fun z986 u987 H locs w988 hP hD hK hS => ?_)
                          obtain ⟨V998, L999⟩ := u987
                          obtain ⟨hMV998, ajV998, axL999, rgz986, t989, t990, t991, t992, t993, t994, t995, t996, t997⟩ := w988
                          have alL999 : agL [27, 28, 29, 30, 31, 32, 33, 34, 35, 36, 37, 38, 45, 46, 47] L L999 := agL.tr alL950 axL999 (by decide)
                          replace hP : va_P D vwCl (mw ad kk ks.1 V998 L999) H := hP
                          replace hD : va_D A (mw ad kk ks.1 V998 L999) := hD
                          replace hMV998 : rgd bM V998 := hMV998
                          replace ajV998 : agr [(0, 7), (0, 8), (0, 48), (0, 50)] [35, 36, 37, 38, 45, 46, 47] V949 V998 := ajV998
                          have agV998 : agr [(0, 7), (0, 8), (0, 48), (0, 50)] [27, 28, 29, 30, 31, 32, 33, 34, 35, 36, 37, 38, 45, 46, 47] V V998 := agV949.tr ajV998 (by decide) (by decide)
                          replace rgz986 : 0 ≤ z986.toInt ∧ z986.toInt ≤ 20000 := rgz986
                          replace t989 : Imp ((V998 0 8).toInt = 0) ((V998 0 48).toInt - (V949 0 48).toInt ≤ 2 * ((V998 0 7).toInt - (V949 0 7).toInt) + 1) := t989
                          replace t990 : (V998 0 48).toInt ≤ 8060 := t990
                          replace t991 : (V949 0 48).toInt ≤ (V998 0 48).toInt := t991
                          replace t992 : z986.toInt = (V949 0 49).toInt + (V949 0 48).toInt := t992
                          replace t993 : RdM (gT) ((sL (sT mx952.2 (mx952.1 :: (nx gs 1).2.2.2)) (100 + 32 * (((nx gs 1).2.1 2).length - 1) + mx952.1) (cl (nx gs 1) + 1))) (fun k => Iexpr 0 :: Iem 0 :: k) (fun k => k) (V998 0 8).toInt (fun s9 => RelM V998 L999 (bq) (gn) (gT) s9 (gl) ∧ keepS ((sL (sT mx952.2 (mx952.1 :: (nx gs 1).2.2.2)) (100 + 32 * (((nx gs 1).2.1 2).length - 1) + mx952.1) (cl (nx gs 1) + 1))) 1 s9 ∧ keepE ((sL (sT mx952.2 (mx952.1 :: (nx gs 1).2.2.2)) (100 + 32 * (((nx gs 1).2.1 2).length - 1) + mx952.1) (cl (nx gs 1) + 1))) s9 ∧ CDm V998 (10000 * (bq)) s9) := t993
                          replace t994 : RoV 35 (bq) V949 V998 := t994
                          replace t995 : RoV 37 (bq) V949 V998 := t995
                          replace t996 : RoL 36 20 (bq) L950 L999 := t996
                          replace t997 : RoL 38 20 (bq) L950 L999 := t997
                          have r1000 : 0 ≤ ((V998 0 48)).toInt ∧ ((V998 0 48)).toInt ≤ 10000 := hMV998 0 48
                          have r1001 : 0 ≤ ((V998 0 8)).toInt ∧ ((V998 0 8)).toInt ≤ 70000 := hMV998 0 8
                          have pq1002 : (V949 0 49).toInt = ((V 0 49)).toInt := congrArg Int32.toInt ((ajV949 0 49 rfl).trans ((ajV927 0 49 rfl).trans (ajV795 0 49 rfl)))
                          have r1003 : 0 ≤ ((V 0 49)).toInt ∧ ((V 0 49)).toInt ≤ 10000 := hMV 0 49
                          rcases t993 with ⟨q1004, sx1005, h1006, rl1007, kp1008, ke1009, cd1010⟩ | ⟨q1004, h1006⟩
                          · skip
                            have hr1011 : ∀ k, Rc gT (Crun gs (Imember :: k)) (Crun sx1005 (Itake 59 :: Imember :: k)) := fun k => (hr974 k).tr (h1006 (Itake 59 :: Imember :: k))
                            have fz1012 := RelM.rg rl1007
                            have ps1013 := (kp1008).1
                            refine va_iast (D := D) (i := z980) (x := z986) hx hb hK hP hD hS 27 26 rfl rfl (i_in (a := z980.toInt) rfl (by first | omega | ((try (have i_t989 := Imp.go t989 (by omega))); omega))) dX12_member_178 (fun H locs hP hD hS => ?_)
                            obtain ⟨V1014, hV1014⟩ : ∃ z, z = up2 V998 34 (Int32.toNatClampNeg z980) z986 := ⟨_, rfl⟩
                            have hP : va_P D vwCl (mw ad kk ks.1 V1014 L999) H := by rw [hV1014]; exact hP
                            have hD : va_D A (mw ad kk ks.1 V1014 L999) := by rw [hV1014]; exact hD
                            have hMV1014 : rgd bM V1014 := hMV998.put hV1014 (i_full _)
                            have agV1014 : agr [(0, 7), (0, 8), (0, 48), (0, 50)] [27, 28, 29, 30, 31, 32, 33, 34, 35, 36, 37, 38, 45, 46, 47] V V1014 := agV998.up hV1014 rfl
                            refine lv_goto (tgt := 187) hx hb dX12_member_179 (by decide) ?_
                            refine lv_aload_n hx hb dX12_member_187 rfl (lv_at hl 1 rfl) ?_
                            refine lv_bipush (v := 59) hx hb dX12_member_188 (by decide) ?_
                            have rl1015 : RelM V1014 L999 bq gn gT sx1005 gl := RelM.ag rl1007 (show agr [] [34] V998 V1014 from (agr.up agr.rf hV1014 rfl)) (by decide) (show agL [] L999 L999 from agL.rf) (by decide)
                            have r1016 : Int32.toInt 59 = 59 := by decide
                            refine gA_void (gA_runV (As := [.int 59]) (rest := []) (ci := 12) (q0 := 0) hx hb hml hown hg hP hD hK hS hA hnw hgk (s_takeSignA l D ks H.size ad kk V1014 L999 59 (bq) (gn) (gT) (sx1005) (gl) hMV1014 rl1015 (sg_yes (j := 59) (by decide) (by decide) (by decide))) w2075 w2077 w96 w172 w2078 rfl rfl hdV_yX12_takeSign ⟨Nat.le_of_ble_eq_true rfl, Nat.le_of_ble_eq_true rfl⟩ rfl hl.1 rfl (Nat.le_of_ble_eq_true rfl) dX12_member_190 ⟨Nat.le_of_ble_eq_true rfl, Nat.le_of_ble_eq_true rfl⟩) hP hD hK hS hA (fun u1018 H locs w1019 hP hD hK hS => ?_)
                            obtain ⟨V1021, L1022⟩ := u1018
                            obtain ⟨hMV1021, ajV1021, axL1022, t1020⟩ := w1019
                            have axL1022 : L999 = L1022 := Eq.symm axL1022
                            subst axL1022
                            replace hP : va_P D vwCl (mw ad kk ks.1 V1021 L999) H := hP
                            replace hD : va_D A (mw ad kk ks.1 V1021 L999) := hD
                            replace hMV1021 : rgd bM V1021 := hMV1021
                            replace ajV1021 : agr [(0, 7), (0, 8)] [] V1014 V1021 := ajV1021
                            have agV1021 : agr [(0, 7), (0, 8), (0, 48), (0, 50)] [27, 28, 29, 30, 31, 32, 33, 34, 35, 36, 37, 38, 45, 46, 47] V V1021 := agV1014.tr ajV1021 (by decide) (by decide)
                            replace t1020 : ((V1021 0 8).toInt = 0 ∧ (gT).1 ((sx1005).1 0) = (Int32.toInt 59) ∧ RelM V1021 L999 (bq) (gn) (gT) (nx (sx1005) 1) (gl)) ∨ (1 ≤ (V1021 0 8).toInt ∧ (gT).1 ((sx1005).1 0) ≠ (Int32.toInt 59) ∧ (V1021 0 8).toInt = 1 + 16 * (gT).2.2 ((sx1005).1 0)) := t1020
                            rcases t1020 with ⟨q1023, h1024, rl1025⟩ | ⟨q1023, h1024, rl1025⟩
                            · skip
                              have kd1026 : gT.1 (sx1005.1 0) = 59 := h1024.trans (by decide)
                              have hr1027 : ∀ k, Rc gT (Crun gs (Imember :: k)) (Crun (nx sx1005 1) (Imember :: k)) := fun k => Rc.go1 (hr1011 k) (tk_y kd1026)
                              have ps1028 : (nx sx1005 1).1 0 = sx1005.1 0 + 1 := rfl
                              have fz1029 := RelM.rg rl1025
                              have r1030 : 0 ≤ ((V1021 0 8)).toInt ∧ ((V1021 0 8)).toInt ≤ 70000 := hMV1021 0 8
                              have pq1031 : (V1021 0 48).toInt = ((V998 0 48)).toInt := congrArg Int32.toInt ((ajV1021 0 48 rfl).trans (up2_o hV1014 (by decide)))
                              have ps1032 : gs.1 0 + 1 ≤ (nx gs 1).1 0 := ((keepS.n1 1)).1
                              have ps1033 : (nx gs 1).1 0 + 1 ≤ mx952.2.1 0 := (kp957).1
                              have ps1034 : (sT mx952.2 (mx952.1 :: (nx gs 1).2.2.2)).1 0 = mx952.2.1 0 := rfl
                              have ps1035 : (sT mx952.2 (mx952.1 :: (nx gs 1).2.2.2)).1 0 + 0 ≤ (sL (sT mx952.2 (mx952.1 :: (nx gs 1).2.2.2)) (100 + 32 * (((nx gs 1).2.1 2).length - 1) + mx952.1) (cl (nx gs 1) + 1)).1 0 := ((show keepS (sT mx952.2 (mx952.1 :: (nx gs 1).2.2.2)) 0 (sL (sT mx952.2 (mx952.1 :: (nx gs 1).2.2.2)) (100 + 32 * (((nx gs 1).2.1 2).length - 1) + mx952.1) (cl (nx gs 1) + 1)) from keepS.gl (by omega))).1
                              have ps1036 : (sL (sT mx952.2 (mx952.1 :: (nx gs 1).2.2.2)) (100 + 32 * (((nx gs 1).2.1 2).length - 1) + mx952.1) (cl (nx gs 1) + 1)).1 0 + 1 ≤ sx1005.1 0 := (kp1008).1
                              have ps1037 : sx1005.1 0 + 1 ≤ (nx sx1005 1).1 0 := ((keepS.n1 1)).1
                              have k34 : (Int32.toNatClampNeg z980) = 20 * gc + mx952.1 := by have h9 := i_clamp (x := z980) rfl (by omega); omega
                              have cs1038 : 0 ≤ (V1021 34 (20 * gc + mx952.1)).toInt := by have h9 : V1021 34 (Int32.toNatClampNeg z980) = z986 := ((ajV1021 34 (Int32.toNatClampNeg z980) rfl).trans (up2_s hV1014)); rw [k34] at h9; rw [h9]; omega
                              have cn1039 : CNm V1021 bq gs := CNm.ag cnm (show agr [(0, 7), (0, 8), (0, 48), (0, 50)] [34, 35, 36, 37, 38, 45, 46, 47] V V1021 from (agr.tr (agr.up (agr.tr (agr.tr (agr.tr (agr.tr agr.rf ajV795 (by decide) (by decide)) ajV927 (by decide) (by decide)) ajV949 (by decide) (by decide)) ajV998 (by decide) (by decide)) hV1014 rfl) ajV1021 (by decide) (by decide))) (by decide) keepC.rf
                              have cn1040 : CNm V1021 bq (nx sx1005 1) := CNm.mv cn1039 (fun _ _ _ => rfl) (keepC.tr (keepC.tr (keepC.tr (keepC.tr (keepC.tr (keepC.tr (keepC.rf : keepC gs gs) (keepS.c (keepS.n1 1))) (keepS.c kp957)) (keepC.st : keepC mx952.2 (sT mx952.2 (mx952.1 :: (nx gs 1).2.2.2)))) (keepS.c (show keepS (sT mx952.2 (mx952.1 :: (nx gs 1).2.2.2)) 0 (sL (sT mx952.2 (mx952.1 :: (nx gs 1).2.2.2)) (100 + 32 * (((nx gs 1).2.1 2).length - 1) + mx952.1) (cl (nx gs 1) + 1)) from keepS.gl (by omega)))) (keepS.c kp1008)) (keepS.c (keepS.n1 1)))
                              have cd1041 : CDm V1021 (10000 * bq) sx1005 := CDm.ag cd1010 (show agr [(0, 7), (0, 8)] [34] V998 V1021 from (agr.tr (agr.up agr.rf hV1014 rfl) ajV1021 (by decide) (by decide))) ⟨rfl, rfl, fun _ => ⟨rfl, rfl, rfl⟩⟩
                              have cd1042 : CDm V1021 (10000 * bq) (nx sx1005 1) := CDm.mv cd1041 (show ∀ j9, j9 = 5 ∨ 2000 ≤ j9 → (nx sx1005 1).2.1 j9 = sx1005.2.1 j9 from fun j9 h9 => (show ∀ j9, 5 ≤ j9 → (nx sx1005 1).2.1 j9 = sx1005.2.1 j9 from fun _ _ => rfl) j9 (by omega))
                              have re1043 : REm V998 bq gs := REm.ag cem.2.1 (show agr [(0, 7), (0, 8), (0, 48), (0, 50)] [35, 36, 37, 38, 45, 46, 47] V V998 from (agr.tr (agr.tr (agr.tr (agr.tr agr.rf ajV795 (by decide) (by decide)) ajV927 (by decide) (by decide)) ajV949 (by decide) (by decide)) ajV998 (by decide) (by decide))) (fun _ => ⟨rfl, rfl, rfl⟩) keepE.rf rfl
                              have hu1044 := hV1014
                              have ce1045 := cem.1.1
                              have ce1046 := cem.1.2.1
                              rw [show (Int32.toNatClampNeg z980) = 20 * gc + mx952.1 from by have h9 := i_clamp (x := z980) rfl (by omega); omega] at hu1044
                              have re1048 : REm V998 bq (nx gs 1) := REm.mv re1043 (fun _ _ _ _ => rfl) (keepE.tr (keepE.rf : keepE gs gs) (show keepE gs (nx gs 1) from keepE.eq (show ∀ j9, 5 ≤ j9 → (nx gs 1).2.1 j9 = gs.2.1 j9 from fun _ _ => rfl))) (((show keepS gs 1 (nx gs 1) from (keepS.n1 1)).2.2.1 2 (by decide)).trans (rfl : gs.2.1 2 = gs.2.1 2))
                              have re1047 : REm V1014 bq (sL (sT mx952.2 (mx952.1 :: (nx gs 1).2.2.2)) (100 + 32 * (((nx gs 1).2.1 2).length - 1) + mx952.1) (cl (nx gs 1) + 1)) := REm.st re1048 (Or.inl hb956) (show gc + 1 = 24 * bq + ((nx gs 1).2.1 2).length from gcl) gcb (cM_m hb956 hu1044) (show z986.toInt = ((10000 * bq : Nat) : Int) + ((cl (nx gs 1) : Nat) : Int) from by have h8 : cl (nx gs 1) = cl gs := rfl; omega) (fun j9 h9 => (mth_e (j0 := 3) (by decide) h953) j9 h9) ((kp957).2.2.1 2 (by decide))
                              have re1049 : REm V1021 bq (sL (sT mx952.2 (mx952.1 :: (nx gs 1).2.2.2)) (100 + 32 * (((nx gs 1).2.1 2).length - 1) + mx952.1) (cl (nx gs 1) + 1)) := REm.ag re1047 (show agr [(0, 7), (0, 8)] [] V1014 V1021 from (agr.tr agr.rf ajV1021 (by decide) (by decide))) (fun _ => ⟨rfl, rfl, rfl⟩) keepE.rf rfl
                              have re1050 : REm V1021 bq (nx sx1005 1) := REm.mv re1049 (fun _ _ _ _ => rfl) (keepE.tr (keepE.tr (keepE.rf : keepE (sL (sT mx952.2 (mx952.1 :: (nx gs 1).2.2.2)) (100 + 32 * (((nx gs 1).2.1 2).length - 1) + mx952.1) (cl (nx gs 1) + 1)) (sL (sT mx952.2 (mx952.1 :: (nx gs 1).2.2.2)) (100 + 32 * (((nx gs 1).2.1 2).length - 1) + mx952.1) (cl (nx gs 1) + 1))) ke1009) (show keepE sx1005 (nx sx1005 1) from keepE.eq (show ∀ j9, 5 ≤ j9 → (nx sx1005 1).2.1 j9 = sx1005.2.1 j9 from fun _ _ => rfl))) (((show keepS sx1005 1 (nx sx1005 1) from (keepS.n1 1)).2.2.1 2 (by decide)).trans (((show keepS (sL (sT mx952.2 (mx952.1 :: (nx gs 1).2.2.2)) (100 + 32 * (((nx gs 1).2.1 2).length - 1) + mx952.1) (cl (nx gs 1) + 1)) 1 sx1005 from kp1008).2.2.1 2 (by decide)).trans (rfl : (sL (sT mx952.2 (mx952.1 :: (nx gs 1).2.2.2)) (100 + 32 * (((nx gs 1).2.1 2).length - 1) + mx952.1) (cl (nx gs 1) + 1)).2.1 2 = (sL (sT mx952.2 (mx952.1 :: (nx gs 1).2.2.2)) (100 + 32 * (((nx gs 1).2.1 2).length - 1) + mx952.1) (cl (nx gs 1) + 1)).2.1 2)))
                              have wm1051 : WMm V1021 bq gs := WMm.ag cem.2.2 (show agr [(0, 7), (0, 8), (0, 48), (0, 50)] [34, 35, 36, 37, 38, 45, 46, 47] V V1021 from (agr.tr (agr.up (agr.tr (agr.tr (agr.tr (agr.tr agr.rf ajV795 (by decide) (by decide)) ajV927 (by decide) (by decide)) ajV949 (by decide) (by decide)) ajV998 (by decide) (by decide)) hV1014 rfl) ajV1021 (by decide) (by decide))) (fun _ => ⟨rfl, rfl, rfl, rfl, rfl⟩) (fun _ _ _ => rfl) rfl
                              have wm1052 : WMm V1021 bq (sT mx952.2 (mx952.1 :: (nx gs 1).2.2.2)) := WMm.mv wm1051 (fun _ _ _ _ _ => rfl) ((keepE.tr (keepE.tr (keepE.tr (keepE.rf : keepE gs gs) (show keepE gs (nx gs 1) from keepE.eq (show ∀ j9, 5 ≤ j9 → (nx gs 1).2.1 j9 = gs.2.1 j9 from fun _ _ => rfl))) (show keepE (nx gs 1) mx952.2 from keepE.eq (show ∀ j9, 5 ≤ j9 → mx952.2.2.1 j9 = (nx gs 1).2.1 j9 from (mth_e (j0 := 3) (by decide) h953)))) (show keepE mx952.2 (sT mx952.2 (mx952.1 :: (nx gs 1).2.2.2)) from keepE.eq (show ∀ j9, 5 ≤ j9 → (sT mx952.2 (mx952.1 :: (nx gs 1).2.2.2)).2.1 j9 = mx952.2.2.1 j9 from fun _ _ => rfl)))).k9 ((rfl : (sT mx952.2 (mx952.1 :: (nx gs 1).2.2.2)).2.2.1 = mx952.2.2.2.1).trans ((congrArg (fun q9 : List (Nat × Bool) × List Nat => q9.1) (show keepS (nx gs 1) 1 mx952.2 from kp957).2.2.2).trans ((congrArg (fun q9 : List (Nat × Bool) × List Nat => q9.1) (show keepS gs 1 (nx gs 1) from (keepS.n1 1)).2.2.2).trans (rfl : gs.2.2.1 = gs.2.2.1))))
                              have wm1053 : WMm V1021 bq (sL (sT mx952.2 (mx952.1 :: (nx gs 1).2.2.2)) (100 + 32 * (((nx gs 1).2.1 2).length - 1) + mx952.1) (cl (nx gs 1) + 1)) := WMm.mv wm1052 (fun _ _ _ _ _ => rfl) (sL_k9 (by have h9 := cem.2.1.1; have h8 : (nx gs 1).2.1 2 = gs.2.1 2 := rfl; rw [h8]; omega)) rfl
                              have wm1054 : WMm V1021 bq (nx sx1005 1) := WMm.mv wm1053 (fun _ _ _ _ _ => rfl) ((keepE.tr (keepE.tr (keepE.rf : keepE (sL (sT mx952.2 (mx952.1 :: (nx gs 1).2.2.2)) (100 + 32 * (((nx gs 1).2.1 2).length - 1) + mx952.1) (cl (nx gs 1) + 1)) (sL (sT mx952.2 (mx952.1 :: (nx gs 1).2.2.2)) (100 + 32 * (((nx gs 1).2.1 2).length - 1) + mx952.1) (cl (nx gs 1) + 1))) ke1009) (show keepE sx1005 (nx sx1005 1) from keepE.eq (show ∀ j9, 5 ≤ j9 → (nx sx1005 1).2.1 j9 = sx1005.2.1 j9 from fun _ _ => rfl)))).k9 ((congrArg (fun q9 : List (Nat × Bool) × List Nat => q9.1) (show keepS sx1005 1 (nx sx1005 1) from (keepS.n1 1)).2.2.2).trans ((congrArg (fun q9 : List (Nat × Bool) × List Nat => q9.1) (show keepS (sL (sT mx952.2 (mx952.1 :: (nx gs 1).2.2.2)) (100 + 32 * (((nx gs 1).2.1 2).length - 1) + mx952.1) (cl (nx gs 1) + 1)) 1 sx1005 from kp1008).2.2.2).trans (rfl : (sL (sT mx952.2 (mx952.1 :: (nx gs 1).2.2.2)) (100 + 32 * (((nx gs 1).2.1 2).length - 1) + mx952.1) (cl (nx gs 1) + 1)).2.2.1 = (sL (sT mx952.2 (mx952.1 :: (nx gs 1).2.2.2)) (100 + 32 * (((nx gs 1).2.1 2).length - 1) + mx952.1) (cl (nx gs 1) + 1)).2.2.1)))
                              have rw1055 : RoV 35 bq V V1021 := (fun k hk => ((ajV1021 35 k rfl).trans ((up2_o hV1014 (by decide)).trans ((t994 k hk).trans ((t945 k hk).trans ((ajV927 35 k rfl).trans ((ajV795 35 k rfl).trans rfl)))))))
                              have rw1056 : RoV 37 bq V V1021 := (fun k hk => ((ajV1021 37 k rfl).trans ((up2_o hV1014 (by decide)).trans ((t995 k hk).trans ((t946 k hk).trans ((ajV927 37 k rfl).trans ((ajV795 37 k rfl).trans rfl)))))))
                              have rw1057 : RoL 36 20 bq L L999 := (fun k hk => ((t996 k hk).trans ((t947 k hk).trans rfl)))
                              have rw1058 : RoL 38 20 bq L L999 := (fun k hk => ((t997 k hk).trans ((t948 k hk).trans rfl)))
                              exact W.vret hx hb hr (fun t ht hW => ⟨⟨(V1021, L999), rfl, ⟨hMV1021, agV1021, alL999, (Imp.mk (fun hp => have hp : (V1021 0 8).toInt = 0 := hp; (show (V1021 0 48).toInt ≤ 2 * (V1021 0 7).toInt from by first | omega | ((try (have i_t989 := Imp.go t989 (by omega))); omega)))), (show (V1021 0 48).toInt ≤ 8120 from by first | exact om_bb58a60fcee7 t990 pq1031 | first | omega | ((try (have i_t989 := Imp.go t989 (by omega))); omega)), (Or.inl ⟨W0 rl1025, (nx sx1005 1), hr1027, rl1025, (by omega), (OWm.mt (m := 1) ow (keepS.le (keepS.tr (keepS.rf : keepS gs 0 gs) (keepS.n1 1)) (by decide)) (Nat.le_refl _) kp957 (MTX.le mt958).1 (MTX.le mt958).2 (keepS.le (keepS.tr (keepS.tr (keepS.tr (keepS.rf : keepS (sT mx952.2 (mx952.1 :: (nx gs 1).2.2.2)) 0 (sT mx952.2 (mx952.1 :: (nx gs 1).2.2.2))) (show keepS (sT mx952.2 (mx952.1 :: (nx gs 1).2.2.2)) 0 (sL (sT mx952.2 (mx952.1 :: (nx gs 1).2.2.2)) (100 + 32 * (((nx gs 1).2.1 2).length - 1) + mx952.1) (cl (nx gs 1) + 1)) from keepS.gl (by omega))) kp1008) (keepS.n1 1)) (by decide)) (show (mx952.2.2.1 3).length ≤ ((nx sx1005 1).2.1 3).length from by have h9 := Rc.ml (h1006 []); rw [sL_3] at h9; (exact h9); omega) (show V1021 27 gc = V 27 gc from ((ajV1021 27 _ rfl).trans ((up2_o hV1014 (by decide)).trans ((ajV998 27 _ rfl).trans ((ajV949 27 _ rfl).trans ((ajV927 27 _ rfl).trans ((ajV795 27 _ rfl).trans rfl))))))) (show V1021 32 gc = V 32 gc from ((ajV1021 32 _ rfl).trans ((up2_o hV1014 (by decide)).trans ((ajV998 32 _ rfl).trans ((ajV949 32 _ rfl).trans ((ajV927 32 _ rfl).trans ((ajV795 32 _ rfl).trans rfl))))))) (show V1021 33 gc = V 33 gc from ((ajV1021 33 _ rfl).trans ((up2_o hV1014 (by decide)).trans ((ajV998 33 _ rfl).trans ((ajV949 33 _ rfl).trans ((ajV927 33 _ rfl).trans ((ajV795 33 _ rfl).trans rfl))))))) cs1038 (fun f hf hne => ((ajV1021 34 _ rfl).trans ((up2_k hV1014 (by omega)).trans ((ajV998 34 _ rfl).trans ((ajV949 34 _ rfl).trans ((ajV927 34 _ rfl).trans ((ajV795 34 _ rfl).trans rfl)))))))), ((((keepS.n1 1)).2.2.1 2 (by decide)).trans (((kp1008).2.2.1 2 (by decide)).trans ((((show keepS (sT mx952.2 (mx952.1 :: (nx gs 1).2.2.2)) 0 (sL (sT mx952.2 (mx952.1 :: (nx gs 1).2.2.2)) (100 + 32 * (((nx gs 1).2.1 2).length - 1) + mx952.1) (cl (nx gs 1) + 1)) from keepS.gl (by omega))).2.2.1 2 (by decide)).trans ((rfl : (sT mx952.2 (mx952.1 :: (nx gs 1).2.2.2)).2.1 2 = mx952.2.2.1 2).trans (((kp957).2.2.1 2 (by decide)).trans ((((keepS.n1 1)).2.2.1 2 (by decide)).trans (rfl : gs.2.1 2 = gs.2.1 2))))))), ((congrArg (fun q9 => q9.1) ((keepS.n1 1)).2.2.2).trans ((congrArg (fun q9 => q9.1) (kp1008).2.2.2).trans ((congrArg (fun q9 => q9.1) ((show keepS (sT mx952.2 (mx952.1 :: (nx gs 1).2.2.2)) 0 (sL (sT mx952.2 (mx952.1 :: (nx gs 1).2.2.2)) (100 + 32 * (((nx gs 1).2.1 2).length - 1) + mx952.1) (cl (nx gs 1) + 1)) from keepS.gl (by omega))).2.2.2).trans ((rfl : (sT mx952.2 (mx952.1 :: (nx gs 1).2.2.2)).2.2.1 = mx952.2.2.2.1).trans ((congrArg (fun q9 => q9.1) (kp957).2.2.2).trans ((congrArg (fun q9 => q9.1) ((keepS.n1 1)).2.2.2).trans (rfl : gs.2.2.1 = gs.2.2.1))))))), cn1040, ⟨cd1042, re1050, wm1054⟩⟩), rw1055, rw1056, rw1057, rw1058⟩, by rw [ht]; exact hP, va_K.moved hW.alike hK, hD⟩, hS.F ht⟩) hS.2.2 dX12_member_193
                            · skip
                              have kd1059 : gT.1 (sx1005.1 0) ≠ 59 := fun h9 => h1024 (h9.trans (by decide))
                              have hb1060 : ∀ k, Rc gT (Crun gs (Imember :: k)) (Cbad (V1021 0 8).toInt) := fun k => Rc.go1 (hr1011 k) ((tk_n kd1059).trans (fl_eq rfl rl1025))
                              have r1061 : 0 ≤ ((V1021 0 8)).toInt ∧ ((V1021 0 8)).toInt ≤ 70000 := hMV1021 0 8
                              have pq1062 : (V1021 0 48).toInt = ((V998 0 48)).toInt := congrArg Int32.toInt ((ajV1021 0 48 rfl).trans (up2_o hV1014 (by decide)))
                              have rw1063 : RoV 35 bq V V1021 := (fun k hk => ((ajV1021 35 k rfl).trans ((up2_o hV1014 (by decide)).trans ((t994 k hk).trans ((t945 k hk).trans ((ajV927 35 k rfl).trans ((ajV795 35 k rfl).trans rfl)))))))
                              have rw1064 : RoV 37 bq V V1021 := (fun k hk => ((ajV1021 37 k rfl).trans ((up2_o hV1014 (by decide)).trans ((t995 k hk).trans ((t946 k hk).trans ((ajV927 37 k rfl).trans ((ajV795 37 k rfl).trans rfl)))))))
                              have rw1065 : RoL 36 20 bq L L999 := (fun k hk => ((t996 k hk).trans ((t947 k hk).trans rfl)))
                              have rw1066 : RoL 38 20 bq L L999 := (fun k hk => ((t997 k hk).trans ((t948 k hk).trans rfl)))
                              exact W.vret hx hb hr (fun t ht hW => ⟨⟨(V1021, L999), rfl, ⟨hMV1021, agV1021, alL999, (Imp.mk (fun hp => have hp : (V1021 0 8).toInt = 0 := hp; (show (V1021 0 48).toInt ≤ 2 * (V1021 0 7).toInt from by first | omega | ((try (have i_t989 := Imp.go t989 (by omega))); omega)))), (show (V1021 0 48).toInt ≤ 8120 from by first | exact om_bb58a60fcee7 t990 pq1062 | first | omega | ((try (have i_t989 := Imp.go t989 (by omega))); omega)), (Or.inr ⟨(show 1 ≤ (V1021 0 8).toInt from by (first | exact om_f8d8213eda45 q1023 | omega)), hb1060⟩), rw1063, rw1064, rw1065, rw1066⟩, by rw [ht]; exact hP, va_K.moved hW.alike hK, hD⟩, hS.F ht⟩) hS.2.2 dX12_member_193
                          · skip
                            have hb1067 : ∀ k, Rc gT (Crun gs (Imember :: k)) (Cbad (V998 0 8).toInt) := fun k => (hr974 k).tr (h1006 (Itake 59 :: Imember :: k))
                            refine va_iast (D := D) (i := z980) (x := z986) hx hb hK hP hD hS 27 26 rfl rfl (i_in (a := z980.toInt) rfl (by first | omega | ((try (have i_t989 := Imp.go t989 (by omega))); omega))) dX12_member_178 (fun H locs hP hD hS => ?_)
                            obtain ⟨V1068, hV1068⟩ : ∃ z, z = up2 V998 34 (Int32.toNatClampNeg z980) z986 := ⟨_, rfl⟩
                            have hP : va_P D vwCl (mw ad kk ks.1 V1068 L999) H := by rw [hV1068]; exact hP
                            have hD : va_D A (mw ad kk ks.1 V1068 L999) := by rw [hV1068]; exact hD
                            have hMV1068 : rgd bM V1068 := hMV998.put hV1068 (i_full _)
                            have agV1068 : agr [(0, 7), (0, 8), (0, 48), (0, 50)] [27, 28, 29, 30, 31, 32, 33, 34, 35, 36, 37, 38, 45, 46, 47] V V1068 := agV998.up hV1068 rfl
                            refine lv_goto (tgt := 187) hx hb dX12_member_179 (by decide) ?_
                            refine lv_aload_n hx hb dX12_member_187 rfl (lv_at hl 1 rfl) ?_
                            refine lv_bipush (v := 59) hx hb dX12_member_188 (by decide) ?_
                            have r1069 : Int32.toInt 59 = 59 := by decide
                            have pq1070 : (V1068 0 8).toInt = ((V998 0 8)).toInt := congrArg Int32.toInt (up2_o hV1068 (by decide))
                            refine gA_void (gA_runV (As := [.int 59]) (rest := []) (ci := 12) (q0 := 0) hx hb hml hown hg hP hD hK hS hA hnw hgk (s_takeSignB l D ks H.size ad kk V1068 L999 59 hMV1068 (show 1 ≤ (V1068 0 8).toInt from by first | omega | ((try (have i_t989 := Imp.go t989 (by omega))); omega))) w2075 w2077 w96 w172 w2078 rfl rfl hdV_yX12_takeSign ⟨Nat.le_of_ble_eq_true rfl, Nat.le_of_ble_eq_true rfl⟩ rfl hl.1 rfl (Nat.le_of_ble_eq_true rfl) dX12_member_190 ⟨Nat.le_of_ble_eq_true rfl, Nat.le_of_ble_eq_true rfl⟩) hP hD hK hS hA (fun u1072 H locs w1073 hP hD hK hS => ?_)
                            obtain ⟨V1075, L1076⟩ := u1072
                            obtain ⟨hMV1075, ajV1075, axL1076, t1074⟩ := w1073
                            have axL1076 : L999 = L1076 := Eq.symm axL1076
                            subst axL1076
                            replace hP : va_P D vwCl (mw ad kk ks.1 V1075 L999) H := hP
                            replace hD : va_D A (mw ad kk ks.1 V1075 L999) := hD
                            replace hMV1075 : rgd bM V1075 := hMV1075
                            replace ajV1075 : agr [(0, 7), (0, 8)] [] V1068 V1075 := ajV1075
                            have agV1075 : agr [(0, 7), (0, 8), (0, 48), (0, 50)] [27, 28, 29, 30, 31, 32, 33, 34, 35, 36, 37, 38, 45, 46, 47] V V1075 := agV1068.tr ajV1075 (by decide) (by decide)
                            replace t1074 : (V1075 0 8).toInt = (V1068 0 8).toInt := t1074
                            have r1077 : 0 ≤ ((V1075 0 8)).toInt ∧ ((V1075 0 8)).toInt ≤ 70000 := hMV1075 0 8
                            have pq1078 : (V1075 0 48).toInt = ((V998 0 48)).toInt := congrArg Int32.toInt ((ajV1075 0 48 rfl).trans (up2_o hV1068 (by decide)))
                            have rw1079 : RoV 35 bq V V1075 := (fun k hk => ((ajV1075 35 k rfl).trans ((up2_o hV1068 (by decide)).trans ((t994 k hk).trans ((t945 k hk).trans ((ajV927 35 k rfl).trans ((ajV795 35 k rfl).trans rfl)))))))
                            have rw1080 : RoV 37 bq V V1075 := (fun k hk => ((ajV1075 37 k rfl).trans ((up2_o hV1068 (by decide)).trans ((t995 k hk).trans ((t946 k hk).trans ((ajV927 37 k rfl).trans ((ajV795 37 k rfl).trans rfl)))))))
                            have rw1081 : RoL 36 20 bq L L999 := (fun k hk => ((t996 k hk).trans ((t947 k hk).trans rfl)))
                            have rw1082 : RoL 38 20 bq L L999 := (fun k hk => ((t997 k hk).trans ((t948 k hk).trans rfl)))
                            exact W.vret hx hb hr (fun t ht hW => ⟨⟨(V1075, L999), rfl, ⟨hMV1075, agV1075, alL999, (Imp.mk (fun hp => have hp : (V1075 0 8).toInt = 0 := hp; (show (V1075 0 48).toInt ≤ 2 * (V1075 0 7).toInt from by first | omega | ((try (have i_t989 := Imp.go t989 (by omega))); omega)))), (show (V1075 0 48).toInt ≤ 8120 from by first | exact om_bb58a60fcee7 t990 pq1078 | first | omega | ((try (have i_t989 := Imp.go t989 (by omega))); omega)), (Or.inr ⟨(show 1 ≤ (V1075 0 8).toInt from by omega), (fun k => by rw [show (V1075 0 8).toInt = (V998 0 8).toInt from by omega]; exact hb1067 k)⟩), rw1079, rw1080, rw1081, rw1082⟩, by rw [ht]; exact hP, va_K.moved hW.alike hK, hD⟩, hS.F ht⟩) hS.2.2 dX12_member_193
                      · skip
                        have f1083 : 0 ≤ ((V 34 (Int32.toNatClampNeg z966))).toInt := b_nlt rfl (by decide) c969
                        refine lv_aload_n hx hb dX12_member_142 rfl (lv_at hl 1 rfl) ?_
                        refine lv_dup hx hb dX12_member_143 rfl ?_
                        refine va_get (D := D) (ci := 12) (v := .int (V949 0 7)) (C := RX12) (T := TX12) (N := 100) hx hb hg inX12 hown hK hP 0 rfl rfl 7 (by decide) (hg _ w1713) (fun _ h9 => h9) rfl dX12_member_144 ?_
                        refine lv_iconst (v := 1) hx hb dX12_member_147 (by decide) ?_
                        refine lv_isub hx hb dX12_member_148 ?_
                        refine lv_topi (fun z1084 ez1084 => ?_)
                        have hz1084 : z1084.toInt = ((V949 0 7)).toInt - 1 := i_sub ez1084 rfl (by decide) (by omega)
                        refine va_put (D := D) (ci := 12) (v := .int z1084) (ty := tyX12 7) (C := RX12) (T := TX12) (N := 100) hx hb hg inX12 tyX12 tyX12_ok nmX12 hown hK hP hD hS 0 rfl rfl 7 (by decide) (hg _ w1713) (fun _ h9 => h9) rfl (tyX12_ok 7 (by decide)) rfl rfl (Nat.le_of_ble_eq_true rfl) dX12_member_149 (fun H locs hP hD hS => ?_)
                        obtain ⟨V1085, hV1085⟩ : ∃ z, z = up2 V949 0 7 z1084 := ⟨_, rfl⟩
                        have hP : va_P D vwCl (mw ad kk ks.1 V1085 L950) H := by rw [hV1085]; exact hP
                        have hD : va_D A (mw ad kk ks.1 V1085 L950) := by rw [hV1085]; exact hD
                        have hMV1085 : rgd bM V1085 := hMV949.put hV1085 (i_full _)
                        have agV1085 : agr [(0, 7), (0, 8), (0, 48), (0, 50)] [27, 28, 29, 30, 31, 32, 33, 34, 35, 36, 37, 38, 45, 46, 47] V V1085 := agV949.up hV1085 rfl
                        have tx := MTX.told mt958 (by rw [oS]; exact ow5.mp (by omega)) (by rw [oS, oL]; exact ow.2.2.2.2.2)
                        have rl1086 : RelM V1085 L950 bq gn gT (nx gs 1) gl := RelM.v8 (by rw [← tx.2]; exact rl954) hV1085 (by (first | exact om_a53909a885f5 hz1084 | omega))
                        have fz1087 := RelM.rg rl1086
                        have pq1088 : (V1085 0 8).toInt = ((V949 0 8)).toInt := congrArg Int32.toInt (up2_k hV1085 (by decide))
                        have pq1089 : (V1085 0 7).toInt = z1084.toInt := congrArg Int32.toInt (up2_s hV1085)
                        have mn3 : ∀ k, mst gT (Crun (nx gs 1) (ImethN :: k)) = fl gT (nx gs 1) 3 := fun k => mthN_3 (mth_k3 h953) tx.1 _
                        refine lv_aload_n hx hb dX12_member_152 rfl (lv_at hl 1 rfl) ?_
                        refine lv_iconst (v := 3) hx hb dX12_member_153 (by decide) ?_
                        have r1090 : Int32.toInt 3 = 3 := by decide
                        refine gA_void (gA_runV (As := [.int 3]) (rest := []) (ci := 12) (q0 := 0) hx hb hml hown hg hP hD hK hS hA hnw hgk (s_wrongA l D ks H.size ad kk V1085 L950 3 (bq) (gn) (gT) ((nx gs 1)) (gl) hMV1085 (by decide) rl1086) w2035 w2037 w86 w172 w2038 rfl rfl hdV_yX12_wrong ⟨Nat.le_of_ble_eq_true rfl, Nat.le_of_ble_eq_true rfl⟩ rfl hl.1 rfl (Nat.le_of_ble_eq_true rfl) dX12_member_154 ⟨Nat.le_of_ble_eq_true rfl, Nat.le_of_ble_eq_true rfl⟩) hP hD hK hS hA (fun u1092 H locs w1093 hP hD hK hS => ?_)
                        obtain ⟨V1096, L1097⟩ := u1092
                        obtain ⟨hMV1096, ajV1096, axL1097, t1094, t1095⟩ := w1093
                        have axL1097 : L950 = L1097 := Eq.symm axL1097
                        subst axL1097
                        replace hP : va_P D vwCl (mw ad kk ks.1 V1096 L950) H := hP
                        replace hD : va_D A (mw ad kk ks.1 V1096 L950) := hD
                        replace hMV1096 : rgd bM V1096 := hMV1096
                        replace ajV1096 : agr [(0, 8)] [] V1085 V1096 := ajV1096
                        have agV1096 : agr [(0, 7), (0, 8), (0, 48), (0, 50)] [27, 28, 29, 30, 31, 32, 33, 34, 35, 36, 37, 38, 45, 46, 47] V V1096 := agV1085.tr ajV1096 (by decide) (by decide)
                        replace t1094 : 1 ≤ (V1096 0 8).toInt := t1094
                        replace t1095 : (V1096 0 8).toInt = (Int32.toInt 3) + 16 * (gT).2.2 (((nx gs 1)).1 0) := t1095
                        have r1098 : 0 ≤ ((V1096 0 8)).toInt ∧ ((V1096 0 8)).toInt ≤ 70000 := hMV1096 0 8
                        have hb1099 : ∀ k, Rc gT (Crun gs (Imember :: k)) (Cbad (V1096 0 8).toInt) := fun k => Rc.go1 (hr934 k) ((mn3 _).trans (fl_eq rfl (show (V1096 0 8).toInt = 3 + 16 * gT.2.2 ((nx gs 1).1 0) from by omega)))
                        refine lv_aload_n hx hb dX12_member_157 rfl (lv_at hl 1 rfl) ?_
                        refine va_get (D := D) (ci := 12) (v := .int (V1096 0 8)) (C := RX12) (T := TX12) (N := 100) hx hb hg inX12 hown hK hP 0 rfl rfl 8 (by decide) (hg _ w1714) (fun _ h9 => h9) rfl dX12_member_158 ?_
                        refine lv_if_ne (tgt := 179) hx hb dX12_member_161 (by decide) (fun c1100 => ?_) (fun c1100 => ?_)
                        · skip
                          have f1101 : ((V1096 0 8)).toInt ≠ 0 := b_neq rfl (by decide) c1100
                          refine lv_goto (tgt := 187) hx hb dX12_member_179 (by decide) ?_
                          refine lv_aload_n hx hb dX12_member_187 rfl (lv_at hl 1 rfl) ?_
                          refine lv_bipush (v := 59) hx hb dX12_member_188 (by decide) ?_
                          have r1102 : Int32.toInt 59 = 59 := by decide
                          refine gA_void (gA_runV (As := [.int 59]) (rest := []) (ci := 12) (q0 := 0) hx hb hml hown hg hP hD hK hS hA hnw hgk (s_takeSignB l D ks H.size ad kk V1096 L950 59 hMV1096 (show 1 ≤ (V1096 0 8).toInt from by (first | exact om_f8d8213eda45 t1094 | omega))) w2075 w2077 w96 w172 w2078 rfl rfl hdV_yX12_takeSign ⟨Nat.le_of_ble_eq_true rfl, Nat.le_of_ble_eq_true rfl⟩ rfl hl.1 rfl (Nat.le_of_ble_eq_true rfl) dX12_member_190 ⟨Nat.le_of_ble_eq_true rfl, Nat.le_of_ble_eq_true rfl⟩) hP hD hK hS hA (fun u1104 H locs w1105 hP hD hK hS => ?_)
                          obtain ⟨V1107, L1108⟩ := u1104
                          obtain ⟨hMV1107, ajV1107, axL1108, t1106⟩ := w1105
                          have axL1108 : L950 = L1108 := Eq.symm axL1108
                          subst axL1108
                          replace hP : va_P D vwCl (mw ad kk ks.1 V1107 L950) H := hP
                          replace hD : va_D A (mw ad kk ks.1 V1107 L950) := hD
                          replace hMV1107 : rgd bM V1107 := hMV1107
                          replace ajV1107 : agr [(0, 7), (0, 8)] [] V1096 V1107 := ajV1107
                          have agV1107 : agr [(0, 7), (0, 8), (0, 48), (0, 50)] [27, 28, 29, 30, 31, 32, 33, 34, 35, 36, 37, 38, 45, 46, 47] V V1107 := agV1096.tr ajV1107 (by decide) (by decide)
                          replace t1106 : (V1107 0 8).toInt = (V1096 0 8).toInt := t1106
                          have r1109 : 0 ≤ ((V1107 0 8)).toInt ∧ ((V1107 0 8)).toInt ≤ 70000 := hMV1107 0 8
                          have pq1110 : (V1107 0 48).toInt = ((V 0 48)).toInt := congrArg Int32.toInt ((ajV1107 0 48 rfl).trans ((ajV1096 0 48 rfl).trans ((up2_k hV1085 (by decide)).trans ((ajV949 0 48 rfl).trans ((ajV927 0 48 rfl).trans (ajV795 0 48 rfl))))))
                          have rw1111 : RoV 35 bq V V1107 := (fun k hk => ((ajV1107 35 k rfl).trans ((ajV1096 35 k rfl).trans ((up2_o hV1085 (by decide)).trans ((t945 k hk).trans ((ajV927 35 k rfl).trans ((ajV795 35 k rfl).trans rfl)))))))
                          have rw1112 : RoV 37 bq V V1107 := (fun k hk => ((ajV1107 37 k rfl).trans ((ajV1096 37 k rfl).trans ((up2_o hV1085 (by decide)).trans ((t946 k hk).trans ((ajV927 37 k rfl).trans ((ajV795 37 k rfl).trans rfl)))))))
                          have rw1113 : RoL 36 20 bq L L950 := (fun k hk => ((t947 k hk).trans rfl))
                          have rw1114 : RoL 38 20 bq L L950 := (fun k hk => ((t948 k hk).trans rfl))
                          exact W.vret hx hb hr (fun t ht hW => ⟨⟨(V1107, L950), rfl, ⟨hMV1107, agV1107, alL950, (Imp.mk (fun hp => have hp : (V1107 0 8).toInt = 0 := hp; (show (V1107 0 48).toInt ≤ 2 * (V1107 0 7).toInt from by omega))), (show (V1107 0 48).toInt ≤ 8120 from by omega), (Or.inr ⟨(show 1 ≤ (V1107 0 8).toInt from by (first | exact om_e3c391a03e81 t1094 t1106 | omega)), (fun k => by rw [show (V1107 0 8).toInt = (V1096 0 8).toInt from by omega]; exact hb1099 k)⟩), rw1111, rw1112, rw1113, rw1114⟩, by rw [ht]; exact hP, va_K.moved hW.alike hK, hD⟩, hS.F ht⟩) hS.2.2 dX12_member_193
                        · skip
                          have f1115 : ((V1096 0 8)).toInt = 0 := b_eq rfl (by decide) c1100
                          exfalso; (first | exact om_09885ab343b9 t1094 f1115 | omega)
                  · skip
                    have hb1116 : ∀ k, Rc gT (Crun gs (Imember :: k)) (Cbad (V949 0 8).toInt) := fun k => Rc.go1 (hr934 k) (mn_b (Km_mthN h953))
                    have r1117 : 0 ≤ ((V949 0 8)).toInt ∧ ((V949 0 8)).toInt ≤ 70000 := hMV949 0 8
                    refine lv_istore_n (lv' := [(2, .int z941), (0, .ref (ad 0)), (1, .int p0)]) hx hb dX12_member_120 rfl hl (by decide) rfl (fun ls hl => ?_)
                    refine lv_aload_n hx hb dX12_member_121 rfl (lv_at hl 1 rfl) ?_
                    refine va_get (D := D) (ci := 12) (v := .int (V949 0 8)) (C := RX12) (T := TX12) (N := 100) hx hb hg inX12 hown hK hP 0 rfl rfl 8 (by decide) (hg _ w1714) (fun _ h9 => h9) rfl dX12_member_122 ?_
                    refine lv_if_ne (tgt := 157) hx hb dX12_member_125 (by decide) (fun c1118 => ?_) (fun c1118 => ?_)
                    · skip
                      have f1119 : ((V949 0 8)).toInt ≠ 0 := b_neq rfl (by decide) c1118
                      refine lv_aload_n hx hb dX12_member_157 rfl (lv_at hl 1 rfl) ?_
                      refine va_get (D := D) (ci := 12) (v := .int (V949 0 8)) (C := RX12) (T := TX12) (N := 100) hx hb hg inX12 hown hK hP 0 rfl rfl 8 (by decide) (hg _ w1714) (fun _ h9 => h9) rfl dX12_member_158 ?_
                      refine lv_if_ne (tgt := 179) hx hb dX12_member_161 (by decide) (fun c1120 => ?_) (fun c1120 => ?_)
                      · skip
                        have f1121 : ((V949 0 8)).toInt ≠ 0 := b_neq rfl (by decide) c1120
                        refine lv_goto (tgt := 187) hx hb dX12_member_179 (by decide) ?_
                        refine lv_aload_n hx hb dX12_member_187 rfl (lv_at hl 1 rfl) ?_
                        refine lv_bipush (v := 59) hx hb dX12_member_188 (by decide) ?_
                        have r1122 : Int32.toInt 59 = 59 := by decide
                        refine gA_void (gA_runV (As := [.int 59]) (rest := []) (ci := 12) (q0 := 0) hx hb hml hown hg hP hD hK hS hA hnw hgk (s_takeSignB l D ks H.size ad kk V949 L950 59 hMV949 (show 1 ≤ (V949 0 8).toInt from by (first | exact om_76052c512981 r1117.1 f1119 | omega))) w2075 w2077 w96 w172 w2078 rfl rfl hdV_yX12_takeSign ⟨Nat.le_of_ble_eq_true rfl, Nat.le_of_ble_eq_true rfl⟩ rfl hl.1 rfl (Nat.le_of_ble_eq_true rfl) dX12_member_190 ⟨Nat.le_of_ble_eq_true rfl, Nat.le_of_ble_eq_true rfl⟩) hP hD hK hS hA (fun u1124 H locs w1125 hP hD hK hS => ?_)
                        obtain ⟨V1127, L1128⟩ := u1124
                        obtain ⟨hMV1127, ajV1127, axL1128, t1126⟩ := w1125
                        have axL1128 : L950 = L1128 := Eq.symm axL1128
                        subst axL1128
                        replace hP : va_P D vwCl (mw ad kk ks.1 V1127 L950) H := hP
                        replace hD : va_D A (mw ad kk ks.1 V1127 L950) := hD
                        replace hMV1127 : rgd bM V1127 := hMV1127
                        replace ajV1127 : agr [(0, 7), (0, 8)] [] V949 V1127 := ajV1127
                        have agV1127 : agr [(0, 7), (0, 8), (0, 48), (0, 50)] [27, 28, 29, 30, 31, 32, 33, 34, 35, 36, 37, 38, 45, 46, 47] V V1127 := agV949.tr ajV1127 (by decide) (by decide)
                        replace t1126 : (V1127 0 8).toInt = (V949 0 8).toInt := t1126
                        have r1129 : 0 ≤ ((V1127 0 8)).toInt ∧ ((V1127 0 8)).toInt ≤ 70000 := hMV1127 0 8
                        have pq1130 : (V1127 0 48).toInt = ((V 0 48)).toInt := congrArg Int32.toInt ((ajV1127 0 48 rfl).trans ((ajV949 0 48 rfl).trans ((ajV927 0 48 rfl).trans (ajV795 0 48 rfl))))
                        have rw1131 : RoV 35 bq V V1127 := (fun k hk => ((ajV1127 35 k rfl).trans ((t945 k hk).trans ((ajV927 35 k rfl).trans ((ajV795 35 k rfl).trans rfl)))))
                        have rw1132 : RoV 37 bq V V1127 := (fun k hk => ((ajV1127 37 k rfl).trans ((t946 k hk).trans ((ajV927 37 k rfl).trans ((ajV795 37 k rfl).trans rfl)))))
                        have rw1133 : RoL 36 20 bq L L950 := (fun k hk => ((t947 k hk).trans rfl))
                        have rw1134 : RoL 38 20 bq L L950 := (fun k hk => ((t948 k hk).trans rfl))
                        exact W.vret hx hb hr (fun t ht hW => ⟨⟨(V1127, L950), rfl, ⟨hMV1127, agV1127, alL950, (Imp.mk (fun hp => have hp : (V1127 0 8).toInt = 0 := hp; (show (V1127 0 48).toInt ≤ 2 * (V1127 0 7).toInt from by omega))), (show (V1127 0 48).toInt ≤ 8120 from by omega), (Or.inr ⟨(show 1 ≤ (V1127 0 8).toInt from by (first | exact om_1499017b39b7 r1117.1 f1119 t1126 | omega)), (fun k => by rw [show (V1127 0 8).toInt = (V949 0 8).toInt from by omega]; exact hb1116 k)⟩), rw1131, rw1132, rw1133, rw1134⟩, by rw [ht]; exact hP, va_K.moved hW.alike hK, hD⟩, hS.F ht⟩) hS.2.2 dX12_member_193
                      · skip
                        have f1135 : ((V949 0 8)).toInt = 0 := b_eq rfl (by decide) c1120
                        exfalso; (first | exact om_0abcda13baee r1117.1 f1119 f1135 | omega)
                    · skip
                      have f1136 : ((V949 0 8)).toInt = 0 := b_eq rfl (by decide) c1118
                      exfalso; omega
              · skip
                have kd1137 : gT.1 (gs.1 0) ≠ 142 := fun h9 => h930 (h9.trans (by decide))
                have fz1138 := RelM.rg rl931
                have pq1139 : (V927 0 8).toInt = ((V 0 8)).toInt := congrArg Int32.toInt ((ajV927 0 8 rfl).trans (ajV795 0 8 rfl))
                refine lv_if_eq (tgt := 182) hx hb dX12_member_105 (by decide) (fun c1140 => ?_) (fun c1140 => ?_)
                · skip
                  have f1141 : z923.toInt = 0 := b_eq rfl (by decide) c1140
                  refine lv_aload_n hx hb dX12_member_182 rfl (lv_at hl 0 rfl) ?_
                  refine lv_iconst (v := 1) hx hb dX12_member_183 (by decide) ?_
                  have r1142 : Int32.toInt 1 = 1 := by decide
                  refine gA_void (gA_runV (As := [.int 1]) (rest := []) (ci := 12) (q0 := 0) hx hb hml hown hg hP hD hK hS hA hnw hgk (s_wrongA l D ks H.size ad kk V927 L 1 (bq) (gn) (gT) (gs) (gl) hMV927 (by decide) rl931) w2035 w2037 w86 w172 w2038 rfl rfl hdV_yX12_wrong ⟨Nat.le_of_ble_eq_true rfl, Nat.le_of_ble_eq_true rfl⟩ rfl hl.1 rfl (Nat.le_of_ble_eq_true rfl) dX12_member_184 ⟨Nat.le_of_ble_eq_true rfl, Nat.le_of_ble_eq_true rfl⟩) hP hD hK hS hA (fun u1144 H locs w1145 hP hD hK hS => ?_)
                  obtain ⟨V1148, L1149⟩ := u1144
                  obtain ⟨hMV1148, ajV1148, axL1149, t1146, t1147⟩ := w1145
                  have axL1149 : L = L1149 := Eq.symm axL1149
                  subst axL1149
                  replace hP : va_P D vwCl (mw ad kk ks.1 V1148 L) H := hP
                  replace hD : va_D A (mw ad kk ks.1 V1148 L) := hD
                  replace hMV1148 : rgd bM V1148 := hMV1148
                  replace ajV1148 : agr [(0, 8)] [] V927 V1148 := ajV1148
                  have agV1148 : agr [(0, 7), (0, 8), (0, 48), (0, 50)] [27, 28, 29, 30, 31, 32, 33, 34, 35, 36, 37, 38, 45, 46, 47] V V1148 := agV927.tr ajV1148 (by decide) (by decide)
                  replace t1146 : 1 ≤ (V1148 0 8).toInt := t1146
                  replace t1147 : (V1148 0 8).toInt = (Int32.toInt 1) + 16 * (gT).2.2 ((gs).1 0) := t1147
                  have r1150 : 0 ≤ ((V1148 0 8)).toInt ∧ ((V1148 0 8)).toInt ≤ 70000 := hMV1148 0 8
                  have hr1151 : ∀ k, Rc gT (Crun gs (Imember :: k)) (Crun gs (Imember :: k)) := fun k => Rc.rf
                  have hb1152 : ∀ k, Rc gT (Crun gs (Imember :: k)) (Cbad (V1148 0 8).toInt) := fun k => Rc.go1 (hr1151 k) ((mb_f kn125 kd158 (Or.inl kd914) (Or.inr (by by_cases q9 : gs.1 3 = 1; exact q9; exact absurd (ow.2.2.1.mpr q9) (by omega))) kd1137).trans (fl_eq rfl (show (V1148 0 8).toInt = 1 + 16 * gT.2.2 (gs.1 0) from by omega)))
                  refine lv_aload_n hx hb dX12_member_187 rfl (lv_at hl 0 rfl) ?_
                  refine lv_bipush (v := 59) hx hb dX12_member_188 (by decide) ?_
                  have r1153 : Int32.toInt 59 = 59 := by decide
                  refine gA_void (gA_runV (As := [.int 59]) (rest := []) (ci := 12) (q0 := 0) hx hb hml hown hg hP hD hK hS hA hnw hgk (s_takeSignB l D ks H.size ad kk V1148 L 59 hMV1148 (show 1 ≤ (V1148 0 8).toInt from by (first | exact om_f8d8213eda45 t1146 | omega))) w2075 w2077 w96 w172 w2078 rfl rfl hdV_yX12_takeSign ⟨Nat.le_of_ble_eq_true rfl, Nat.le_of_ble_eq_true rfl⟩ rfl hl.1 rfl (Nat.le_of_ble_eq_true rfl) dX12_member_190 ⟨Nat.le_of_ble_eq_true rfl, Nat.le_of_ble_eq_true rfl⟩) hP hD hK hS hA (fun u1155 H locs w1156 hP hD hK hS => ?_)
                  obtain ⟨V1158, L1159⟩ := u1155
                  obtain ⟨hMV1158, ajV1158, axL1159, t1157⟩ := w1156
                  have axL1159 : L = L1159 := Eq.symm axL1159
                  subst axL1159
                  replace hP : va_P D vwCl (mw ad kk ks.1 V1158 L) H := hP
                  replace hD : va_D A (mw ad kk ks.1 V1158 L) := hD
                  replace hMV1158 : rgd bM V1158 := hMV1158
                  replace ajV1158 : agr [(0, 7), (0, 8)] [] V1148 V1158 := ajV1158
                  have agV1158 : agr [(0, 7), (0, 8), (0, 48), (0, 50)] [27, 28, 29, 30, 31, 32, 33, 34, 35, 36, 37, 38, 45, 46, 47] V V1158 := agV1148.tr ajV1158 (by decide) (by decide)
                  replace t1157 : (V1158 0 8).toInt = (V1148 0 8).toInt := t1157
                  have r1160 : 0 ≤ ((V1158 0 8)).toInt ∧ ((V1158 0 8)).toInt ≤ 70000 := hMV1158 0 8
                  have pq1161 : (V1158 0 48).toInt = ((V 0 48)).toInt := congrArg Int32.toInt ((ajV1158 0 48 rfl).trans ((ajV1148 0 48 rfl).trans ((ajV927 0 48 rfl).trans (ajV795 0 48 rfl))))
                  have rw1162 : RoV 35 bq V V1158 := (fun k hk => ((ajV1158 35 k rfl).trans ((ajV1148 35 k rfl).trans ((ajV927 35 k rfl).trans ((ajV795 35 k rfl).trans rfl)))))
                  have rw1163 : RoV 37 bq V V1158 := (fun k hk => ((ajV1158 37 k rfl).trans ((ajV1148 37 k rfl).trans ((ajV927 37 k rfl).trans ((ajV795 37 k rfl).trans rfl)))))
                  have rw1164 : RoL 36 20 bq L L := (fun k hk => rfl)
                  have rw1165 : RoL 38 20 bq L L := (fun k hk => rfl)
                  exact W.vret hx hb hr (fun t ht hW => ⟨⟨(V1158, L), rfl, ⟨hMV1158, agV1158, alL, (Imp.mk (fun hp => have hp : (V1158 0 8).toInt = 0 := hp; (show (V1158 0 48).toInt ≤ 2 * (V1158 0 7).toInt from by omega))), (show (V1158 0 48).toInt ≤ 8120 from by omega), (Or.inr ⟨(show 1 ≤ (V1158 0 8).toInt from by (first | exact om_e3c391a03e81 t1146 t1157 | omega)), (fun k => by rw [show (V1158 0 8).toInt = (V1148 0 8).toInt from by omega]; exact hb1152 k)⟩), rw1162, rw1163, rw1164, rw1165⟩, by rw [ht]; exact hP, va_K.moved hW.alike hK, hD⟩, hS.F ht⟩) hS.2.2 dX12_member_193
                · skip
                  have f1166 : z923.toInt ≠ 0 := b_neq rfl (by decide) c1140
                  exfalso; (first | exact om_fb320d7600b7 rgz923.1 q929 f1166 | omega)
            · skip
              have f1167 : ((V 33 (Int32.toNatClampNeg p0))).toInt < 0 := b_nle (by decide) rfl c920
              refine lv_aload_n hx hb dX12_member_77 rfl (lv_at hl 0 rfl) ?_
              refine lv_bipush (v := 13) hx hb dX12_member_78 (by decide) ?_
              have r1168 : Int32.toInt 13 = 13 := by decide
              refine gA_int (gA_runV (As := [.int 13]) (rest := []) (ci := 12) (q0 := 0) hx hb hml hown hg hP hD hK hS hA hnw hgk (s_hasWordA l D ks H.size ad kk V795 L 13 (bq) (gn) (gT) (gs) (gl) hMV795 (by decide) rl799) w2051 w2053 w90 w172 w2054 rfl rfl hdV_yX12_hasWord ⟨Nat.le_of_ble_eq_true rfl, Nat.le_of_ble_eq_true rfl⟩ rfl hl.1 rfl (Nat.le_of_ble_eq_true rfl) dX12_member_80 ⟨Nat.le_of_ble_eq_true rfl, Nat.le_of_ble_eq_true rfl⟩) hP hD hK hS hA (fun z1169 u1170 H locs w1171 hP hD hK hS => ?_)
              obtain ⟨V1173, L1174⟩ := u1170
              obtain ⟨hMV1173, ajV1173, axL1174, rgz1169, t1172⟩ := w1171
              have axL1174 : L = L1174 := Eq.symm axL1174
              subst axL1174
              replace hP : va_P D vwCl (mw ad kk ks.1 V1173 L) H := hP
              replace hD : va_D A (mw ad kk ks.1 V1173 L) := hD
              replace hMV1173 : rgd bM V1173 := hMV1173
              replace ajV1173 : agr [(0, 7)] [] V795 V1173 := ajV1173
              have agV1173 : agr [(0, 7), (0, 8), (0, 48), (0, 50)] [27, 28, 29, 30, 31, 32, 33, 34, 35, 36, 37, 38, 45, 46, 47] V V1173 := agV795.tr ajV1173 (by decide) (by decide)
              replace rgz1169 : 0 ≤ z1169.toInt ∧ z1169.toInt ≤ 1 := rgz1169
              replace t1172 : (z1169.toInt = 1 ∧ (gT).1 ((gs).1 0) = 128 + (Int32.toInt 13) ∧ RelM V1173 L (bq) (gn) (gT) (nx (gs) 1) (gl)) ∨ (z1169.toInt = 0 ∧ (gT).1 ((gs).1 0) ≠ 128 + (Int32.toInt 13) ∧ RelM V1173 L (bq) (gn) (gT) (gs) (gl)) := t1172
              rcases t1172 with ⟨q1175, h1176, rl1177⟩ | ⟨q1175, h1176, rl1177⟩
              · skip
                have kd1178 : gT.1 (gs.1 0) = 141 := h1176.trans (by decide)
                have hr1179 : ∀ k, Rc gT (Crun gs (Imember :: k)) (Crun gs (Imember :: k)) := fun k => Rc.rf
                have hr1180 : ∀ k, Rc gT (Crun gs (Imember :: k)) (Crun (sL (nx (sN gs 3 1) 1) (100 + 32 * ((gs.2.1 2).length - 1) + 31) (cl gs + 1)) (Iexpr 0 :: Iem 0 :: Itake 59 :: Imember :: k)) := fun k => Rc.go1 (hr1179 k) (mb_141 kd1178 (ow.2.2.1.mp (by omega)))
                have ps1181 : (sN gs 3 1).1 0 = gs.1 0 := rfl
                have ps1182 : (nx gs 1).1 0 = gs.1 0 + 1 := rfl
                have fz1183 := RelM.rg rl1177
                have pq1184 : (V1173 0 8).toInt = ((V 0 8)).toInt := congrArg Int32.toInt ((ajV1173 0 8 rfl).trans (ajV795 0 8 rfl))
                refine lv_if_eq (tgt := 99) hx hb dX12_member_83 (by decide) (fun c1185 => ?_) (fun c1185 => ?_)
                · skip
                  have f1186 : z1169.toInt = 0 := b_eq rfl (by decide) c1185
                  exfalso; (first | exact om_495ee03a60ae q1175 f1186 | omega)
                · skip
                  have f1187 : z1169.toInt ≠ 0 := b_neq rfl (by decide) c1185
                  have rl1188 : RelM V1173 L bq gn gT (nx (sN gs 3 1) 1) gl := rl1177
                  have rl1189 : RelM V1173 L bq gn gT (sL (nx (sN gs 3 1) 1) (100 + 32 * ((gs.2.1 2).length - 1) + 31) (cl gs + 1)) gl := RelM.gl rl1188 (by omega)
                  have ps1190 : (sL (nx (sN gs 3 1) 1) (100 + 32 * ((gs.2.1 2).length - 1) + 31) (cl gs + 1)).1 0 = (nx (sN gs 3 1) 1).1 0 := rfl
                  refine lv_aload_n hx hb dX12_member_86 rfl (lv_at hl 0 rfl) ?_
                  refine va_get (D := D) (ci := 12) (v := .ref (ad 33)) (C := RX12) (T := TX12) (N := 100) hx hb hg inX12 hown hK hP 0 rfl rfl 33 (by decide) (hg _ w1739) (fun _ h9 => h9) rfl dX12_member_87 ?_
                  refine lv_iload_n hx hb dX12_member_90 rfl (lv_at hl 1 rfl) ?_
                  refine lv_aload_n hx hb dX12_member_91 rfl (lv_at hl 0 rfl) ?_
                  have pq1191 : (V1173 0 48).toInt = ((V 0 48)).toInt := congrArg Int32.toInt ((ajV1173 0 48 rfl).trans (ajV795 0 48 rfl))
                  have pq1192 : (V1173 0 51).toInt = ((V 0 51)).toInt := congrArg Int32.toInt ((ajV1173 0 51 rfl).trans (ajV795 0 51 rfl))
                  have pq1193 : (V1173 0 52).toInt = ((V 0 52)).toInt := congrArg Int32.toInt ((ajV1173 0 52 rfl).trans (ajV795 0 52 rfl))
                  have cd1194 : CDm V1173 (10000 * bq) gs := CDm.ag cem.1 (show agr [(0, 7)] [] V V1173 from (agr.tr (agr.tr agr.rf ajV795 (by decide) (by decide)) ajV1173 (by decide) (by decide))) ⟨rfl, rfl, fun _ => ⟨rfl, rfl, rfl⟩⟩
                  have cd1195 : CDm V1173 (10000 * bq) (sL (nx (sN gs 3 1) 1) (100 + 32 * ((gs.2.1 2).length - 1) + 31) (cl gs + 1)) := CDm.mv cd1194 (fun j9 h9 => ((show ∀ j9, j9 = 5 ∨ 2000 ≤ j9 → (sL (nx (sN gs 3 1) 1) (100 + 32 * ((gs.2.1 2).length - 1) + 31) (cl gs + 1)).2.1 j9 = (nx (sN gs 3 1) 1).2.1 j9 from fun j9 h9 => sL_o _ _ (by have h9 := cem.2.1.1; omega)) j9 h9).trans ((fun j9 h9 => ((show ∀ j9, j9 = 5 ∨ 2000 ≤ j9 → (nx (sN gs 3 1) 1).2.1 j9 = (nx gs 1).2.1 j9 from fun j9 h9 => (show ∀ j9, 5 ≤ j9 → (nx (sN gs 3 1) 1).2.1 j9 = (nx gs 1).2.1 j9 from fun _ _ => rfl) j9 (by omega)) j9 h9).trans ((show ∀ j9, j9 = 5 ∨ 2000 ≤ j9 → (nx gs 1).2.1 j9 = gs.2.1 j9 from fun j9 h9 => (show ∀ j9, 5 ≤ j9 → (nx gs 1).2.1 j9 = gs.2.1 j9 from fun _ _ => rfl) j9 (by omega)) j9 h9)) j9 h9))
                  refine gA_int (gA_runV (As := []) (rest := [.int p0, .ref (ad 33)]) (ci := 12) (q0 := 0) hx hb hml hown hg hP hD hK hS hA hnw hgk (s_codeA l D ks H.size ad kk V1173 L (bq) (gn) (gT) ((sL (nx (sN gs 3 1) 1) (100 + 32 * ((gs.2.1 2).length - 1) + 31) (cl gs + 1))) (gl) hMV1173 rl1189 (show (V1173 0 48).toInt ≤ 2 * (V1173 0 7).toInt from by omega) (EM.o2 (o := gc) (show (V1173 27 gc).toInt = (((sL (nx (sN gs 3 1) 1) (100 + 32 * ((gs.2.1 2).length - 1) + 31) (cl gs + 1)).1 1 : Nat) : Int) from by rw [(by rw [(funext (fun q => ajV1173 27 q rfl) : V1173 27 = V795 27), (funext (fun q => ajV795 27 q rfl) : V795 27 = V 27)] : V1173 27 = V 27)]; exact ow.1) (show (sL (nx (sN gs 3 1) 1) (100 + 32 * ((gs.2.1 2).length - 1) + 31) (cl gs + 1)).1 4 = 0 from ow.2.2.2.1) (by omega) (by omega)) cd1195) w2112 w2114 w105 w172 w2115 rfl rfl hdV_yX12_code ⟨Nat.le_of_ble_eq_true rfl, Nat.le_of_ble_eq_true rfl⟩ rfl hl.1 rfl (Nat.le_of_ble_eq_true rfl) dX12_member_92 ⟨Nat.le_of_ble_eq_true rfl, Nat.le_of_ble_eq_true rfl⟩) hP hD hK hS hA (fun z1196 u1197 H locs w1198 hP hD hK hS => ?_)
                  obtain ⟨V1208, L1209⟩ := u1197
                  obtain ⟨hMV1208, ajV1208, axL1209, rgz1196, t1199, t1200, t1201, t1202, t1203, t1204, t1205, t1206, t1207⟩ := w1198
                  have alL1209 : agL [27, 28, 29, 30, 31, 32, 33, 34, 35, 36, 37, 38, 45, 46, 47] L L1209 := agL.tr alL axL1209 (by decide)
                  replace hP : va_P D vwCl (mw ad kk ks.1 V1208 L1209) H := hP
                  replace hD : va_D A (mw ad kk ks.1 V1208 L1209) := hD
                  replace hMV1208 : rgd bM V1208 := hMV1208
                  replace ajV1208 : agr [(0, 7), (0, 8), (0, 48), (0, 50)] [35, 36, 37, 38, 45, 46, 47] V1173 V1208 := ajV1208
                  have agV1208 : agr [(0, 7), (0, 8), (0, 48), (0, 50)] [27, 28, 29, 30, 31, 32, 33, 34, 35, 36, 37, 38, 45, 46, 47] V V1208 := agV1173.tr ajV1208 (by decide) (by decide)
                  replace rgz1196 : 0 ≤ z1196.toInt ∧ z1196.toInt ≤ 20000 := rgz1196
                  replace t1199 : Imp ((V1208 0 8).toInt = 0) ((V1208 0 48).toInt - (V1173 0 48).toInt ≤ 2 * ((V1208 0 7).toInt - (V1173 0 7).toInt) + 1) := t1199
                  replace t1200 : (V1208 0 48).toInt ≤ 8060 := t1200
                  replace t1201 : (V1173 0 48).toInt ≤ (V1208 0 48).toInt := t1201
                  replace t1202 : z1196.toInt = (V1173 0 49).toInt + (V1173 0 48).toInt := t1202
                  replace t1203 : RdM (gT) ((sL (nx (sN gs 3 1) 1) (100 + 32 * ((gs.2.1 2).length - 1) + 31) (cl gs + 1))) (fun k => Iexpr 0 :: Iem 0 :: k) (fun k => k) (V1208 0 8).toInt (fun s9 => RelM V1208 L1209 (bq) (gn) (gT) s9 (gl) ∧ keepS ((sL (nx (sN gs 3 1) 1) (100 + 32 * ((gs.2.1 2).length - 1) + 31) (cl gs + 1))) 1 s9 ∧ keepE ((sL (nx (sN gs 3 1) 1) (100 + 32 * ((gs.2.1 2).length - 1) + 31) (cl gs + 1))) s9 ∧ CDm V1208 (10000 * (bq)) s9) := t1203
                  replace t1204 : RoV 35 (bq) V1173 V1208 := t1204
                  replace t1205 : RoV 37 (bq) V1173 V1208 := t1205
                  replace t1206 : RoL 36 20 (bq) L L1209 := t1206
                  replace t1207 : RoL 38 20 (bq) L L1209 := t1207
                  have r1210 : 0 ≤ ((V1208 0 48)).toInt ∧ ((V1208 0 48)).toInt ≤ 10000 := hMV1208 0 48
                  have r1211 : 0 ≤ ((V1208 0 8)).toInt ∧ ((V1208 0 8)).toInt ≤ 70000 := hMV1208 0 8
                  have pq1212 : (V1173 0 49).toInt = ((V 0 49)).toInt := congrArg Int32.toInt ((ajV1173 0 49 rfl).trans (ajV795 0 49 rfl))
                  have r1213 : 0 ≤ ((V 0 49)).toInt ∧ ((V 0 49)).toInt ≤ 10000 := hMV 0 49
                  rcases t1203 with ⟨q1214, sx1215, h1216, rl1217, kp1218, ke1219, cd1220⟩ | ⟨q1214, h1216⟩
                  · skip
                    have hr1221 : ∀ k, Rc gT (Crun gs (Imember :: k)) (Crun sx1215 (Itake 59 :: Imember :: k)) := fun k => (hr1180 k).tr (h1216 (Itake 59 :: Imember :: k))
                    have fz1222 := RelM.rg rl1217
                    have ps1223 := (kp1218).1
                    refine va_iast (D := D) (i := p0) (x := z1196) hx hb hK hP hD hS 26 25 rfl rfl (i_in (a := p0.toInt) rfl (by first | exact om_6e0fb57f3b24 pgc ic gcb r1.2 | first | omega | ((try (have i_t1199 := Imp.go t1199 (by omega))); omega))) dX12_member_95 (fun H locs hP hD hS => ?_)
                    obtain ⟨V1224, hV1224⟩ : ∃ z, z = up2 V1208 33 (Int32.toNatClampNeg p0) z1196 := ⟨_, rfl⟩
                    have hP : va_P D vwCl (mw ad kk ks.1 V1224 L1209) H := by rw [hV1224]; exact hP
                    have hD : va_D A (mw ad kk ks.1 V1224 L1209) := by rw [hV1224]; exact hD
                    have hMV1224 : rgd bM V1224 := hMV1208.put hV1224 (i_full _)
                    have agV1224 : agr [(0, 7), (0, 8), (0, 48), (0, 50)] [27, 28, 29, 30, 31, 32, 33, 34, 35, 36, 37, 38, 45, 46, 47] V V1224 := agV1208.up hV1224 rfl
                    refine lv_goto (tgt := 187) hx hb dX12_member_96 (by decide) ?_
                    refine lv_aload_n hx hb dX12_member_187 rfl (lv_at hl 0 rfl) ?_
                    refine lv_bipush (v := 59) hx hb dX12_member_188 (by decide) ?_
                    have rl1225 : RelM V1224 L1209 bq gn gT sx1215 gl := RelM.ag rl1217 (show agr [] [33] V1208 V1224 from (agr.up agr.rf hV1224 rfl)) (by decide) (show agL [] L1209 L1209 from agL.rf) (by decide)
                    have r1226 : Int32.toInt 59 = 59 := by decide
                    refine gA_void (gA_runV (As := [.int 59]) (rest := []) (ci := 12) (q0 := 0) hx hb hml hown hg hP hD hK hS hA hnw hgk (s_takeSignA l D ks H.size ad kk V1224 L1209 59 (bq) (gn) (gT) (sx1215) (gl) hMV1224 rl1225 (sg_yes (j := 59) (by decide) (by decide) (by decide))) w2075 w2077 w96 w172 w2078 rfl rfl hdV_yX12_takeSign ⟨Nat.le_of_ble_eq_true rfl, Nat.le_of_ble_eq_true rfl⟩ rfl hl.1 rfl (Nat.le_of_ble_eq_true rfl) dX12_member_190 ⟨Nat.le_of_ble_eq_true rfl, Nat.le_of_ble_eq_true rfl⟩) hP hD hK hS hA (fun u1228 H locs w1229 hP hD hK hS => ?_)
                    obtain ⟨V1231, L1232⟩ := u1228
                    obtain ⟨hMV1231, ajV1231, axL1232, t1230⟩ := w1229
                    have axL1232 : L1209 = L1232 := Eq.symm axL1232
                    subst axL1232
                    replace hP : va_P D vwCl (mw ad kk ks.1 V1231 L1209) H := hP
                    replace hD : va_D A (mw ad kk ks.1 V1231 L1209) := hD
                    replace hMV1231 : rgd bM V1231 := hMV1231
                    replace ajV1231 : agr [(0, 7), (0, 8)] [] V1224 V1231 := ajV1231
                    have agV1231 : agr [(0, 7), (0, 8), (0, 48), (0, 50)] [27, 28, 29, 30, 31, 32, 33, 34, 35, 36, 37, 38, 45, 46, 47] V V1231 := agV1224.tr ajV1231 (by decide) (by decide)
                    replace t1230 : ((V1231 0 8).toInt = 0 ∧ (gT).1 ((sx1215).1 0) = (Int32.toInt 59) ∧ RelM V1231 L1209 (bq) (gn) (gT) (nx (sx1215) 1) (gl)) ∨ (1 ≤ (V1231 0 8).toInt ∧ (gT).1 ((sx1215).1 0) ≠ (Int32.toInt 59) ∧ (V1231 0 8).toInt = 1 + 16 * (gT).2.2 ((sx1215).1 0)) := t1230
                    rcases t1230 with ⟨q1233, h1234, rl1235⟩ | ⟨q1233, h1234, rl1235⟩
                    · skip
                      have kd1236 : gT.1 (sx1215.1 0) = 59 := h1234.trans (by decide)
                      have hr1237 : ∀ k, Rc gT (Crun gs (Imember :: k)) (Crun (nx sx1215 1) (Imember :: k)) := fun k => Rc.go1 (hr1221 k) (tk_y kd1236)
                      have ps1238 : (nx sx1215 1).1 0 = sx1215.1 0 + 1 := rfl
                      have fz1239 := RelM.rg rl1235
                      have r1240 : 0 ≤ ((V1231 0 8)).toInt ∧ ((V1231 0 8)).toInt ≤ 70000 := hMV1231 0 8
                      have pq1241 : (V1231 0 48).toInt = ((V1208 0 48)).toInt := congrArg Int32.toInt ((ajV1231 0 48 rfl).trans (up2_o hV1224 (by decide)))
                      have ps1242 : gs.1 0 + 1 ≤ (nx gs 1).1 0 := ((keepS.n1 1)).1
                      have ps1243 : (nx (sN gs 3 1) 1).1 0 = (nx gs 1).1 0 := rfl
                      have ps1244 : (nx (sN gs 3 1) 1).1 0 + 0 ≤ (sL (nx (sN gs 3 1) 1) (100 + 32 * ((gs.2.1 2).length - 1) + 31) (cl gs + 1)).1 0 := ((show keepS (nx (sN gs 3 1) 1) 0 (sL (nx (sN gs 3 1) 1) (100 + 32 * ((gs.2.1 2).length - 1) + 31) (cl gs + 1)) from keepS.gl (by omega))).1
                      have ps1245 : (sL (nx (sN gs 3 1) 1) (100 + 32 * ((gs.2.1 2).length - 1) + 31) (cl gs + 1)).1 0 + 1 ≤ sx1215.1 0 := (kp1218).1
                      have ps1246 : sx1215.1 0 + 1 ≤ (nx sx1215 1).1 0 := ((keepS.n1 1)).1
                      have cs1247 : 0 ≤ (V1231 33 gc).toInt := by have h9 : V1231 33 (Int32.toNatClampNeg p0) = z1196 := ((ajV1231 33 (Int32.toNatClampNeg p0) rfl).trans (up2_s hV1224)); rw [kgc] at h9; rw [h9]; omega
                      have cn1248 : CNm V1231 bq gs := CNm.ag cnm (show agr [(0, 7), (0, 8), (0, 48), (0, 50)] [33, 35, 36, 37, 38, 45, 46, 47] V V1231 from (agr.tr (agr.up (agr.tr (agr.tr (agr.tr agr.rf ajV795 (by decide) (by decide)) ajV1173 (by decide) (by decide)) ajV1208 (by decide) (by decide)) hV1224 rfl) ajV1231 (by decide) (by decide))) (by decide) keepC.rf
                      have cn1249 : CNm V1231 bq (nx sx1215 1) := CNm.mv cn1248 (fun _ _ _ => rfl) (keepC.tr (keepC.tr (keepC.tr (keepC.tr (keepC.tr (keepC.rf : keepC gs gs) (keepS.c (keepS.n1 1))) (keepC.tn (by decide) : keepC (nx gs 1) (nx (sN gs 3 1) 1))) (keepS.c (show keepS (nx (sN gs 3 1) 1) 0 (sL (nx (sN gs 3 1) 1) (100 + 32 * ((gs.2.1 2).length - 1) + 31) (cl gs + 1)) from keepS.gl (by omega)))) (keepS.c kp1218)) (keepS.c (keepS.n1 1)))
                      have cd1250 : CDm V1231 (10000 * bq) sx1215 := CDm.ag cd1220 (show agr [(0, 7), (0, 8)] [33] V1208 V1231 from (agr.tr (agr.up agr.rf hV1224 rfl) ajV1231 (by decide) (by decide))) ⟨rfl, rfl, fun _ => ⟨rfl, rfl, rfl⟩⟩
                      have cd1251 : CDm V1231 (10000 * bq) (nx sx1215 1) := CDm.mv cd1250 (show ∀ j9, j9 = 5 ∨ 2000 ≤ j9 → (nx sx1215 1).2.1 j9 = sx1215.2.1 j9 from fun j9 h9 => (show ∀ j9, 5 ≤ j9 → (nx sx1215 1).2.1 j9 = sx1215.2.1 j9 from fun _ _ => rfl) j9 (by omega))
                      have re1252 : REm V1208 bq gs := REm.ag cem.2.1 (show agr [(0, 7), (0, 8), (0, 48), (0, 50)] [35, 36, 37, 38, 45, 46, 47] V V1208 from (agr.tr (agr.tr (agr.tr agr.rf ajV795 (by decide) (by decide)) ajV1173 (by decide) (by decide)) ajV1208 (by decide) (by decide))) (fun _ => ⟨rfl, rfl, rfl⟩) keepE.rf rfl
                      have hu1253 := hV1224
                      have ce1254 := cem.1.1
                      have ce1255 := cem.1.2.1
                      rw [kgc] at hu1253
                      have re1256 : REm V1224 bq (sL (nx (sN gs 3 1) 1) (100 + 32 * ((gs.2.1 2).length - 1) + 31) (cl gs + 1)) := REm.st re1252 (Or.inr (Or.inr rfl)) (show gc + 1 = 24 * bq + (gs.2.1 2).length from gcl) gcb (cM_31 hu1253) (show z1196.toInt = ((10000 * bq : Nat) : Int) + ((cl gs : Nat) : Int) from by have h8 : cl gs = cl gs := rfl; omega) (fun _ _ => rfl) rfl
                      have re1257 : REm V1231 bq (sL (nx (sN gs 3 1) 1) (100 + 32 * ((gs.2.1 2).length - 1) + 31) (cl gs + 1)) := REm.ag re1256 (show agr [(0, 7), (0, 8)] [] V1224 V1231 from (agr.tr agr.rf ajV1231 (by decide) (by decide))) (fun _ => ⟨rfl, rfl, rfl⟩) keepE.rf rfl
                      have re1258 : REm V1231 bq (nx sx1215 1) := REm.mv re1257 (fun _ _ _ _ => rfl) (keepE.tr (keepE.tr (keepE.rf : keepE (sL (nx (sN gs 3 1) 1) (100 + 32 * ((gs.2.1 2).length - 1) + 31) (cl gs + 1)) (sL (nx (sN gs 3 1) 1) (100 + 32 * ((gs.2.1 2).length - 1) + 31) (cl gs + 1))) ke1219) (show keepE sx1215 (nx sx1215 1) from keepE.eq (show ∀ j9, 5 ≤ j9 → (nx sx1215 1).2.1 j9 = sx1215.2.1 j9 from fun _ _ => rfl))) (((show keepS sx1215 1 (nx sx1215 1) from (keepS.n1 1)).2.2.1 2 (by decide)).trans (((show keepS (sL (nx (sN gs 3 1) 1) (100 + 32 * ((gs.2.1 2).length - 1) + 31) (cl gs + 1)) 1 sx1215 from kp1218).2.2.1 2 (by decide)).trans (rfl : (sL (nx (sN gs 3 1) 1) (100 + 32 * ((gs.2.1 2).length - 1) + 31) (cl gs + 1)).2.1 2 = (sL (nx (sN gs 3 1) 1) (100 + 32 * ((gs.2.1 2).length - 1) + 31) (cl gs + 1)).2.1 2)))
                      have wm1259 : WMm V1231 bq gs := WMm.ag cem.2.2 (show agr [(0, 7), (0, 8), (0, 48), (0, 50)] [33, 35, 36, 37, 38, 45, 46, 47] V V1231 from (agr.tr (agr.up (agr.tr (agr.tr (agr.tr agr.rf ajV795 (by decide) (by decide)) ajV1173 (by decide) (by decide)) ajV1208 (by decide) (by decide)) hV1224 rfl) ajV1231 (by decide) (by decide))) (fun _ => ⟨rfl, rfl, rfl, rfl, rfl⟩) (fun _ _ _ => rfl) rfl
                      have wm1260 : WMm V1231 bq (nx (sN gs 3 1) 1) := WMm.mv wm1259 (fun _ _ _ _ _ => rfl) ((keepE.tr (keepE.tr (keepE.rf : keepE gs gs) (show keepE gs (nx gs 1) from keepE.eq (show ∀ j9, 5 ≤ j9 → (nx gs 1).2.1 j9 = gs.2.1 j9 from fun _ _ => rfl))) (show keepE (nx gs 1) (nx (sN gs 3 1) 1) from keepE.eq (show ∀ j9, 5 ≤ j9 → (nx (sN gs 3 1) 1).2.1 j9 = (nx gs 1).2.1 j9 from fun _ _ => rfl)))).k9 ((rfl : (nx (sN gs 3 1) 1).2.2.1 = (nx gs 1).2.2.1).trans ((congrArg (fun q9 : List (Nat × Bool) × List Nat => q9.1) (show keepS gs 1 (nx gs 1) from (keepS.n1 1)).2.2.2).trans (rfl : gs.2.2.1 = gs.2.2.1)))
                      have wm1261 : WMm V1231 bq (sL (nx (sN gs 3 1) 1) (100 + 32 * ((gs.2.1 2).length - 1) + 31) (cl gs + 1)) := WMm.mv wm1260 (fun _ _ _ _ _ => rfl) (sL_k9 (by have h9 := cem.2.1.1; omega)) rfl
                      have wm1262 : WMm V1231 bq (nx sx1215 1) := WMm.mv wm1261 (fun _ _ _ _ _ => rfl) ((keepE.tr (keepE.tr (keepE.rf : keepE (sL (nx (sN gs 3 1) 1) (100 + 32 * ((gs.2.1 2).length - 1) + 31) (cl gs + 1)) (sL (nx (sN gs 3 1) 1) (100 + 32 * ((gs.2.1 2).length - 1) + 31) (cl gs + 1))) ke1219) (show keepE sx1215 (nx sx1215 1) from keepE.eq (show ∀ j9, 5 ≤ j9 → (nx sx1215 1).2.1 j9 = sx1215.2.1 j9 from fun _ _ => rfl)))).k9 ((congrArg (fun q9 : List (Nat × Bool) × List Nat => q9.1) (show keepS sx1215 1 (nx sx1215 1) from (keepS.n1 1)).2.2.2).trans ((congrArg (fun q9 : List (Nat × Bool) × List Nat => q9.1) (show keepS (sL (nx (sN gs 3 1) 1) (100 + 32 * ((gs.2.1 2).length - 1) + 31) (cl gs + 1)) 1 sx1215 from kp1218).2.2.2).trans (rfl : (sL (nx (sN gs 3 1) 1) (100 + 32 * ((gs.2.1 2).length - 1) + 31) (cl gs + 1)).2.2.1 = (sL (nx (sN gs 3 1) 1) (100 + 32 * ((gs.2.1 2).length - 1) + 31) (cl gs + 1)).2.2.1)))
                      have rw1263 : RoV 35 bq V V1231 := (fun k hk => ((ajV1231 35 k rfl).trans ((up2_o hV1224 (by decide)).trans ((t1204 k hk).trans ((ajV1173 35 k rfl).trans ((ajV795 35 k rfl).trans rfl))))))
                      have rw1264 : RoV 37 bq V V1231 := (fun k hk => ((ajV1231 37 k rfl).trans ((up2_o hV1224 (by decide)).trans ((t1205 k hk).trans ((ajV1173 37 k rfl).trans ((ajV795 37 k rfl).trans rfl))))))
                      have rw1265 : RoL 36 20 bq L L1209 := (fun k hk => ((t1206 k hk).trans rfl))
                      have rw1266 : RoL 38 20 bq L L1209 := (fun k hk => ((t1207 k hk).trans rfl))
                      exact W.vret hx hb hr (fun t ht hW => ⟨⟨(V1231, L1209), rfl, ⟨hMV1231, agV1231, alL1209, (Imp.mk (fun hp => have hp : (V1231 0 8).toInt = 0 := hp; (show (V1231 0 48).toInt ≤ 2 * (V1231 0 7).toInt from by first | omega | ((try (have i_t1199 := Imp.go t1199 (by omega))); omega)))), (show (V1231 0 48).toInt ≤ 8120 from by first | exact om_bb58a60fcee7 t1200 pq1241 | first | omega | ((try (have i_t1199 := Imp.go t1199 (by omega))); omega)), (Or.inl ⟨W0 rl1235, (nx sx1215 1), hr1237, rl1235, (by omega), (OWm.cl ow (keepS.tr (keepS.tr (keepS.tr (keepS.rf : keepS (nx (sN gs 3 1) 1) 0 (nx (sN gs 3 1) 1)) (show keepS (nx (sN gs 3 1) 1) 0 (sL (nx (sN gs 3 1) 1) (100 + 32 * ((gs.2.1 2).length - 1) + 31) (cl gs + 1)) from keepS.gl (by omega))) kp1218) (keepS.n1 1)) (Rc.ml (hr1237 [])) (show V1231 27 gc = V 27 gc from ((ajV1231 27 _ rfl).trans ((up2_o hV1224 (by decide)).trans ((ajV1208 27 _ rfl).trans ((ajV1173 27 _ rfl).trans ((ajV795 27 _ rfl).trans rfl)))))) (show V1231 32 gc = V 32 gc from ((ajV1231 32 _ rfl).trans ((up2_o hV1224 (by decide)).trans ((ajV1208 32 _ rfl).trans ((ajV1173 32 _ rfl).trans ((ajV795 32 _ rfl).trans rfl)))))) cs1247 (fun f hf => ((show agr [(0, 7), (0, 8), (0, 48), (0, 50)] [33, 35, 36, 37, 38, 45, 46, 47] V V1231 from (agr.tr (agr.up (agr.tr (agr.tr (agr.tr agr.rf ajV795 (by decide) (by decide)) ajV1173 (by decide) (by decide)) ajV1208 (by decide) (by decide)) hV1224 rfl) ajV1231 (by decide) (by decide))) 34 _ rfl))), ((((keepS.n1 1)).2.2.1 2 (by decide)).trans (((kp1218).2.2.1 2 (by decide)).trans ((((show keepS (nx (sN gs 3 1) 1) 0 (sL (nx (sN gs 3 1) 1) (100 + 32 * ((gs.2.1 2).length - 1) + 31) (cl gs + 1)) from keepS.gl (by omega))).2.2.1 2 (by decide)).trans ((rfl : (nx (sN gs 3 1) 1).2.1 2 = (nx gs 1).2.1 2).trans ((((keepS.n1 1)).2.2.1 2 (by decide)).trans (rfl : gs.2.1 2 = gs.2.1 2)))))), ((congrArg (fun q9 => q9.1) ((keepS.n1 1)).2.2.2).trans ((congrArg (fun q9 => q9.1) (kp1218).2.2.2).trans ((congrArg (fun q9 => q9.1) ((show keepS (nx (sN gs 3 1) 1) 0 (sL (nx (sN gs 3 1) 1) (100 + 32 * ((gs.2.1 2).length - 1) + 31) (cl gs + 1)) from keepS.gl (by omega))).2.2.2).trans ((rfl : (nx (sN gs 3 1) 1).2.2.1 = (nx gs 1).2.2.1).trans ((congrArg (fun q9 => q9.1) ((keepS.n1 1)).2.2.2).trans (rfl : gs.2.2.1 = gs.2.2.1)))))), cn1249, ⟨cd1251, re1258, wm1262⟩⟩), rw1263, rw1264, rw1265, rw1266⟩, by rw [ht]; exact hP, va_K.moved hW.alike hK, hD⟩, hS.F ht⟩) hS.2.2 dX12_member_193
                    · skip
                      have kd1267 : gT.1 (sx1215.1 0) ≠ 59 := fun h9 => h1234 (h9.trans (by decide))
                      have hb1268 : ∀ k, Rc gT (Crun gs (Imember :: k)) (Cbad (V1231 0 8).toInt) := fun k => Rc.go1 (hr1221 k) ((tk_n kd1267).trans (fl_eq rfl rl1235))
                      have r1269 : 0 ≤ ((V1231 0 8)).toInt ∧ ((V1231 0 8)).toInt ≤ 70000 := hMV1231 0 8
                      have pq1270 : (V1231 0 48).toInt = ((V1208 0 48)).toInt := congrArg Int32.toInt ((ajV1231 0 48 rfl).trans (up2_o hV1224 (by decide)))
                      have rw1271 : RoV 35 bq V V1231 := (fun k hk => ((ajV1231 35 k rfl).trans ((up2_o hV1224 (by decide)).trans ((t1204 k hk).trans ((ajV1173 35 k rfl).trans ((ajV795 35 k rfl).trans rfl))))))
                      have rw1272 : RoV 37 bq V V1231 := (fun k hk => ((ajV1231 37 k rfl).trans ((up2_o hV1224 (by decide)).trans ((t1205 k hk).trans ((ajV1173 37 k rfl).trans ((ajV795 37 k rfl).trans rfl))))))
                      have rw1273 : RoL 36 20 bq L L1209 := (fun k hk => ((t1206 k hk).trans rfl))
                      have rw1274 : RoL 38 20 bq L L1209 := (fun k hk => ((t1207 k hk).trans rfl))
                      exact W.vret hx hb hr (fun t ht hW => ⟨⟨(V1231, L1209), rfl, ⟨hMV1231, agV1231, alL1209, (Imp.mk (fun hp => have hp : (V1231 0 8).toInt = 0 := hp; (show (V1231 0 48).toInt ≤ 2 * (V1231 0 7).toInt from by first | omega | ((try (have i_t1199 := Imp.go t1199 (by omega))); omega)))), (show (V1231 0 48).toInt ≤ 8120 from by first | exact om_bb58a60fcee7 t1200 pq1270 | first | omega | ((try (have i_t1199 := Imp.go t1199 (by omega))); omega)), (Or.inr ⟨(show 1 ≤ (V1231 0 8).toInt from by (first | exact om_f8d8213eda45 q1233 | omega)), hb1268⟩), rw1271, rw1272, rw1273, rw1274⟩, by rw [ht]; exact hP, va_K.moved hW.alike hK, hD⟩, hS.F ht⟩) hS.2.2 dX12_member_193
                  · skip
                    have hb1275 : ∀ k, Rc gT (Crun gs (Imember :: k)) (Cbad (V1208 0 8).toInt) := fun k => (hr1180 k).tr (h1216 (Itake 59 :: Imember :: k))
                    refine va_iast (D := D) (i := p0) (x := z1196) hx hb hK hP hD hS 26 25 rfl rfl (i_in (a := p0.toInt) rfl (by first | exact om_6e0fb57f3b24 pgc ic gcb r1.2 | first | omega | ((try (have i_t1199 := Imp.go t1199 (by omega))); omega))) dX12_member_95 (fun H locs hP hD hS => ?_)
                    obtain ⟨V1276, hV1276⟩ : ∃ z, z = up2 V1208 33 (Int32.toNatClampNeg p0) z1196 := ⟨_, rfl⟩
                    have hP : va_P D vwCl (mw ad kk ks.1 V1276 L1209) H := by rw [hV1276]; exact hP
                    have hD : va_D A (mw ad kk ks.1 V1276 L1209) := by rw [hV1276]; exact hD
                    have hMV1276 : rgd bM V1276 := hMV1208.put hV1276 (i_full _)
                    have agV1276 : agr [(0, 7), (0, 8), (0, 48), (0, 50)] [27, 28, 29, 30, 31, 32, 33, 34, 35, 36, 37, 38, 45, 46, 47] V V1276 := agV1208.up hV1276 rfl
                    refine lv_goto (tgt := 187) hx hb dX12_member_96 (by decide) ?_
                    refine lv_aload_n hx hb dX12_member_187 rfl (lv_at hl 0 rfl) ?_
                    refine lv_bipush (v := 59) hx hb dX12_member_188 (by decide) ?_
                    have r1277 : Int32.toInt 59 = 59 := by decide
                    have pq1278 : (V1276 0 8).toInt = ((V1208 0 8)).toInt := congrArg Int32.toInt (up2_o hV1276 (by decide))
                    refine gA_void (gA_runV (As := [.int 59]) (rest := []) (ci := 12) (q0 := 0) hx hb hml hown hg hP hD hK hS hA hnw hgk (s_takeSignB l D ks H.size ad kk V1276 L1209 59 hMV1276 (show 1 ≤ (V1276 0 8).toInt from by first | omega | ((try (have i_t1199 := Imp.go t1199 (by omega))); omega))) w2075 w2077 w96 w172 w2078 rfl rfl hdV_yX12_takeSign ⟨Nat.le_of_ble_eq_true rfl, Nat.le_of_ble_eq_true rfl⟩ rfl hl.1 rfl (Nat.le_of_ble_eq_true rfl) dX12_member_190 ⟨Nat.le_of_ble_eq_true rfl, Nat.le_of_ble_eq_true rfl⟩) hP hD hK hS hA (fun u1280 H locs w1281 hP hD hK hS => ?_)
                    obtain ⟨V1283, L1284⟩ := u1280
                    obtain ⟨hMV1283, ajV1283, axL1284, t1282⟩ := w1281
                    have axL1284 : L1209 = L1284 := Eq.symm axL1284
                    subst axL1284
                    replace hP : va_P D vwCl (mw ad kk ks.1 V1283 L1209) H := hP
                    replace hD : va_D A (mw ad kk ks.1 V1283 L1209) := hD
                    replace hMV1283 : rgd bM V1283 := hMV1283
                    replace ajV1283 : agr [(0, 7), (0, 8)] [] V1276 V1283 := ajV1283
                    have agV1283 : agr [(0, 7), (0, 8), (0, 48), (0, 50)] [27, 28, 29, 30, 31, 32, 33, 34, 35, 36, 37, 38, 45, 46, 47] V V1283 := agV1276.tr ajV1283 (by decide) (by decide)
                    replace t1282 : (V1283 0 8).toInt = (V1276 0 8).toInt := t1282
                    have r1285 : 0 ≤ ((V1283 0 8)).toInt ∧ ((V1283 0 8)).toInt ≤ 70000 := hMV1283 0 8
                    have pq1286 : (V1283 0 48).toInt = ((V1208 0 48)).toInt := congrArg Int32.toInt ((ajV1283 0 48 rfl).trans (up2_o hV1276 (by decide)))
                    have rw1287 : RoV 35 bq V V1283 := (fun k hk => ((ajV1283 35 k rfl).trans ((up2_o hV1276 (by decide)).trans ((t1204 k hk).trans ((ajV1173 35 k rfl).trans ((ajV795 35 k rfl).trans rfl))))))
                    have rw1288 : RoV 37 bq V V1283 := (fun k hk => ((ajV1283 37 k rfl).trans ((up2_o hV1276 (by decide)).trans ((t1205 k hk).trans ((ajV1173 37 k rfl).trans ((ajV795 37 k rfl).trans rfl))))))
                    have rw1289 : RoL 36 20 bq L L1209 := (fun k hk => ((t1206 k hk).trans rfl))
                    have rw1290 : RoL 38 20 bq L L1209 := (fun k hk => ((t1207 k hk).trans rfl))
                    exact W.vret hx hb hr (fun t ht hW => ⟨⟨(V1283, L1209), rfl, ⟨hMV1283, agV1283, alL1209, (Imp.mk (fun hp => have hp : (V1283 0 8).toInt = 0 := hp; (show (V1283 0 48).toInt ≤ 2 * (V1283 0 7).toInt from by first | omega | ((try (have i_t1199 := Imp.go t1199 (by omega))); omega)))), (show (V1283 0 48).toInt ≤ 8120 from by first | exact om_bb58a60fcee7 t1200 pq1286 | first | omega | ((try (have i_t1199 := Imp.go t1199 (by omega))); omega)), (Or.inr ⟨(show 1 ≤ (V1283 0 8).toInt from by omega), (fun k => by rw [show (V1283 0 8).toInt = (V1208 0 8).toInt from by omega]; exact hb1275 k)⟩), rw1287, rw1288, rw1289, rw1290⟩, by rw [ht]; exact hP, va_K.moved hW.alike hK, hD⟩, hS.F ht⟩) hS.2.2 dX12_member_193
              · skip
                have kd1291 : gT.1 (gs.1 0) ≠ 141 := fun h9 => h1176 (h9.trans (by decide))
                have fz1292 := RelM.rg rl1177
                have pq1293 : (V1173 0 8).toInt = ((V 0 8)).toInt := congrArg Int32.toInt ((ajV1173 0 8 rfl).trans (ajV795 0 8 rfl))
                refine lv_if_eq (tgt := 99) hx hb dX12_member_83 (by decide) (fun c1294 => ?_) (fun c1294 => ?_)
                · skip
                  have f1295 : z1169.toInt = 0 := b_eq rfl (by decide) c1294
                  refine lv_aload_n hx hb dX12_member_99 rfl (lv_at hl 0 rfl) ?_
                  refine lv_bipush (v := 14) hx hb dX12_member_100 (by decide) ?_
                  have r1296 : Int32.toInt 14 = 14 := by decide
                  refine gA_int (gA_runV (As := [.int 14]) (rest := []) (ci := 12) (q0 := 0) hx hb hml hown hg hP hD hK hS hA hnw hgk (s_hasWordA l D ks H.size ad kk V1173 L 14 (bq) (gn) (gT) (gs) (gl) hMV1173 (by decide) rl1177) w2051 w2053 w90 w172 w2054 rfl rfl hdV_yX12_hasWord ⟨Nat.le_of_ble_eq_true rfl, Nat.le_of_ble_eq_true rfl⟩ rfl hl.1 rfl (Nat.le_of_ble_eq_true rfl) dX12_member_102 ⟨Nat.le_of_ble_eq_true rfl, Nat.le_of_ble_eq_true rfl⟩) hP hD hK hS hA (fun z1297 u1298 H locs w1299 hP hD hK hS => ?_)
                  obtain ⟨V1301, L1302⟩ := u1298
                  obtain ⟨hMV1301, ajV1301, axL1302, rgz1297, t1300⟩ := w1299
                  have axL1302 : L = L1302 := Eq.symm axL1302
                  subst axL1302
                  replace hP : va_P D vwCl (mw ad kk ks.1 V1301 L) H := hP
                  replace hD : va_D A (mw ad kk ks.1 V1301 L) := hD
                  replace hMV1301 : rgd bM V1301 := hMV1301
                  replace ajV1301 : agr [(0, 7)] [] V1173 V1301 := ajV1301
                  have agV1301 : agr [(0, 7), (0, 8), (0, 48), (0, 50)] [27, 28, 29, 30, 31, 32, 33, 34, 35, 36, 37, 38, 45, 46, 47] V V1301 := agV1173.tr ajV1301 (by decide) (by decide)
                  replace rgz1297 : 0 ≤ z1297.toInt ∧ z1297.toInt ≤ 1 := rgz1297
                  replace t1300 : (z1297.toInt = 1 ∧ (gT).1 ((gs).1 0) = 128 + (Int32.toInt 14) ∧ RelM V1301 L (bq) (gn) (gT) (nx (gs) 1) (gl)) ∨ (z1297.toInt = 0 ∧ (gT).1 ((gs).1 0) ≠ 128 + (Int32.toInt 14) ∧ RelM V1301 L (bq) (gn) (gT) (gs) (gl)) := t1300
                  rcases t1300 with ⟨q1303, h1304, rl1305⟩ | ⟨q1303, h1304, rl1305⟩
                  · skip
                    have kd1306 : gT.1 (gs.1 0) = 142 := h1304.trans (by decide)
                    have hr1307 : ∀ k, Rc gT (Crun gs (Imember :: k)) (Crun gs (Imember :: k)) := fun k => Rc.rf
                    have hr1308 : ∀ k, Rc gT (Crun gs (Imember :: k)) (Crun (nx gs 1) (ImethN :: Iexpr 0 :: Iem 0 :: Itake 59 :: Imember :: k)) := fun k => Rc.go1 (hr1307 k) (mb_142 kd1306)
                    have ps1309 : (nx gs 1).1 0 = gs.1 0 + 1 := rfl
                    have fz1310 := RelM.rg rl1305
                    have pq1311 : (V1301 0 8).toInt = ((V 0 8)).toInt := congrArg Int32.toInt ((ajV1301 0 8 rfl).trans ((ajV1173 0 8 rfl).trans (ajV795 0 8 rfl)))
                    refine lv_if_eq (tgt := 182) hx hb dX12_member_105 (by decide) (fun c1312 => ?_) (fun c1312 => ?_)
                    · skip
                      have f1313 : z1297.toInt = 0 := b_eq rfl (by decide) c1312
                      exfalso; (first | exact om_495ee03a60ae q1303 f1313 | omega)
                    · skip
                      have f1314 : z1297.toInt ≠ 0 := b_neq rfl (by decide) c1312
                      refine lv_aload_n hx hb dX12_member_108 rfl (lv_at hl 0 rfl) ?_
                      refine lv_aload_n hx hb dX12_member_109 rfl (lv_at hl 0 rfl) ?_
                      refine va_get (D := D) (ci := 12) (v := .ref (ad 36)) (C := RX12) (T := TX12) (N := 100) hx hb hg inX12 hown hK hP 0 rfl rfl 36 (by decide) (hg _ w1742) (fun _ h9 => h9) rfl dX12_member_110 ?_
                      refine lv_aload_n hx hb dX12_member_113 rfl (lv_at hl 0 rfl) ?_
                      refine va_get (D := D) (ci := 12) (v := .ref (ad 35)) (C := RX12) (T := TX12) (N := 100) hx hb hg inX12 hown hK hP 0 rfl rfl 35 (by decide) (hg _ w1741) (fun _ h9 => h9) rfl dX12_member_114 ?_
                      refine gA_int (gA_runV (As := [.ref (ad 36), .ref (ad 35)]) (rest := []) (ci := 12) (q0 := 0) hx hb hml hown hg hP hD hK hS hA hnw hgk (s_takeWordOf3 l D ks H.size ad kk V1301 L (bq) (gn) (gT) ((nx gs 1)) (gl) hMV1301 rl1305) w2100 w2102 w102 w172 w2103 rfl rfl hdV_yX12_takeWordOf ⟨Nat.le_of_ble_eq_true rfl, Nat.le_of_ble_eq_true rfl⟩ rfl hl.1 rfl (Nat.le_of_ble_eq_true rfl) dX12_member_117 ⟨Nat.le_of_ble_eq_true rfl, Nat.le_of_ble_eq_true rfl⟩) hP hD hK hS hA (fun z1315 u1316 H locs w1317 hP hD hK hS => ?_)
                      obtain ⟨V1323, L1324⟩ := u1316
                      obtain ⟨hMV1323, ajV1323, axL1324, rgz1315, t1318, t1319, t1320, t1321, t1322⟩ := w1317
                      have alL1324 : agL [27, 28, 29, 30, 31, 32, 33, 34, 35, 36, 37, 38, 45, 46, 47] L L1324 := agL.tr alL axL1324 (by decide)
                      replace hP : va_P D vwCl (mw ad kk ks.1 V1323 L1324) H := hP
                      replace hD : va_D A (mw ad kk ks.1 V1323 L1324) := hD
                      replace hMV1323 : rgd bM V1323 := hMV1323
                      replace ajV1323 : agr [(0, 7), (0, 8)] [35, 36, 37, 38] V1301 V1323 := ajV1323
                      have agV1323 : agr [(0, 7), (0, 8), (0, 48), (0, 50)] [27, 28, 29, 30, 31, 32, 33, 34, 35, 36, 37, 38, 45, 46, 47] V V1323 := agV1301.tr ajV1323 (by decide) (by decide)
                      replace rgz1315 : (-1) ≤ z1315.toInt ∧ z1315.toInt ≤ 19 := rgz1315
                      replace t1318 : KmS (mthW (gT) ((nx gs 1)) 3) (V1323 0 8).toInt (fun x9 => RelM V1323 L1324 (bq) (gn) (gT) x9.2 (gl) ∧ z1315.toInt = ((x9.1 : Nat) : Int) ∧ x9.1 < 20 ∧ keepS ((nx gs 1)) 1 x9.2 ∧ MTX (gT) ((nx gs 1)) 3 x9) := t1318
                      replace t1319 : RoV 35 (bq) V1301 V1323 := t1319
                      replace t1320 : RoV 37 (bq) V1301 V1323 := t1320
                      replace t1321 : RoL 36 20 (bq) L L1324 := t1321
                      replace t1322 : RoL 38 20 (bq) L L1324 := t1322
                      rcases t1318 with ⟨q1325, mx1326, h1327, rl1328, hf1329, hb1330, kp1331, mt1332⟩ | ⟨q1325, h1327⟩
                      · skip
                        have ps1333 := kp1331.1
                        have fz1334 := RelM.rg rl1328
                        have r1335 : 0 ≤ ((V1323 0 8)).toInt ∧ ((V1323 0 8)).toInt ≤ 70000 := hMV1323 0 8
                        refine lv_istore_n (lv' := [(2, .int z1315), (0, .ref (ad 0)), (1, .int p0)]) hx hb dX12_member_120 rfl hl (by decide) rfl (fun ls hl => ?_)
                        refine lv_aload_n hx hb dX12_member_121 rfl (lv_at hl 1 rfl) ?_
                        refine va_get (D := D) (ci := 12) (v := .int (V1323 0 8)) (C := RX12) (T := TX12) (N := 100) hx hb hg inX12 hown hK hP 0 rfl rfl 8 (by decide) (hg _ w1714) (fun _ h9 => h9) rfl dX12_member_122 ?_
                        refine lv_if_ne (tgt := 157) hx hb dX12_member_125 (by decide) (fun c1336 => ?_) (fun c1336 => ?_)
                        · skip
                          have f1337 : ((V1323 0 8)).toInt ≠ 0 := b_neq rfl (by decide) c1336
                          exfalso; omega
                        · skip
                          have f1338 : ((V1323 0 8)).toInt = 0 := b_eq rfl (by decide) c1336
                          refine lv_aload_n hx hb dX12_member_128 rfl (lv_at hl 1 rfl) ?_
                          refine va_get (D := D) (ci := 12) (v := .ref (ad 34)) (C := RX12) (T := TX12) (N := 100) hx hb hg inX12 hown hK hP 0 rfl rfl 34 (by decide) (hg _ w1740) (fun _ h9 => h9) rfl dX12_member_129 ?_
                          refine lv_bipush (v := 20) hx hb dX12_member_132 (by decide) ?_
                          refine lv_iload_n hx hb dX12_member_134 rfl (lv_at hl 2 rfl) ?_
                          refine lv_imul hx hb dX12_member_135 ?_
                          refine lv_topi (fun z1339 ez1339 => ?_)
                          have hz1339 : z1339.toInt = 20 * p0.toInt := i_mul ez1339 (by decide) rfl (by (first | exact om_add9820b4ee0 rg_p0.2 pgc gcb | omega))
                          refine lv_iload_n hx hb dX12_member_136 rfl (lv_at hl 0 rfl) ?_
                          refine lv_iadd hx hb dX12_member_137 ?_
                          refine lv_topi (fun z1340 ez1340 => ?_)
                          have hz1340 : z1340.toInt = z1339.toInt + z1315.toInt := i_add ez1340 rfl rfl (by (first | exact om_85e70de82a4a rg_p0.2 pgc gcb rgz1315.1 rgz1315.2 hz1339 | omega))
                          refine va_iald (D := D) (i := z1340) hx hb hK hP 27 26 rfl rfl (i_in (a := z1340.toInt) rfl (by omega)) dX12_member_138 ?_
                          refine g_top (v := (V 34 (Int32.toNatClampNeg z1340))) ((ajV1323 34 (Int32.toNatClampNeg z1340) rfl).trans ((ajV1301 34 (Int32.toNatClampNeg z1340) rfl).trans ((ajV1173 34 (Int32.toNatClampNeg z1340) rfl).trans (ajV795 34 (Int32.toNatClampNeg z1340) rfl)))) ?_
                          have kc1342 : Int32.toNatClampNeg z1340 = 20 * gc + mx1326.1 := by have h9 := i_clamp (x := z1340) rfl (by omega); omega
                          have ma1341 : (V 34 (Int32.toNatClampNeg z1340)).toInt = (V 34 (20 * gc + mx1326.1)).toInt := by rw [kc1342]
                          have ow5 := ow.2.2.2.2.1 mx1326.1 hb1330
                          have oS : (nx gs 1).2.2.2 = gs.2.2.2 := congrArg (fun q9 => q9.2) ((keepS.tr (keepS.rf : keepS gs 0 gs) (keepS.n1 1))).2.2.2
                          have oL : (nx gs 1).2.1 3 = gs.2.1 3 := rfl
                          refine lv_if_lt (tgt := 157) hx hb dX12_member_139 (by decide) (fun c1343 => ?_) (fun c1343 => ?_)
                          · skip
                            have f1344 : ((V 34 (Int32.toNatClampNeg z1340))).toInt < 0 := b_lt rfl (by decide) c1343
                            refine lv_aload_n hx hb dX12_member_157 rfl (lv_at hl 1 rfl) ?_
                            refine va_get (D := D) (ci := 12) (v := .int (V1323 0 8)) (C := RX12) (T := TX12) (N := 100) hx hb hg inX12 hown hK hP 0 rfl rfl 8 (by decide) (hg _ w1714) (fun _ h9 => h9) rfl dX12_member_158 ?_
                            refine lv_if_ne (tgt := 179) hx hb dX12_member_161 (by decide) (fun c1345 => ?_) (fun c1345 => ?_)
                            · skip
                              have f1346 : ((V1323 0 8)).toInt ≠ 0 := b_neq rfl (by decide) c1345
                              exfalso; (first | exact om_fb320d7600b7 r1335.1 f1338 f1346 | omega)
                            · skip
                              have f1347 : ((V1323 0 8)).toInt = 0 := b_eq rfl (by decide) c1345
                              have nt9 : mx1326.1 ∉ (nx gs 1).2.2.2 := by rw [oS]; exact fun q9 => absurd (ow5.mpr q9) (by omega)
                              have hr1348 : ∀ k, Rc gT (Crun gs (Imember :: k)) (Crun (sL (sT mx1326.2 (mx1326.1 :: (nx gs 1).2.2.2)) (100 + 32 * (((nx gs 1).2.1 2).length - 1) + mx1326.1) (cl (nx gs 1) + 1)) (Iexpr 0 :: Iem 0 :: Itake 59 :: Imember :: k)) := fun k => Rc.go1 (hr1308 k) (mn_y (MTX.new mt1332 h1327 nt9))
                              have ps1349 : (sT mx1326.2 (mx1326.1 :: (nx gs 1).2.2.2)).1 0 = mx1326.2.1 0 := rfl
                              have rl1350 : RelM V1323 L1324 bq gn gT (sT mx1326.2 (mx1326.1 :: (nx gs 1).2.2.2)) gl := RelM.tl rl1328
                              have rl1351 : RelM V1323 L1324 bq gn gT (sL (sT mx1326.2 (mx1326.1 :: (nx gs 1).2.2.2)) (100 + 32 * (((nx gs 1).2.1 2).length - 1) + mx1326.1) (cl (nx gs 1) + 1)) gl := RelM.gl rl1350 (by omega)
                              have ps1352 : (sL (sT mx1326.2 (mx1326.1 :: (nx gs 1).2.2.2)) (100 + 32 * (((nx gs 1).2.1 2).length - 1) + mx1326.1) (cl (nx gs 1) + 1)).1 0 = (sT mx1326.2 (mx1326.1 :: (nx gs 1).2.2.2)).1 0 := rfl
                              refine lv_aload_n hx hb dX12_member_164 rfl (lv_at hl 1 rfl) ?_
                              refine va_get (D := D) (ci := 12) (v := .ref (ad 34)) (C := RX12) (T := TX12) (N := 100) hx hb hg inX12 hown hK hP 0 rfl rfl 34 (by decide) (hg _ w1740) (fun _ h9 => h9) rfl dX12_member_165 ?_
                              refine lv_bipush (v := 20) hx hb dX12_member_168 (by decide) ?_
                              refine lv_iload_n hx hb dX12_member_170 rfl (lv_at hl 2 rfl) ?_
                              refine lv_imul hx hb dX12_member_171 ?_
                              refine lv_topi (fun z1353 ez1353 => ?_)
                              have hz1353 : z1353.toInt = 20 * p0.toInt := i_mul ez1353 (by decide) rfl (by (first | exact om_add9820b4ee0 rg_p0.2 pgc gcb | omega))
                              refine lv_iload_n hx hb dX12_member_172 rfl (lv_at hl 0 rfl) ?_
                              refine lv_iadd hx hb dX12_member_173 ?_
                              refine lv_topi (fun z1354 ez1354 => ?_)
                              have hz1354 : z1354.toInt = z1353.toInt + z1315.toInt := i_add ez1354 rfl rfl (by (first | exact om_85e70de82a4a rg_p0.2 pgc gcb rgz1315.1 rgz1315.2 hz1353 | omega))
                              refine lv_aload_n hx hb dX12_member_174 rfl (lv_at hl 1 rfl) ?_
                              have pq1355 : (V1323 0 48).toInt = ((V 0 48)).toInt := congrArg Int32.toInt ((ajV1323 0 48 rfl).trans ((ajV1301 0 48 rfl).trans ((ajV1173 0 48 rfl).trans (ajV795 0 48 rfl))))
                              have pq1356 : (V1323 0 51).toInt = ((V 0 51)).toInt := congrArg Int32.toInt ((ajV1323 0 51 rfl).trans ((ajV1301 0 51 rfl).trans ((ajV1173 0 51 rfl).trans (ajV795 0 51 rfl))))
                              have pq1357 : (V1323 0 52).toInt = ((V 0 52)).toInt := congrArg Int32.toInt ((ajV1323 0 52 rfl).trans ((ajV1301 0 52 rfl).trans ((ajV1173 0 52 rfl).trans (ajV795 0 52 rfl))))
                              have cd1358 : CDm V1323 (10000 * bq) gs := CDm.ag cem.1 (show agr [(0, 7), (0, 8)] [35, 36, 37, 38] V V1323 from (agr.tr (agr.tr (agr.tr (agr.tr agr.rf ajV795 (by decide) (by decide)) ajV1173 (by decide) (by decide)) ajV1301 (by decide) (by decide)) ajV1323 (by decide) (by decide))) ⟨rfl, rfl, fun _ => ⟨rfl, rfl, rfl⟩⟩
                              have cd1359 : CDm V1323 (10000 * bq) (sL (sT mx1326.2 (mx1326.1 :: (nx gs 1).2.2.2)) (100 + 32 * (((nx gs 1).2.1 2).length - 1) + mx1326.1) (cl (nx gs 1) + 1)) := CDm.mv cd1358 (fun j9 h9 => ((show ∀ j9, j9 = 5 ∨ 2000 ≤ j9 → (sL (sT mx1326.2 (mx1326.1 :: (nx gs 1).2.2.2)) (100 + 32 * (((nx gs 1).2.1 2).length - 1) + mx1326.1) (cl (nx gs 1) + 1)).2.1 j9 = (sT mx1326.2 (mx1326.1 :: (nx gs 1).2.2.2)).2.1 j9 from fun j9 h9 => sL_o _ _ (by have h9 := cem.2.1.1; have h8 : (nx gs 1).2.1 2 = gs.2.1 2 := rfl; rw [h8]; omega)) j9 h9).trans ((fun j9 h9 => ((show ∀ j9, j9 = 5 ∨ 2000 ≤ j9 → (sT mx1326.2 (mx1326.1 :: (nx gs 1).2.2.2)).2.1 j9 = mx1326.2.2.1 j9 from fun j9 h9 => (show ∀ j9, 5 ≤ j9 → (sT mx1326.2 (mx1326.1 :: (nx gs 1).2.2.2)).2.1 j9 = mx1326.2.2.1 j9 from fun _ _ => rfl) j9 (by omega)) j9 h9).trans ((fun j9 h9 => ((show ∀ j9, j9 = 5 ∨ 2000 ≤ j9 → mx1326.2.2.1 j9 = (nx gs 1).2.1 j9 from fun j9 h9 => (show ∀ j9, 5 ≤ j9 → mx1326.2.2.1 j9 = (nx gs 1).2.1 j9 from (mth_e (j0 := 3) (by decide) h1327)) j9 (by omega)) j9 h9).trans ((show ∀ j9, j9 = 5 ∨ 2000 ≤ j9 → (nx gs 1).2.1 j9 = gs.2.1 j9 from fun j9 h9 => (show ∀ j9, 5 ≤ j9 → (nx gs 1).2.1 j9 = gs.2.1 j9 from fun _ _ => rfl) j9 (by omega)) j9 h9)) j9 h9)) j9 h9))
                              refine gA_int (gA_runV (As := []) (rest := [.int z1354, .ref (ad 34)]) (ci := 12) (q0 := 0) hx hb hml hown hg hP hD hK hS hA hnw hgk (s_codeA l D ks H.size ad kk V1323 L1324 (bq) (gn) (gT) ((sL (sT mx1326.2 (mx1326.1 :: (nx gs 1).2.2.2)) (100 + 32 * (((nx gs 1).2.1 2).length - 1) + mx1326.1) (cl (nx gs 1) + 1))) (gl) hMV1323 rl1351 (show (V1323 0 48).toInt ≤ 2 * (V1323 0 7).toInt from by omega) (EM.o2 (o := gc) (show (V1323 27 gc).toInt = ((mx1326.2.1 1 : Nat) : Int) from by rw [(by rw [(funext (fun q => ajV1323 27 q rfl) : V1323 27 = V1301 27), (funext (fun q => ajV1301 27 q rfl) : V1301 27 = V1173 27), (funext (fun q => ajV1173 27 q rfl) : V1173 27 = V795 27), (funext (fun q => ajV795 27 q rfl) : V795 27 = V 27)] : V1323 27 = V 27)]; exact (by rw [((keepS.tr (keepS.tr (keepS.rf : keepS gs 0 gs) (keepS.n1 1)) kp1331)).2.1 1 (by decide)]; exact ow.1)) (show mx1326.2.1 4 = 0 from (by rw [((keepS.tr (keepS.tr (keepS.rf : keepS gs 0 gs) (keepS.n1 1)) kp1331)).2.1 4 (by decide)]; exact ow.2.2.2.1)) (by omega) (by omega)) cd1359) w2112 w2114 w105 w172 w2115 rfl rfl hdV_yX12_code ⟨Nat.le_of_ble_eq_true rfl, Nat.le_of_ble_eq_true rfl⟩ rfl hl.1 rfl (Nat.le_of_ble_eq_true rfl) dX12_member_175 ⟨Nat.le_of_ble_eq_true rfl, Nat.le_of_ble_eq_true rfl⟩) hP hD hK hS hA (fun z1360 u1361 H locs w1362 hP hD hK hS => ?_)
                              obtain ⟨V1372, L1373⟩ := u1361
                              obtain ⟨hMV1372, ajV1372, axL1373, rgz1360, t1363, t1364, t1365, t1366, t1367, t1368, t1369, t1370, t1371⟩ := w1362
                              have alL1373 : agL [27, 28, 29, 30, 31, 32, 33, 34, 35, 36, 37, 38, 45, 46, 47] L L1373 := agL.tr alL1324 axL1373 (by decide)
                              replace hP : va_P D vwCl (mw ad kk ks.1 V1372 L1373) H := hP
                              replace hD : va_D A (mw ad kk ks.1 V1372 L1373) := hD
                              replace hMV1372 : rgd bM V1372 := hMV1372
                              replace ajV1372 : agr [(0, 7), (0, 8), (0, 48), (0, 50)] [35, 36, 37, 38, 45, 46, 47] V1323 V1372 := ajV1372
                              have agV1372 : agr [(0, 7), (0, 8), (0, 48), (0, 50)] [27, 28, 29, 30, 31, 32, 33, 34, 35, 36, 37, 38, 45, 46, 47] V V1372 := agV1323.tr ajV1372 (by decide) (by decide)
                              replace rgz1360 : 0 ≤ z1360.toInt ∧ z1360.toInt ≤ 20000 := rgz1360
                              replace t1363 : Imp ((V1372 0 8).toInt = 0) ((V1372 0 48).toInt - (V1323 0 48).toInt ≤ 2 * ((V1372 0 7).toInt - (V1323 0 7).toInt) + 1) := t1363
                              replace t1364 : (V1372 0 48).toInt ≤ 8060 := t1364
                              replace t1365 : (V1323 0 48).toInt ≤ (V1372 0 48).toInt := t1365
                              replace t1366 : z1360.toInt = (V1323 0 49).toInt + (V1323 0 48).toInt := t1366
                              replace t1367 : RdM (gT) ((sL (sT mx1326.2 (mx1326.1 :: (nx gs 1).2.2.2)) (100 + 32 * (((nx gs 1).2.1 2).length - 1) + mx1326.1) (cl (nx gs 1) + 1))) (fun k => Iexpr 0 :: Iem 0 :: k) (fun k => k) (V1372 0 8).toInt (fun s9 => RelM V1372 L1373 (bq) (gn) (gT) s9 (gl) ∧ keepS ((sL (sT mx1326.2 (mx1326.1 :: (nx gs 1).2.2.2)) (100 + 32 * (((nx gs 1).2.1 2).length - 1) + mx1326.1) (cl (nx gs 1) + 1))) 1 s9 ∧ keepE ((sL (sT mx1326.2 (mx1326.1 :: (nx gs 1).2.2.2)) (100 + 32 * (((nx gs 1).2.1 2).length - 1) + mx1326.1) (cl (nx gs 1) + 1))) s9 ∧ CDm V1372 (10000 * (bq)) s9) := t1367
                              replace t1368 : RoV 35 (bq) V1323 V1372 := t1368
                              replace t1369 : RoV 37 (bq) V1323 V1372 := t1369
                              replace t1370 : RoL 36 20 (bq) L1324 L1373 := t1370
                              replace t1371 : RoL 38 20 (bq) L1324 L1373 := t1371
                              have r1374 : 0 ≤ ((V1372 0 48)).toInt ∧ ((V1372 0 48)).toInt ≤ 10000 := hMV1372 0 48
                              have r1375 : 0 ≤ ((V1372 0 8)).toInt ∧ ((V1372 0 8)).toInt ≤ 70000 := hMV1372 0 8
                              have pq1376 : (V1323 0 49).toInt = ((V 0 49)).toInt := congrArg Int32.toInt ((ajV1323 0 49 rfl).trans ((ajV1301 0 49 rfl).trans ((ajV1173 0 49 rfl).trans (ajV795 0 49 rfl))))
                              have r1377 : 0 ≤ ((V 0 49)).toInt ∧ ((V 0 49)).toInt ≤ 10000 := hMV 0 49
                              rcases t1367 with ⟨q1378, sx1379, h1380, rl1381, kp1382, ke1383, cd1384⟩ | ⟨q1378, h1380⟩
                              · skip
                                have hr1385 : ∀ k, Rc gT (Crun gs (Imember :: k)) (Crun sx1379 (Itake 59 :: Imember :: k)) := fun k => (hr1348 k).tr (h1380 (Itake 59 :: Imember :: k))
                                have fz1386 := RelM.rg rl1381
                                have ps1387 := (kp1382).1
                                refine va_iast (D := D) (i := z1354) (x := z1360) hx hb hK hP hD hS 27 26 rfl rfl (i_in (a := z1354.toInt) rfl (by first | omega | ((try (have i_t1363 := Imp.go t1363 (by omega))); omega))) dX12_member_178 (fun H locs hP hD hS => ?_)
                                obtain ⟨V1388, hV1388⟩ : ∃ z, z = up2 V1372 34 (Int32.toNatClampNeg z1354) z1360 := ⟨_, rfl⟩
                                have hP : va_P D vwCl (mw ad kk ks.1 V1388 L1373) H := by rw [hV1388]; exact hP
                                have hD : va_D A (mw ad kk ks.1 V1388 L1373) := by rw [hV1388]; exact hD
                                have hMV1388 : rgd bM V1388 := hMV1372.put hV1388 (i_full _)
                                have agV1388 : agr [(0, 7), (0, 8), (0, 48), (0, 50)] [27, 28, 29, 30, 31, 32, 33, 34, 35, 36, 37, 38, 45, 46, 47] V V1388 := agV1372.up hV1388 rfl
                                refine lv_goto (tgt := 187) hx hb dX12_member_179 (by decide) ?_
                                refine lv_aload_n hx hb dX12_member_187 rfl (lv_at hl 1 rfl) ?_
                                refine lv_bipush (v := 59) hx hb dX12_member_188 (by decide) ?_
                                have rl1389 : RelM V1388 L1373 bq gn gT sx1379 gl := RelM.ag rl1381 (show agr [] [34] V1372 V1388 from (agr.up agr.rf hV1388 rfl)) (by decide) (show agL [] L1373 L1373 from agL.rf) (by decide)
                                have r1390 : Int32.toInt 59 = 59 := by decide
                                refine gA_void (gA_runV (As := [.int 59]) (rest := []) (ci := 12) (q0 := 0) hx hb hml hown hg hP hD hK hS hA hnw hgk (s_takeSignA l D ks H.size ad kk V1388 L1373 59 (bq) (gn) (gT) (sx1379) (gl) hMV1388 rl1389 (sg_yes (j := 59) (by decide) (by decide) (by decide))) w2075 w2077 w96 w172 w2078 rfl rfl hdV_yX12_takeSign ⟨Nat.le_of_ble_eq_true rfl, Nat.le_of_ble_eq_true rfl⟩ rfl hl.1 rfl (Nat.le_of_ble_eq_true rfl) dX12_member_190 ⟨Nat.le_of_ble_eq_true rfl, Nat.le_of_ble_eq_true rfl⟩) hP hD hK hS hA (fun u1392 H locs w1393 hP hD hK hS => ?_)
                                obtain ⟨V1395, L1396⟩ := u1392
                                obtain ⟨hMV1395, ajV1395, axL1396, t1394⟩ := w1393
                                have axL1396 : L1373 = L1396 := Eq.symm axL1396
                                subst axL1396
                                replace hP : va_P D vwCl (mw ad kk ks.1 V1395 L1373) H := hP
                                replace hD : va_D A (mw ad kk ks.1 V1395 L1373) := hD
                                replace hMV1395 : rgd bM V1395 := hMV1395
                                replace ajV1395 : agr [(0, 7), (0, 8)] [] V1388 V1395 := ajV1395
                                have agV1395 : agr [(0, 7), (0, 8), (0, 48), (0, 50)] [27, 28, 29, 30, 31, 32, 33, 34, 35, 36, 37, 38, 45, 46, 47] V V1395 := agV1388.tr ajV1395 (by decide) (by decide)
                                replace t1394 : ((V1395 0 8).toInt = 0 ∧ (gT).1 ((sx1379).1 0) = (Int32.toInt 59) ∧ RelM V1395 L1373 (bq) (gn) (gT) (nx (sx1379) 1) (gl)) ∨ (1 ≤ (V1395 0 8).toInt ∧ (gT).1 ((sx1379).1 0) ≠ (Int32.toInt 59) ∧ (V1395 0 8).toInt = 1 + 16 * (gT).2.2 ((sx1379).1 0)) := t1394
                                rcases t1394 with ⟨q1397, h1398, rl1399⟩ | ⟨q1397, h1398, rl1399⟩
                                · skip
                                  have kd1400 : gT.1 (sx1379.1 0) = 59 := h1398.trans (by decide)
                                  have hr1401 : ∀ k, Rc gT (Crun gs (Imember :: k)) (Crun (nx sx1379 1) (Imember :: k)) := fun k => Rc.go1 (hr1385 k) (tk_y kd1400)
                                  have ps1402 : (nx sx1379 1).1 0 = sx1379.1 0 + 1 := rfl
                                  have fz1403 := RelM.rg rl1399
                                  have r1404 : 0 ≤ ((V1395 0 8)).toInt ∧ ((V1395 0 8)).toInt ≤ 70000 := hMV1395 0 8
                                  have pq1405 : (V1395 0 48).toInt = ((V1372 0 48)).toInt := congrArg Int32.toInt ((ajV1395 0 48 rfl).trans (up2_o hV1388 (by decide)))
                                  have ps1406 : gs.1 0 + 1 ≤ (nx gs 1).1 0 := ((keepS.n1 1)).1
                                  have ps1407 : (nx gs 1).1 0 + 1 ≤ mx1326.2.1 0 := (kp1331).1
                                  have ps1408 : (sT mx1326.2 (mx1326.1 :: (nx gs 1).2.2.2)).1 0 = mx1326.2.1 0 := rfl
                                  have ps1409 : (sT mx1326.2 (mx1326.1 :: (nx gs 1).2.2.2)).1 0 + 0 ≤ (sL (sT mx1326.2 (mx1326.1 :: (nx gs 1).2.2.2)) (100 + 32 * (((nx gs 1).2.1 2).length - 1) + mx1326.1) (cl (nx gs 1) + 1)).1 0 := ((show keepS (sT mx1326.2 (mx1326.1 :: (nx gs 1).2.2.2)) 0 (sL (sT mx1326.2 (mx1326.1 :: (nx gs 1).2.2.2)) (100 + 32 * (((nx gs 1).2.1 2).length - 1) + mx1326.1) (cl (nx gs 1) + 1)) from keepS.gl (by omega))).1
                                  have ps1410 : (sL (sT mx1326.2 (mx1326.1 :: (nx gs 1).2.2.2)) (100 + 32 * (((nx gs 1).2.1 2).length - 1) + mx1326.1) (cl (nx gs 1) + 1)).1 0 + 1 ≤ sx1379.1 0 := (kp1382).1
                                  have ps1411 : sx1379.1 0 + 1 ≤ (nx sx1379 1).1 0 := ((keepS.n1 1)).1
                                  have k34 : (Int32.toNatClampNeg z1354) = 20 * gc + mx1326.1 := by have h9 := i_clamp (x := z1354) rfl (by omega); omega
                                  have cs1412 : 0 ≤ (V1395 34 (20 * gc + mx1326.1)).toInt := by have h9 : V1395 34 (Int32.toNatClampNeg z1354) = z1360 := ((ajV1395 34 (Int32.toNatClampNeg z1354) rfl).trans (up2_s hV1388)); rw [k34] at h9; rw [h9]; omega
                                  have cn1413 : CNm V1395 bq gs := CNm.ag cnm (show agr [(0, 7), (0, 8), (0, 48), (0, 50)] [34, 35, 36, 37, 38, 45, 46, 47] V V1395 from (agr.tr (agr.up (agr.tr (agr.tr (agr.tr (agr.tr (agr.tr agr.rf ajV795 (by decide) (by decide)) ajV1173 (by decide) (by decide)) ajV1301 (by decide) (by decide)) ajV1323 (by decide) (by decide)) ajV1372 (by decide) (by decide)) hV1388 rfl) ajV1395 (by decide) (by decide))) (by decide) keepC.rf
                                  have cn1414 : CNm V1395 bq (nx sx1379 1) := CNm.mv cn1413 (fun _ _ _ => rfl) (keepC.tr (keepC.tr (keepC.tr (keepC.tr (keepC.tr (keepC.tr (keepC.rf : keepC gs gs) (keepS.c (keepS.n1 1))) (keepS.c kp1331)) (keepC.st : keepC mx1326.2 (sT mx1326.2 (mx1326.1 :: (nx gs 1).2.2.2)))) (keepS.c (show keepS (sT mx1326.2 (mx1326.1 :: (nx gs 1).2.2.2)) 0 (sL (sT mx1326.2 (mx1326.1 :: (nx gs 1).2.2.2)) (100 + 32 * (((nx gs 1).2.1 2).length - 1) + mx1326.1) (cl (nx gs 1) + 1)) from keepS.gl (by omega)))) (keepS.c kp1382)) (keepS.c (keepS.n1 1)))
                                  have cd1415 : CDm V1395 (10000 * bq) sx1379 := CDm.ag cd1384 (show agr [(0, 7), (0, 8)] [34] V1372 V1395 from (agr.tr (agr.up agr.rf hV1388 rfl) ajV1395 (by decide) (by decide))) ⟨rfl, rfl, fun _ => ⟨rfl, rfl, rfl⟩⟩
                                  have cd1416 : CDm V1395 (10000 * bq) (nx sx1379 1) := CDm.mv cd1415 (show ∀ j9, j9 = 5 ∨ 2000 ≤ j9 → (nx sx1379 1).2.1 j9 = sx1379.2.1 j9 from fun j9 h9 => (show ∀ j9, 5 ≤ j9 → (nx sx1379 1).2.1 j9 = sx1379.2.1 j9 from fun _ _ => rfl) j9 (by omega))
                                  have re1417 : REm V1372 bq gs := REm.ag cem.2.1 (show agr [(0, 7), (0, 8), (0, 48), (0, 50)] [35, 36, 37, 38, 45, 46, 47] V V1372 from (agr.tr (agr.tr (agr.tr (agr.tr (agr.tr agr.rf ajV795 (by decide) (by decide)) ajV1173 (by decide) (by decide)) ajV1301 (by decide) (by decide)) ajV1323 (by decide) (by decide)) ajV1372 (by decide) (by decide))) (fun _ => ⟨rfl, rfl, rfl⟩) keepE.rf rfl
                                  have hu1418 := hV1388
                                  have ce1419 := cem.1.1
                                  have ce1420 := cem.1.2.1
                                  rw [show (Int32.toNatClampNeg z1354) = 20 * gc + mx1326.1 from by have h9 := i_clamp (x := z1354) rfl (by omega); omega] at hu1418
                                  have re1422 : REm V1372 bq (nx gs 1) := REm.mv re1417 (fun _ _ _ _ => rfl) (keepE.tr (keepE.rf : keepE gs gs) (show keepE gs (nx gs 1) from keepE.eq (show ∀ j9, 5 ≤ j9 → (nx gs 1).2.1 j9 = gs.2.1 j9 from fun _ _ => rfl))) (((show keepS gs 1 (nx gs 1) from (keepS.n1 1)).2.2.1 2 (by decide)).trans (rfl : gs.2.1 2 = gs.2.1 2))
                                  have re1421 : REm V1388 bq (sL (sT mx1326.2 (mx1326.1 :: (nx gs 1).2.2.2)) (100 + 32 * (((nx gs 1).2.1 2).length - 1) + mx1326.1) (cl (nx gs 1) + 1)) := REm.st re1422 (Or.inl hb1330) (show gc + 1 = 24 * bq + ((nx gs 1).2.1 2).length from gcl) gcb (cM_m hb1330 hu1418) (show z1360.toInt = ((10000 * bq : Nat) : Int) + ((cl (nx gs 1) : Nat) : Int) from by have h8 : cl (nx gs 1) = cl gs := rfl; omega) (fun j9 h9 => (mth_e (j0 := 3) (by decide) h1327) j9 h9) ((kp1331).2.2.1 2 (by decide))
                                  have re1423 : REm V1395 bq (sL (sT mx1326.2 (mx1326.1 :: (nx gs 1).2.2.2)) (100 + 32 * (((nx gs 1).2.1 2).length - 1) + mx1326.1) (cl (nx gs 1) + 1)) := REm.ag re1421 (show agr [(0, 7), (0, 8)] [] V1388 V1395 from (agr.tr agr.rf ajV1395 (by decide) (by decide))) (fun _ => ⟨rfl, rfl, rfl⟩) keepE.rf rfl
                                  have re1424 : REm V1395 bq (nx sx1379 1) := REm.mv re1423 (fun _ _ _ _ => rfl) (keepE.tr (keepE.tr (keepE.rf : keepE (sL (sT mx1326.2 (mx1326.1 :: (nx gs 1).2.2.2)) (100 + 32 * (((nx gs 1).2.1 2).length - 1) + mx1326.1) (cl (nx gs 1) + 1)) (sL (sT mx1326.2 (mx1326.1 :: (nx gs 1).2.2.2)) (100 + 32 * (((nx gs 1).2.1 2).length - 1) + mx1326.1) (cl (nx gs 1) + 1))) ke1383) (show keepE sx1379 (nx sx1379 1) from keepE.eq (show ∀ j9, 5 ≤ j9 → (nx sx1379 1).2.1 j9 = sx1379.2.1 j9 from fun _ _ => rfl))) (((show keepS sx1379 1 (nx sx1379 1) from (keepS.n1 1)).2.2.1 2 (by decide)).trans (((show keepS (sL (sT mx1326.2 (mx1326.1 :: (nx gs 1).2.2.2)) (100 + 32 * (((nx gs 1).2.1 2).length - 1) + mx1326.1) (cl (nx gs 1) + 1)) 1 sx1379 from kp1382).2.2.1 2 (by decide)).trans (rfl : (sL (sT mx1326.2 (mx1326.1 :: (nx gs 1).2.2.2)) (100 + 32 * (((nx gs 1).2.1 2).length - 1) + mx1326.1) (cl (nx gs 1) + 1)).2.1 2 = (sL (sT mx1326.2 (mx1326.1 :: (nx gs 1).2.2.2)) (100 + 32 * (((nx gs 1).2.1 2).length - 1) + mx1326.1) (cl (nx gs 1) + 1)).2.1 2)))
                                  have wm1425 : WMm V1395 bq gs := WMm.ag cem.2.2 (show agr [(0, 7), (0, 8), (0, 48), (0, 50)] [34, 35, 36, 37, 38, 45, 46, 47] V V1395 from (agr.tr (agr.up (agr.tr (agr.tr (agr.tr (agr.tr (agr.tr agr.rf ajV795 (by decide) (by decide)) ajV1173 (by decide) (by decide)) ajV1301 (by decide) (by decide)) ajV1323 (by decide) (by decide)) ajV1372 (by decide) (by decide)) hV1388 rfl) ajV1395 (by decide) (by decide))) (fun _ => ⟨rfl, rfl, rfl, rfl, rfl⟩) (fun _ _ _ => rfl) rfl
                                  have wm1426 : WMm V1395 bq (sT mx1326.2 (mx1326.1 :: (nx gs 1).2.2.2)) := WMm.mv wm1425 (fun _ _ _ _ _ => rfl) ((keepE.tr (keepE.tr (keepE.tr (keepE.rf : keepE gs gs) (show keepE gs (nx gs 1) from keepE.eq (show ∀ j9, 5 ≤ j9 → (nx gs 1).2.1 j9 = gs.2.1 j9 from fun _ _ => rfl))) (show keepE (nx gs 1) mx1326.2 from keepE.eq (show ∀ j9, 5 ≤ j9 → mx1326.2.2.1 j9 = (nx gs 1).2.1 j9 from (mth_e (j0 := 3) (by decide) h1327)))) (show keepE mx1326.2 (sT mx1326.2 (mx1326.1 :: (nx gs 1).2.2.2)) from keepE.eq (show ∀ j9, 5 ≤ j9 → (sT mx1326.2 (mx1326.1 :: (nx gs 1).2.2.2)).2.1 j9 = mx1326.2.2.1 j9 from fun _ _ => rfl)))).k9 ((rfl : (sT mx1326.2 (mx1326.1 :: (nx gs 1).2.2.2)).2.2.1 = mx1326.2.2.2.1).trans ((congrArg (fun q9 : List (Nat × Bool) × List Nat => q9.1) (show keepS (nx gs 1) 1 mx1326.2 from kp1331).2.2.2).trans ((congrArg (fun q9 : List (Nat × Bool) × List Nat => q9.1) (show keepS gs 1 (nx gs 1) from (keepS.n1 1)).2.2.2).trans (rfl : gs.2.2.1 = gs.2.2.1))))
                                  have wm1427 : WMm V1395 bq (sL (sT mx1326.2 (mx1326.1 :: (nx gs 1).2.2.2)) (100 + 32 * (((nx gs 1).2.1 2).length - 1) + mx1326.1) (cl (nx gs 1) + 1)) := WMm.mv wm1426 (fun _ _ _ _ _ => rfl) (sL_k9 (by have h9 := cem.2.1.1; have h8 : (nx gs 1).2.1 2 = gs.2.1 2 := rfl; rw [h8]; omega)) rfl
                                  have wm1428 : WMm V1395 bq (nx sx1379 1) := WMm.mv wm1427 (fun _ _ _ _ _ => rfl) ((keepE.tr (keepE.tr (keepE.rf : keepE (sL (sT mx1326.2 (mx1326.1 :: (nx gs 1).2.2.2)) (100 + 32 * (((nx gs 1).2.1 2).length - 1) + mx1326.1) (cl (nx gs 1) + 1)) (sL (sT mx1326.2 (mx1326.1 :: (nx gs 1).2.2.2)) (100 + 32 * (((nx gs 1).2.1 2).length - 1) + mx1326.1) (cl (nx gs 1) + 1))) ke1383) (show keepE sx1379 (nx sx1379 1) from keepE.eq (show ∀ j9, 5 ≤ j9 → (nx sx1379 1).2.1 j9 = sx1379.2.1 j9 from fun _ _ => rfl)))).k9 ((congrArg (fun q9 : List (Nat × Bool) × List Nat => q9.1) (show keepS sx1379 1 (nx sx1379 1) from (keepS.n1 1)).2.2.2).trans ((congrArg (fun q9 : List (Nat × Bool) × List Nat => q9.1) (show keepS (sL (sT mx1326.2 (mx1326.1 :: (nx gs 1).2.2.2)) (100 + 32 * (((nx gs 1).2.1 2).length - 1) + mx1326.1) (cl (nx gs 1) + 1)) 1 sx1379 from kp1382).2.2.2).trans (rfl : (sL (sT mx1326.2 (mx1326.1 :: (nx gs 1).2.2.2)) (100 + 32 * (((nx gs 1).2.1 2).length - 1) + mx1326.1) (cl (nx gs 1) + 1)).2.2.1 = (sL (sT mx1326.2 (mx1326.1 :: (nx gs 1).2.2.2)) (100 + 32 * (((nx gs 1).2.1 2).length - 1) + mx1326.1) (cl (nx gs 1) + 1)).2.2.1)))
                                  have rw1429 : RoV 35 bq V V1395 := (fun k hk => ((ajV1395 35 k rfl).trans ((up2_o hV1388 (by decide)).trans ((t1368 k hk).trans ((t1319 k hk).trans ((ajV1301 35 k rfl).trans ((ajV1173 35 k rfl).trans ((ajV795 35 k rfl).trans rfl))))))))
                                  have rw1430 : RoV 37 bq V V1395 := (fun k hk => ((ajV1395 37 k rfl).trans ((up2_o hV1388 (by decide)).trans ((t1369 k hk).trans ((t1320 k hk).trans ((ajV1301 37 k rfl).trans ((ajV1173 37 k rfl).trans ((ajV795 37 k rfl).trans rfl))))))))
                                  have rw1431 : RoL 36 20 bq L L1373 := (fun k hk => ((t1370 k hk).trans ((t1321 k hk).trans rfl)))
                                  have rw1432 : RoL 38 20 bq L L1373 := (fun k hk => ((t1371 k hk).trans ((t1322 k hk).trans rfl)))
                                  exact W.vret hx hb hr (fun t ht hW => ⟨⟨(V1395, L1373), rfl, ⟨hMV1395, agV1395, alL1373, (Imp.mk (fun hp => have hp : (V1395 0 8).toInt = 0 := hp; (show (V1395 0 48).toInt ≤ 2 * (V1395 0 7).toInt from by first | omega | ((try (have i_t1363 := Imp.go t1363 (by omega))); omega)))), (show (V1395 0 48).toInt ≤ 8120 from by first | exact om_bb58a60fcee7 t1364 pq1405 | first | omega | ((try (have i_t1363 := Imp.go t1363 (by omega))); omega)), (Or.inl ⟨W0 rl1399, (nx sx1379 1), hr1401, rl1399, (by omega), (OWm.mt (m := 1) ow (keepS.le (keepS.tr (keepS.rf : keepS gs 0 gs) (keepS.n1 1)) (by decide)) (Nat.le_refl _) kp1331 (MTX.le mt1332).1 (MTX.le mt1332).2 (keepS.le (keepS.tr (keepS.tr (keepS.tr (keepS.rf : keepS (sT mx1326.2 (mx1326.1 :: (nx gs 1).2.2.2)) 0 (sT mx1326.2 (mx1326.1 :: (nx gs 1).2.2.2))) (show keepS (sT mx1326.2 (mx1326.1 :: (nx gs 1).2.2.2)) 0 (sL (sT mx1326.2 (mx1326.1 :: (nx gs 1).2.2.2)) (100 + 32 * (((nx gs 1).2.1 2).length - 1) + mx1326.1) (cl (nx gs 1) + 1)) from keepS.gl (by omega))) kp1382) (keepS.n1 1)) (by decide)) (show (mx1326.2.2.1 3).length ≤ ((nx sx1379 1).2.1 3).length from by have h9 := Rc.ml (h1380 []); rw [sL_3] at h9; (exact h9); omega) (show V1395 27 gc = V 27 gc from ((ajV1395 27 _ rfl).trans ((up2_o hV1388 (by decide)).trans ((ajV1372 27 _ rfl).trans ((ajV1323 27 _ rfl).trans ((ajV1301 27 _ rfl).trans ((ajV1173 27 _ rfl).trans ((ajV795 27 _ rfl).trans rfl)))))))) (show V1395 32 gc = V 32 gc from ((ajV1395 32 _ rfl).trans ((up2_o hV1388 (by decide)).trans ((ajV1372 32 _ rfl).trans ((ajV1323 32 _ rfl).trans ((ajV1301 32 _ rfl).trans ((ajV1173 32 _ rfl).trans ((ajV795 32 _ rfl).trans rfl)))))))) (show V1395 33 gc = V 33 gc from ((ajV1395 33 _ rfl).trans ((up2_o hV1388 (by decide)).trans ((ajV1372 33 _ rfl).trans ((ajV1323 33 _ rfl).trans ((ajV1301 33 _ rfl).trans ((ajV1173 33 _ rfl).trans ((ajV795 33 _ rfl).trans rfl)))))))) cs1412 (fun f hf hne => ((ajV1395 34 _ rfl).trans ((up2_k hV1388 (by omega)).trans ((ajV1372 34 _ rfl).trans ((ajV1323 34 _ rfl).trans ((ajV1301 34 _ rfl).trans ((ajV1173 34 _ rfl).trans ((ajV795 34 _ rfl).trans rfl))))))))), ((((keepS.n1 1)).2.2.1 2 (by decide)).trans (((kp1382).2.2.1 2 (by decide)).trans ((((show keepS (sT mx1326.2 (mx1326.1 :: (nx gs 1).2.2.2)) 0 (sL (sT mx1326.2 (mx1326.1 :: (nx gs 1).2.2.2)) (100 + 32 * (((nx gs 1).2.1 2).length - 1) + mx1326.1) (cl (nx gs 1) + 1)) from keepS.gl (by omega))).2.2.1 2 (by decide)).trans ((rfl : (sT mx1326.2 (mx1326.1 :: (nx gs 1).2.2.2)).2.1 2 = mx1326.2.2.1 2).trans (((kp1331).2.2.1 2 (by decide)).trans ((((keepS.n1 1)).2.2.1 2 (by decide)).trans (rfl : gs.2.1 2 = gs.2.1 2))))))), ((congrArg (fun q9 => q9.1) ((keepS.n1 1)).2.2.2).trans ((congrArg (fun q9 => q9.1) (kp1382).2.2.2).trans ((congrArg (fun q9 => q9.1) ((show keepS (sT mx1326.2 (mx1326.1 :: (nx gs 1).2.2.2)) 0 (sL (sT mx1326.2 (mx1326.1 :: (nx gs 1).2.2.2)) (100 + 32 * (((nx gs 1).2.1 2).length - 1) + mx1326.1) (cl (nx gs 1) + 1)) from keepS.gl (by omega))).2.2.2).trans ((rfl : (sT mx1326.2 (mx1326.1 :: (nx gs 1).2.2.2)).2.2.1 = mx1326.2.2.2.1).trans ((congrArg (fun q9 => q9.1) (kp1331).2.2.2).trans ((congrArg (fun q9 => q9.1) ((keepS.n1 1)).2.2.2).trans (rfl : gs.2.2.1 = gs.2.2.1))))))), cn1414, ⟨cd1416, re1424, wm1428⟩⟩), rw1429, rw1430, rw1431, rw1432⟩, by rw [ht]; exact hP, va_K.moved hW.alike hK, hD⟩, hS.F ht⟩) hS.2.2 dX12_member_193
                                · skip
                                  have kd1433 : gT.1 (sx1379.1 0) ≠ 59 := fun h9 => h1398 (h9.trans (by decide))
                                  have hb1434 : ∀ k, Rc gT (Crun gs (Imember :: k)) (Cbad (V1395 0 8).toInt) := fun k => Rc.go1 (hr1385 k) ((tk_n kd1433).trans (fl_eq rfl rl1399))
                                  have r1435 : 0 ≤ ((V1395 0 8)).toInt ∧ ((V1395 0 8)).toInt ≤ 70000 := hMV1395 0 8
                                  have pq1436 : (V1395 0 48).toInt = ((V1372 0 48)).toInt := congrArg Int32.toInt ((ajV1395 0 48 rfl).trans (up2_o hV1388 (by decide)))
                                  have rw1437 : RoV 35 bq V V1395 := (fun k hk => ((ajV1395 35 k rfl).trans ((up2_o hV1388 (by decide)).trans ((t1368 k hk).trans ((t1319 k hk).trans ((ajV1301 35 k rfl).trans ((ajV1173 35 k rfl).trans ((ajV795 35 k rfl).trans rfl))))))))
                                  have rw1438 : RoV 37 bq V V1395 := (fun k hk => ((ajV1395 37 k rfl).trans ((up2_o hV1388 (by decide)).trans ((t1369 k hk).trans ((t1320 k hk).trans ((ajV1301 37 k rfl).trans ((ajV1173 37 k rfl).trans ((ajV795 37 k rfl).trans rfl))))))))
                                  have rw1439 : RoL 36 20 bq L L1373 := (fun k hk => ((t1370 k hk).trans ((t1321 k hk).trans rfl)))
                                  have rw1440 : RoL 38 20 bq L L1373 := (fun k hk => ((t1371 k hk).trans ((t1322 k hk).trans rfl)))
                                  exact W.vret hx hb hr (fun t ht hW => ⟨⟨(V1395, L1373), rfl, ⟨hMV1395, agV1395, alL1373, (Imp.mk (fun hp => have hp : (V1395 0 8).toInt = 0 := hp; (show (V1395 0 48).toInt ≤ 2 * (V1395 0 7).toInt from by first | omega | ((try (have i_t1363 := Imp.go t1363 (by omega))); omega)))), (show (V1395 0 48).toInt ≤ 8120 from by first | exact om_bb58a60fcee7 t1364 pq1436 | first | omega | ((try (have i_t1363 := Imp.go t1363 (by omega))); omega)), (Or.inr ⟨(show 1 ≤ (V1395 0 8).toInt from by (first | exact om_f8d8213eda45 q1397 | omega)), hb1434⟩), rw1437, rw1438, rw1439, rw1440⟩, by rw [ht]; exact hP, va_K.moved hW.alike hK, hD⟩, hS.F ht⟩) hS.2.2 dX12_member_193
                              · skip
                                have hb1441 : ∀ k, Rc gT (Crun gs (Imember :: k)) (Cbad (V1372 0 8).toInt) := fun k => (hr1348 k).tr (h1380 (Itake 59 :: Imember :: k))
                                refine va_iast (D := D) (i := z1354) (x := z1360) hx hb hK hP hD hS 27 26 rfl rfl (i_in (a := z1354.toInt) rfl (by first | omega | ((try (have i_t1363 := Imp.go t1363 (by omega))); omega))) dX12_member_178 (fun H locs hP hD hS => ?_)
                                obtain ⟨V1442, hV1442⟩ : ∃ z, z = up2 V1372 34 (Int32.toNatClampNeg z1354) z1360 := ⟨_, rfl⟩
                                have hP : va_P D vwCl (mw ad kk ks.1 V1442 L1373) H := by rw [hV1442]; exact hP
                                have hD : va_D A (mw ad kk ks.1 V1442 L1373) := by rw [hV1442]; exact hD
                                have hMV1442 : rgd bM V1442 := hMV1372.put hV1442 (i_full _)
                                have agV1442 : agr [(0, 7), (0, 8), (0, 48), (0, 50)] [27, 28, 29, 30, 31, 32, 33, 34, 35, 36, 37, 38, 45, 46, 47] V V1442 := agV1372.up hV1442 rfl
                                refine lv_goto (tgt := 187) hx hb dX12_member_179 (by decide) ?_
                                refine lv_aload_n hx hb dX12_member_187 rfl (lv_at hl 1 rfl) ?_
                                refine lv_bipush (v := 59) hx hb dX12_member_188 (by decide) ?_
                                have r1443 : Int32.toInt 59 = 59 := by decide
                                have pq1444 : (V1442 0 8).toInt = ((V1372 0 8)).toInt := congrArg Int32.toInt (up2_o hV1442 (by decide))
                                refine gA_void (gA_runV (As := [.int 59]) (rest := []) (ci := 12) (q0 := 0) hx hb hml hown hg hP hD hK hS hA hnw hgk (s_takeSignB l D ks H.size ad kk V1442 L1373 59 hMV1442 (show 1 ≤ (V1442 0 8).toInt from by first | omega | ((try (have i_t1363 := Imp.go t1363 (by omega))); omega))) w2075 w2077 w96 w172 w2078 rfl rfl hdV_yX12_takeSign ⟨Nat.le_of_ble_eq_true rfl, Nat.le_of_ble_eq_true rfl⟩ rfl hl.1 rfl (Nat.le_of_ble_eq_true rfl) dX12_member_190 ⟨Nat.le_of_ble_eq_true rfl, Nat.le_of_ble_eq_true rfl⟩) hP hD hK hS hA (fun u1446 H locs w1447 hP hD hK hS => ?_)
                                obtain ⟨V1449, L1450⟩ := u1446
                                obtain ⟨hMV1449, ajV1449, axL1450, t1448⟩ := w1447
                                have axL1450 : L1373 = L1450 := Eq.symm axL1450
                                subst axL1450
                                replace hP : va_P D vwCl (mw ad kk ks.1 V1449 L1373) H := hP
                                replace hD : va_D A (mw ad kk ks.1 V1449 L1373) := hD
                                replace hMV1449 : rgd bM V1449 := hMV1449
                                replace ajV1449 : agr [(0, 7), (0, 8)] [] V1442 V1449 := ajV1449
                                have agV1449 : agr [(0, 7), (0, 8), (0, 48), (0, 50)] [27, 28, 29, 30, 31, 32, 33, 34, 35, 36, 37, 38, 45, 46, 47] V V1449 := agV1442.tr ajV1449 (by decide) (by decide)
                                replace t1448 : (V1449 0 8).toInt = (V1442 0 8).toInt := t1448
                                have r1451 : 0 ≤ ((V1449 0 8)).toInt ∧ ((V1449 0 8)).toInt ≤ 70000 := hMV1449 0 8
                                have pq1452 : (V1449 0 48).toInt = ((V1372 0 48)).toInt := congrArg Int32.toInt ((ajV1449 0 48 rfl).trans (up2_o hV1442 (by decide)))
                                have rw1453 : RoV 35 bq V V1449 := (fun k hk => ((ajV1449 35 k rfl).trans ((up2_o hV1442 (by decide)).trans ((t1368 k hk).trans ((t1319 k hk).trans ((ajV1301 35 k rfl).trans ((ajV1173 35 k rfl).trans ((ajV795 35 k rfl).trans rfl))))))))
                                have rw1454 : RoV 37 bq V V1449 := (fun k hk => ((ajV1449 37 k rfl).trans ((up2_o hV1442 (by decide)).trans ((t1369 k hk).trans ((t1320 k hk).trans ((ajV1301 37 k rfl).trans ((ajV1173 37 k rfl).trans ((ajV795 37 k rfl).trans rfl))))))))
                                have rw1455 : RoL 36 20 bq L L1373 := (fun k hk => ((t1370 k hk).trans ((t1321 k hk).trans rfl)))
                                have rw1456 : RoL 38 20 bq L L1373 := (fun k hk => ((t1371 k hk).trans ((t1322 k hk).trans rfl)))
                                exact W.vret hx hb hr (fun t ht hW => ⟨⟨(V1449, L1373), rfl, ⟨hMV1449, agV1449, alL1373, (Imp.mk (fun hp => have hp : (V1449 0 8).toInt = 0 := hp; (show (V1449 0 48).toInt ≤ 2 * (V1449 0 7).toInt from by first | omega | ((try (have i_t1363 := Imp.go t1363 (by omega))); omega)))), (show (V1449 0 48).toInt ≤ 8120 from by first | exact om_bb58a60fcee7 t1364 pq1452 | first | omega | ((try (have i_t1363 := Imp.go t1363 (by omega))); omega)), (Or.inr ⟨(show 1 ≤ (V1449 0 8).toInt from by omega), (fun k => by rw [show (V1449 0 8).toInt = (V1372 0 8).toInt from by omega]; exact hb1441 k)⟩), rw1453, rw1454, rw1455, rw1456⟩, by rw [ht]; exact hP, va_K.moved hW.alike hK, hD⟩, hS.F ht⟩) hS.2.2 dX12_member_193
                          · skip
                            have f1457 : 0 ≤ ((V 34 (Int32.toNatClampNeg z1340))).toInt := b_nlt rfl (by decide) c1343
                            refine lv_aload_n hx hb dX12_member_142 rfl (lv_at hl 1 rfl) ?_
                            refine lv_dup hx hb dX12_member_143 rfl ?_
                            refine va_get (D := D) (ci := 12) (v := .int (V1323 0 7)) (C := RX12) (T := TX12) (N := 100) hx hb hg inX12 hown hK hP 0 rfl rfl 7 (by decide) (hg _ w1713) (fun _ h9 => h9) rfl dX12_member_144 ?_
                            refine lv_iconst (v := 1) hx hb dX12_member_147 (by decide) ?_
                            refine lv_isub hx hb dX12_member_148 ?_
                            refine lv_topi (fun z1458 ez1458 => ?_)
                            have hz1458 : z1458.toInt = ((V1323 0 7)).toInt - 1 := i_sub ez1458 rfl (by decide) (by omega)
                            refine va_put (D := D) (ci := 12) (v := .int z1458) (ty := tyX12 7) (C := RX12) (T := TX12) (N := 100) hx hb hg inX12 tyX12 tyX12_ok nmX12 hown hK hP hD hS 0 rfl rfl 7 (by decide) (hg _ w1713) (fun _ h9 => h9) rfl (tyX12_ok 7 (by decide)) rfl rfl (Nat.le_of_ble_eq_true rfl) dX12_member_149 (fun H locs hP hD hS => ?_)
                            obtain ⟨V1459, hV1459⟩ : ∃ z, z = up2 V1323 0 7 z1458 := ⟨_, rfl⟩
                            have hP : va_P D vwCl (mw ad kk ks.1 V1459 L1324) H := by rw [hV1459]; exact hP
                            have hD : va_D A (mw ad kk ks.1 V1459 L1324) := by rw [hV1459]; exact hD
                            have hMV1459 : rgd bM V1459 := hMV1323.put hV1459 (i_full _)
                            have agV1459 : agr [(0, 7), (0, 8), (0, 48), (0, 50)] [27, 28, 29, 30, 31, 32, 33, 34, 35, 36, 37, 38, 45, 46, 47] V V1459 := agV1323.up hV1459 rfl
                            have tx := MTX.told mt1332 (by rw [oS]; exact ow5.mp (by omega)) (by rw [oS, oL]; exact ow.2.2.2.2.2)
                            have rl1460 : RelM V1459 L1324 bq gn gT (nx gs 1) gl := RelM.v8 (by rw [← tx.2]; exact rl1328) hV1459 (by (first | exact om_a53909a885f5 hz1458 | omega))
                            have fz1461 := RelM.rg rl1460
                            have pq1462 : (V1459 0 8).toInt = ((V1323 0 8)).toInt := congrArg Int32.toInt (up2_k hV1459 (by decide))
                            have pq1463 : (V1459 0 7).toInt = z1458.toInt := congrArg Int32.toInt (up2_s hV1459)
                            have mn3 : ∀ k, mst gT (Crun (nx gs 1) (ImethN :: k)) = fl gT (nx gs 1) 3 := fun k => mthN_3 (mth_k3 h1327) tx.1 _
                            refine lv_aload_n hx hb dX12_member_152 rfl (lv_at hl 1 rfl) ?_
                            refine lv_iconst (v := 3) hx hb dX12_member_153 (by decide) ?_
                            have r1464 : Int32.toInt 3 = 3 := by decide
                            refine gA_void (gA_runV (As := [.int 3]) (rest := []) (ci := 12) (q0 := 0) hx hb hml hown hg hP hD hK hS hA hnw hgk (s_wrongA l D ks H.size ad kk V1459 L1324 3 (bq) (gn) (gT) ((nx gs 1)) (gl) hMV1459 (by decide) rl1460) w2035 w2037 w86 w172 w2038 rfl rfl hdV_yX12_wrong ⟨Nat.le_of_ble_eq_true rfl, Nat.le_of_ble_eq_true rfl⟩ rfl hl.1 rfl (Nat.le_of_ble_eq_true rfl) dX12_member_154 ⟨Nat.le_of_ble_eq_true rfl, Nat.le_of_ble_eq_true rfl⟩) hP hD hK hS hA (fun u1466 H locs w1467 hP hD hK hS => ?_)
                            obtain ⟨V1470, L1471⟩ := u1466
                            obtain ⟨hMV1470, ajV1470, axL1471, t1468, t1469⟩ := w1467
                            have axL1471 : L1324 = L1471 := Eq.symm axL1471
                            subst axL1471
                            replace hP : va_P D vwCl (mw ad kk ks.1 V1470 L1324) H := hP
                            replace hD : va_D A (mw ad kk ks.1 V1470 L1324) := hD
                            replace hMV1470 : rgd bM V1470 := hMV1470
                            replace ajV1470 : agr [(0, 8)] [] V1459 V1470 := ajV1470
                            have agV1470 : agr [(0, 7), (0, 8), (0, 48), (0, 50)] [27, 28, 29, 30, 31, 32, 33, 34, 35, 36, 37, 38, 45, 46, 47] V V1470 := agV1459.tr ajV1470 (by decide) (by decide)
                            replace t1468 : 1 ≤ (V1470 0 8).toInt := t1468
                            replace t1469 : (V1470 0 8).toInt = (Int32.toInt 3) + 16 * (gT).2.2 (((nx gs 1)).1 0) := t1469
                            have r1472 : 0 ≤ ((V1470 0 8)).toInt ∧ ((V1470 0 8)).toInt ≤ 70000 := hMV1470 0 8
                            have hb1473 : ∀ k, Rc gT (Crun gs (Imember :: k)) (Cbad (V1470 0 8).toInt) := fun k => Rc.go1 (hr1308 k) ((mn3 _).trans (fl_eq rfl (show (V1470 0 8).toInt = 3 + 16 * gT.2.2 ((nx gs 1).1 0) from by omega)))
                            refine lv_aload_n hx hb dX12_member_157 rfl (lv_at hl 1 rfl) ?_
                            refine va_get (D := D) (ci := 12) (v := .int (V1470 0 8)) (C := RX12) (T := TX12) (N := 100) hx hb hg inX12 hown hK hP 0 rfl rfl 8 (by decide) (hg _ w1714) (fun _ h9 => h9) rfl dX12_member_158 ?_
                            refine lv_if_ne (tgt := 179) hx hb dX12_member_161 (by decide) (fun c1474 => ?_) (fun c1474 => ?_)
                            · skip
                              have f1475 : ((V1470 0 8)).toInt ≠ 0 := b_neq rfl (by decide) c1474
                              refine lv_goto (tgt := 187) hx hb dX12_member_179 (by decide) ?_
                              refine lv_aload_n hx hb dX12_member_187 rfl (lv_at hl 1 rfl) ?_
                              refine lv_bipush (v := 59) hx hb dX12_member_188 (by decide) ?_
                              have r1476 : Int32.toInt 59 = 59 := by decide
                              refine gA_void (gA_runV (As := [.int 59]) (rest := []) (ci := 12) (q0 := 0) hx hb hml hown hg hP hD hK hS hA hnw hgk (s_takeSignB l D ks H.size ad kk V1470 L1324 59 hMV1470 (show 1 ≤ (V1470 0 8).toInt from by (first | exact om_f8d8213eda45 t1468 | omega))) w2075 w2077 w96 w172 w2078 rfl rfl hdV_yX12_takeSign ⟨Nat.le_of_ble_eq_true rfl, Nat.le_of_ble_eq_true rfl⟩ rfl hl.1 rfl (Nat.le_of_ble_eq_true rfl) dX12_member_190 ⟨Nat.le_of_ble_eq_true rfl, Nat.le_of_ble_eq_true rfl⟩) hP hD hK hS hA (fun u1478 H locs w1479 hP hD hK hS => ?_)
                              obtain ⟨V1481, L1482⟩ := u1478
                              obtain ⟨hMV1481, ajV1481, axL1482, t1480⟩ := w1479
                              have axL1482 : L1324 = L1482 := Eq.symm axL1482
                              subst axL1482
                              replace hP : va_P D vwCl (mw ad kk ks.1 V1481 L1324) H := hP
                              replace hD : va_D A (mw ad kk ks.1 V1481 L1324) := hD
                              replace hMV1481 : rgd bM V1481 := hMV1481
                              replace ajV1481 : agr [(0, 7), (0, 8)] [] V1470 V1481 := ajV1481
                              have agV1481 : agr [(0, 7), (0, 8), (0, 48), (0, 50)] [27, 28, 29, 30, 31, 32, 33, 34, 35, 36, 37, 38, 45, 46, 47] V V1481 := agV1470.tr ajV1481 (by decide) (by decide)
                              replace t1480 : (V1481 0 8).toInt = (V1470 0 8).toInt := t1480
                              have r1483 : 0 ≤ ((V1481 0 8)).toInt ∧ ((V1481 0 8)).toInt ≤ 70000 := hMV1481 0 8
                              have pq1484 : (V1481 0 48).toInt = ((V 0 48)).toInt := congrArg Int32.toInt ((ajV1481 0 48 rfl).trans ((ajV1470 0 48 rfl).trans ((up2_k hV1459 (by decide)).trans ((ajV1323 0 48 rfl).trans ((ajV1301 0 48 rfl).trans ((ajV1173 0 48 rfl).trans (ajV795 0 48 rfl)))))))
                              have rw1485 : RoV 35 bq V V1481 := (fun k hk => ((ajV1481 35 k rfl).trans ((ajV1470 35 k rfl).trans ((up2_o hV1459 (by decide)).trans ((t1319 k hk).trans ((ajV1301 35 k rfl).trans ((ajV1173 35 k rfl).trans ((ajV795 35 k rfl).trans rfl))))))))
                              have rw1486 : RoV 37 bq V V1481 := (fun k hk => ((ajV1481 37 k rfl).trans ((ajV1470 37 k rfl).trans ((up2_o hV1459 (by decide)).trans ((t1320 k hk).trans ((ajV1301 37 k rfl).trans ((ajV1173 37 k rfl).trans ((ajV795 37 k rfl).trans rfl))))))))
                              have rw1487 : RoL 36 20 bq L L1324 := (fun k hk => ((t1321 k hk).trans rfl))
                              have rw1488 : RoL 38 20 bq L L1324 := (fun k hk => ((t1322 k hk).trans rfl))
                              exact W.vret hx hb hr (fun t ht hW => ⟨⟨(V1481, L1324), rfl, ⟨hMV1481, agV1481, alL1324, (Imp.mk (fun hp => have hp : (V1481 0 8).toInt = 0 := hp; (show (V1481 0 48).toInt ≤ 2 * (V1481 0 7).toInt from by omega))), (show (V1481 0 48).toInt ≤ 8120 from by omega), (Or.inr ⟨(show 1 ≤ (V1481 0 8).toInt from by (first | exact om_e3c391a03e81 t1468 t1480 | omega)), (fun k => by rw [show (V1481 0 8).toInt = (V1470 0 8).toInt from by omega]; exact hb1473 k)⟩), rw1485, rw1486, rw1487, rw1488⟩, by rw [ht]; exact hP, va_K.moved hW.alike hK, hD⟩, hS.F ht⟩) hS.2.2 dX12_member_193
                            · skip
                              have f1489 : ((V1470 0 8)).toInt = 0 := b_eq rfl (by decide) c1474
                              exfalso; (first | exact om_09885ab343b9 t1468 f1489 | omega)
                      · skip
                        have hb1490 : ∀ k, Rc gT (Crun gs (Imember :: k)) (Cbad (V1323 0 8).toInt) := fun k => Rc.go1 (hr1308 k) (mn_b (Km_mthN h1327))
                        have r1491 : 0 ≤ ((V1323 0 8)).toInt ∧ ((V1323 0 8)).toInt ≤ 70000 := hMV1323 0 8
                        refine lv_istore_n (lv' := [(2, .int z1315), (0, .ref (ad 0)), (1, .int p0)]) hx hb dX12_member_120 rfl hl (by decide) rfl (fun ls hl => ?_)
                        refine lv_aload_n hx hb dX12_member_121 rfl (lv_at hl 1 rfl) ?_
                        refine va_get (D := D) (ci := 12) (v := .int (V1323 0 8)) (C := RX12) (T := TX12) (N := 100) hx hb hg inX12 hown hK hP 0 rfl rfl 8 (by decide) (hg _ w1714) (fun _ h9 => h9) rfl dX12_member_122 ?_
                        refine lv_if_ne (tgt := 157) hx hb dX12_member_125 (by decide) (fun c1492 => ?_) (fun c1492 => ?_)
                        · skip
                          have f1493 : ((V1323 0 8)).toInt ≠ 0 := b_neq rfl (by decide) c1492
                          refine lv_aload_n hx hb dX12_member_157 rfl (lv_at hl 1 rfl) ?_
                          refine va_get (D := D) (ci := 12) (v := .int (V1323 0 8)) (C := RX12) (T := TX12) (N := 100) hx hb hg inX12 hown hK hP 0 rfl rfl 8 (by decide) (hg _ w1714) (fun _ h9 => h9) rfl dX12_member_158 ?_
                          refine lv_if_ne (tgt := 179) hx hb dX12_member_161 (by decide) (fun c1494 => ?_) (fun c1494 => ?_)
                          · skip
                            have f1495 : ((V1323 0 8)).toInt ≠ 0 := b_neq rfl (by decide) c1494
                            refine lv_goto (tgt := 187) hx hb dX12_member_179 (by decide) ?_
                            refine lv_aload_n hx hb dX12_member_187 rfl (lv_at hl 1 rfl) ?_
                            refine lv_bipush (v := 59) hx hb dX12_member_188 (by decide) ?_
                            have r1496 : Int32.toInt 59 = 59 := by decide
                            refine gA_void (gA_runV (As := [.int 59]) (rest := []) (ci := 12) (q0 := 0) hx hb hml hown hg hP hD hK hS hA hnw hgk (s_takeSignB l D ks H.size ad kk V1323 L1324 59 hMV1323 (show 1 ≤ (V1323 0 8).toInt from by (first | exact om_76052c512981 r1491.1 f1493 | omega))) w2075 w2077 w96 w172 w2078 rfl rfl hdV_yX12_takeSign ⟨Nat.le_of_ble_eq_true rfl, Nat.le_of_ble_eq_true rfl⟩ rfl hl.1 rfl (Nat.le_of_ble_eq_true rfl) dX12_member_190 ⟨Nat.le_of_ble_eq_true rfl, Nat.le_of_ble_eq_true rfl⟩) hP hD hK hS hA (fun u1498 H locs w1499 hP hD hK hS => ?_)
                            obtain ⟨V1501, L1502⟩ := u1498
                            obtain ⟨hMV1501, ajV1501, axL1502, t1500⟩ := w1499
                            have axL1502 : L1324 = L1502 := Eq.symm axL1502
                            subst axL1502
                            replace hP : va_P D vwCl (mw ad kk ks.1 V1501 L1324) H := hP
                            replace hD : va_D A (mw ad kk ks.1 V1501 L1324) := hD
                            replace hMV1501 : rgd bM V1501 := hMV1501
                            replace ajV1501 : agr [(0, 7), (0, 8)] [] V1323 V1501 := ajV1501
                            have agV1501 : agr [(0, 7), (0, 8), (0, 48), (0, 50)] [27, 28, 29, 30, 31, 32, 33, 34, 35, 36, 37, 38, 45, 46, 47] V V1501 := agV1323.tr ajV1501 (by decide) (by decide)
                            replace t1500 : (V1501 0 8).toInt = (V1323 0 8).toInt := t1500
                            have r1503 : 0 ≤ ((V1501 0 8)).toInt ∧ ((V1501 0 8)).toInt ≤ 70000 := hMV1501 0 8
                            have pq1504 : (V1501 0 48).toInt = ((V 0 48)).toInt := congrArg Int32.toInt ((ajV1501 0 48 rfl).trans ((ajV1323 0 48 rfl).trans ((ajV1301 0 48 rfl).trans ((ajV1173 0 48 rfl).trans (ajV795 0 48 rfl)))))
                            have rw1505 : RoV 35 bq V V1501 := (fun k hk => ((ajV1501 35 k rfl).trans ((t1319 k hk).trans ((ajV1301 35 k rfl).trans ((ajV1173 35 k rfl).trans ((ajV795 35 k rfl).trans rfl))))))
                            have rw1506 : RoV 37 bq V V1501 := (fun k hk => ((ajV1501 37 k rfl).trans ((t1320 k hk).trans ((ajV1301 37 k rfl).trans ((ajV1173 37 k rfl).trans ((ajV795 37 k rfl).trans rfl))))))
                            have rw1507 : RoL 36 20 bq L L1324 := (fun k hk => ((t1321 k hk).trans rfl))
                            have rw1508 : RoL 38 20 bq L L1324 := (fun k hk => ((t1322 k hk).trans rfl))
                            exact W.vret hx hb hr (fun t ht hW => ⟨⟨(V1501, L1324), rfl, ⟨hMV1501, agV1501, alL1324, (Imp.mk (fun hp => have hp : (V1501 0 8).toInt = 0 := hp; (show (V1501 0 48).toInt ≤ 2 * (V1501 0 7).toInt from by omega))), (show (V1501 0 48).toInt ≤ 8120 from by omega), (Or.inr ⟨(show 1 ≤ (V1501 0 8).toInt from by (first | exact om_1499017b39b7 r1491.1 f1493 t1500 | omega)), (fun k => by rw [show (V1501 0 8).toInt = (V1323 0 8).toInt from by omega]; exact hb1490 k)⟩), rw1505, rw1506, rw1507, rw1508⟩, by rw [ht]; exact hP, va_K.moved hW.alike hK, hD⟩, hS.F ht⟩) hS.2.2 dX12_member_193
                          · skip
                            have f1509 : ((V1323 0 8)).toInt = 0 := b_eq rfl (by decide) c1494
                            exfalso; (first | exact om_0abcda13baee r1491.1 f1493 f1509 | omega)
                        · skip
                          have f1510 : ((V1323 0 8)).toInt = 0 := b_eq rfl (by decide) c1492
                          exfalso; omega
                  · skip
                    have kd1511 : gT.1 (gs.1 0) ≠ 142 := fun h9 => h1304 (h9.trans (by decide))
                    have fz1512 := RelM.rg rl1305
                    have pq1513 : (V1301 0 8).toInt = ((V 0 8)).toInt := congrArg Int32.toInt ((ajV1301 0 8 rfl).trans ((ajV1173 0 8 rfl).trans (ajV795 0 8 rfl)))
                    refine lv_if_eq (tgt := 182) hx hb dX12_member_105 (by decide) (fun c1514 => ?_) (fun c1514 => ?_)
                    · skip
                      have f1515 : z1297.toInt = 0 := b_eq rfl (by decide) c1514
                      refine lv_aload_n hx hb dX12_member_182 rfl (lv_at hl 0 rfl) ?_
                      refine lv_iconst (v := 1) hx hb dX12_member_183 (by decide) ?_
                      have r1516 : Int32.toInt 1 = 1 := by decide
                      refine gA_void (gA_runV (As := [.int 1]) (rest := []) (ci := 12) (q0 := 0) hx hb hml hown hg hP hD hK hS hA hnw hgk (s_wrongA l D ks H.size ad kk V1301 L 1 (bq) (gn) (gT) (gs) (gl) hMV1301 (by decide) rl1305) w2035 w2037 w86 w172 w2038 rfl rfl hdV_yX12_wrong ⟨Nat.le_of_ble_eq_true rfl, Nat.le_of_ble_eq_true rfl⟩ rfl hl.1 rfl (Nat.le_of_ble_eq_true rfl) dX12_member_184 ⟨Nat.le_of_ble_eq_true rfl, Nat.le_of_ble_eq_true rfl⟩) hP hD hK hS hA (fun u1518 H locs w1519 hP hD hK hS => ?_)
                      obtain ⟨V1522, L1523⟩ := u1518
                      obtain ⟨hMV1522, ajV1522, axL1523, t1520, t1521⟩ := w1519
                      have axL1523 : L = L1523 := Eq.symm axL1523
                      subst axL1523
                      replace hP : va_P D vwCl (mw ad kk ks.1 V1522 L) H := hP
                      replace hD : va_D A (mw ad kk ks.1 V1522 L) := hD
                      replace hMV1522 : rgd bM V1522 := hMV1522
                      replace ajV1522 : agr [(0, 8)] [] V1301 V1522 := ajV1522
                      have agV1522 : agr [(0, 7), (0, 8), (0, 48), (0, 50)] [27, 28, 29, 30, 31, 32, 33, 34, 35, 36, 37, 38, 45, 46, 47] V V1522 := agV1301.tr ajV1522 (by decide) (by decide)
                      replace t1520 : 1 ≤ (V1522 0 8).toInt := t1520
                      replace t1521 : (V1522 0 8).toInt = (Int32.toInt 1) + 16 * (gT).2.2 ((gs).1 0) := t1521
                      have r1524 : 0 ≤ ((V1522 0 8)).toInt ∧ ((V1522 0 8)).toInt ≤ 70000 := hMV1522 0 8
                      have hr1525 : ∀ k, Rc gT (Crun gs (Imember :: k)) (Crun gs (Imember :: k)) := fun k => Rc.rf
                      have hb1526 : ∀ k, Rc gT (Crun gs (Imember :: k)) (Cbad (V1522 0 8).toInt) := fun k => Rc.go1 (hr1525 k) ((mb_f kn125 kd158 (Or.inl kd914) (Or.inl kd1291) kd1511).trans (fl_eq rfl (show (V1522 0 8).toInt = 1 + 16 * gT.2.2 (gs.1 0) from by omega)))
                      refine lv_aload_n hx hb dX12_member_187 rfl (lv_at hl 0 rfl) ?_
                      refine lv_bipush (v := 59) hx hb dX12_member_188 (by decide) ?_
                      have r1527 : Int32.toInt 59 = 59 := by decide
                      refine gA_void (gA_runV (As := [.int 59]) (rest := []) (ci := 12) (q0 := 0) hx hb hml hown hg hP hD hK hS hA hnw hgk (s_takeSignB l D ks H.size ad kk V1522 L 59 hMV1522 (show 1 ≤ (V1522 0 8).toInt from by (first | exact om_f8d8213eda45 t1520 | omega))) w2075 w2077 w96 w172 w2078 rfl rfl hdV_yX12_takeSign ⟨Nat.le_of_ble_eq_true rfl, Nat.le_of_ble_eq_true rfl⟩ rfl hl.1 rfl (Nat.le_of_ble_eq_true rfl) dX12_member_190 ⟨Nat.le_of_ble_eq_true rfl, Nat.le_of_ble_eq_true rfl⟩) hP hD hK hS hA (fun u1529 H locs w1530 hP hD hK hS => ?_)
                      obtain ⟨V1532, L1533⟩ := u1529
                      obtain ⟨hMV1532, ajV1532, axL1533, t1531⟩ := w1530
                      have axL1533 : L = L1533 := Eq.symm axL1533
                      subst axL1533
                      replace hP : va_P D vwCl (mw ad kk ks.1 V1532 L) H := hP
                      replace hD : va_D A (mw ad kk ks.1 V1532 L) := hD
                      replace hMV1532 : rgd bM V1532 := hMV1532
                      replace ajV1532 : agr [(0, 7), (0, 8)] [] V1522 V1532 := ajV1532
                      have agV1532 : agr [(0, 7), (0, 8), (0, 48), (0, 50)] [27, 28, 29, 30, 31, 32, 33, 34, 35, 36, 37, 38, 45, 46, 47] V V1532 := agV1522.tr ajV1532 (by decide) (by decide)
                      replace t1531 : (V1532 0 8).toInt = (V1522 0 8).toInt := t1531
                      have r1534 : 0 ≤ ((V1532 0 8)).toInt ∧ ((V1532 0 8)).toInt ≤ 70000 := hMV1532 0 8
                      have pq1535 : (V1532 0 48).toInt = ((V 0 48)).toInt := congrArg Int32.toInt ((ajV1532 0 48 rfl).trans ((ajV1522 0 48 rfl).trans ((ajV1301 0 48 rfl).trans ((ajV1173 0 48 rfl).trans (ajV795 0 48 rfl)))))
                      have rw1536 : RoV 35 bq V V1532 := (fun k hk => ((ajV1532 35 k rfl).trans ((ajV1522 35 k rfl).trans ((ajV1301 35 k rfl).trans ((ajV1173 35 k rfl).trans ((ajV795 35 k rfl).trans rfl))))))
                      have rw1537 : RoV 37 bq V V1532 := (fun k hk => ((ajV1532 37 k rfl).trans ((ajV1522 37 k rfl).trans ((ajV1301 37 k rfl).trans ((ajV1173 37 k rfl).trans ((ajV795 37 k rfl).trans rfl))))))
                      have rw1538 : RoL 36 20 bq L L := (fun k hk => rfl)
                      have rw1539 : RoL 38 20 bq L L := (fun k hk => rfl)
                      exact W.vret hx hb hr (fun t ht hW => ⟨⟨(V1532, L), rfl, ⟨hMV1532, agV1532, alL, (Imp.mk (fun hp => have hp : (V1532 0 8).toInt = 0 := hp; (show (V1532 0 48).toInt ≤ 2 * (V1532 0 7).toInt from by omega))), (show (V1532 0 48).toInt ≤ 8120 from by omega), (Or.inr ⟨(show 1 ≤ (V1532 0 8).toInt from by (first | exact om_e3c391a03e81 t1520 t1531 | omega)), (fun k => by rw [show (V1532 0 8).toInt = (V1522 0 8).toInt from by omega]; exact hb1526 k)⟩), rw1536, rw1537, rw1538, rw1539⟩, by rw [ht]; exact hP, va_K.moved hW.alike hK, hD⟩, hS.F ht⟩) hS.2.2 dX12_member_193
                    · skip
                      have f1540 : z1297.toInt ≠ 0 := b_neq rfl (by decide) c1514
                      exfalso; (first | exact om_fb320d7600b7 rgz1297.1 q1303 f1540 | omega)
                · skip
                  have f1541 : z1169.toInt ≠ 0 := b_neq rfl (by decide) c1294
                  exfalso; (first | exact om_fb320d7600b7 rgz1169.1 q1175 f1541 | omega)
          · skip
            have f1542 : z791.toInt ≠ 0 := b_neq rfl (by decide) c918
            exfalso; (first | exact om_fb320d7600b7 rgz791.1 q797 f1542 | omega)
    · skip
      have f1543 : z5.toInt ≠ 0 := b_neq rfl (by decide) c159
      exfalso; (first | exact om_fb320d7600b7 rgz5.1 q9 f1543 | omega)
