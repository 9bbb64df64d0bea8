/-! the methods' table never shrinks -/
def GL (N : Nat) : Cf → Prop
  | .inl c => N ≤ (c.1.2.1 3).length
  | .inr _ => True
section GLs
variable {N : Nat} {T : Tk} {s : St}
theorem GL.ub (f : Nat → List Int64) (t : Nat) (w : Int64) (h : N ≤ (f 3).length) : N ≤ (upB f t w 3).length := by
  unfold upB
  split
  · rw [List.length_append]; exact Nat.le_trans h (Nat.le_add_right _ _)
  · exact h
theorem GL.i2 {p : Prop} [Decidable p] {a b : Cf} (ha : GL N a) (hb : GL N b) : GL N (if p then a else b) := by
  split
  · exact ha
  · exact hb
theorem GL.lk {l : List Int64} {k : Nat → Cf} (h : ∀ f, GL N (k f)) : GL N (look T s l k) := by
  unfold look
  split
  · exact trivial
  · split
    · exact trivial
    · exact h _
theorem GL.nw {k : Int64 → Cf} (h : ∀ f, GL N (k f)) : GL N (newN T s k) := by
  unfold newN
  split
  · exact trivial
  · split
    · exact trivial
    · exact h _
theorem GL.nb {j : Nat} {k : Nat × St → Cf} (hs : N ≤ (s.2.1 3).length) (h : ∀ x : Nat × St, N ≤ (x.2.2.1 3).length → GL N (k x)) : GL N (nbrW T s j k) := by
  unfold nbrW
  split
  · exact h _ hs
  · split
    · exact trivial
    · exact h _ (GL.ub _ _ _ hs)
theorem GL.mw {j : Nat} {k : Nat × St → Cf} (hs : N ≤ (s.2.1 3).length) (h : ∀ x : Nat × St, N ≤ (x.2.2.1 3).length → GL N (k x)) : GL N (mthW T s j k) := by
  unfold mthW
  split
  · exact trivial
  · exact GL.nb hs h
theorem GL.mn {k : Nat × St → Cf} (hs : N ≤ (s.2.1 3).length) (h : ∀ x : Nat × St, N ≤ (x.2.2.1 3).length → GL N (k x)) : GL N (mthN T s k) := by
  unfold mthN
  split
  · exact trivial
  · exact GL.mw hs h
theorem GL.nu {lo hi : Int} {k : Nat → Cf} (h : ∀ v, GL N (k v)) : GL N (numW T s lo hi k) := by
  unfold numW
  exact GL.i2 trivial (GL.i2 trivial (h _))
theorem GL.it {k : List It} (h : N ≤ (s.2.1 3).length) : (i : It) → GL N (itW T s k i)
  | (0, _, _, _, _, _) => GL.i2 h trivial
  | (1, _, _, _, _, _) => h
  | (2, _, _, _, _, _) => GL.i2 h h
  | (3, _, _, _, _, _) => h
  | (4, _, _, _, _, _) => GL.i2 h h
  | (5, _, _, _, _, _) => h
  | (6, _, _, _, _, _) => GL.i2 h h
  | (7, _, _, _, _, _) => GL.i2 trivial (GL.i2 trivial (by unfold partW; exact GL.i2 h (GL.i2 h (GL.i2 h (GL.i2 h (GL.i2 h (GL.i2 h (GL.i2 h h))))))))
  | (8, _, _, _, _, _) => GL.i2 trivial (GL.i2 trivial h)
  | (9, _, _, _, _, _) => GL.lk (fun _ => h)
  | (10, _, _, _, _, _) => GL.mw h (fun _ q => q)
  | (11, _, _, _, _, _) => GL.mw h (fun _ q => q)
  | (12, _, _, _, _, _) => by
    show GL N (stmtW T s k)
    unfold stmtW
    exact GL.i2 trivial (GL.i2 (GL.i2 trivial h) (GL.i2 (GL.i2 trivial h) (GL.i2 (GL.i2 trivial h) (GL.i2 (GL.i2 trivial h) trivial))))
  | (13, _, _, _, _, _) => GL.nw (k := fun w => Crun (nx s 1) (Ilike w :: k)) (fun _ => h)
  | (14, _, _, _, _, _) => GL.lk (fun _ => GL.i2 trivial (GL.i2 trivial h))
  | (15, _, _, _, w, _) => GL.ub s.2.1 0 w h
  | (16, _, _, _, _, _) => GL.nw (k := fun w => Crun (nx s 1) (IsetN w :: k)) (fun _ => h)
  | (17, _, _, _, w, _) => GL.ub s.2.1 1 w h
  | (18, _, _, _, _, _) => GL.nw (k := fun w => Crun (nx s 1) (Itake 132 :: Itypes 1 w 0 [] :: k)) (fun _ => h)
  | (19, _, _, _, _, _) => GL.i2 trivial h
  | (20, _, _, _, _, _) => GL.i2 h h
  | (21, _, _, _, _, _) => GL.i2 h h
  | (22, _, _, _, _, _) => GL.i2 h h
  | (23, _, _, _, w, _) => GL.ub s.2.1 2 w h
  | (24, _, _, _, _, _) => by
    show GL N (memberW T s k)
    unfold memberW
    exact GL.i2 h (GL.i2 (GL.i2 trivial h) (GL.i2 (GL.i2 trivial h) (GL.i2 (GL.i2 trivial h) (GL.i2 h trivial))))
  | (25, _, _, _, _, _) => GL.lk (fun _ => GL.i2 h h)
  | (26, _, _, _, _, _) => h
  | (27, _, _, _, _, _) => GL.mn h (fun _ q => q)
  | (28, _, _, _, _, _) => GL.lk (fun _ => h)
  | (29, _, _, _, _, _) => GL.mw h (fun _ q => q)
  | (30, _, _, _, _, _) => GL.i2 trivial (GL.i2 trivial h)
  | (31, _, _, _, _, _) => h
  | (32, _, _, _, _, _) => GL.i2 h h
  | (33, _, _, _, _, _) => GL.i2 h h
  | (34, _, _, _, _, _) => GL.i2 h (GL.i2 h h)
  | (35, _, _, _, _, _) => GL.i2 h h
  | (36, _, _, _, w, _) => GL.nu (T := T) (s := s) (lo := 0) (hi := 999999999) (k := fun v => Crun (nx s 1) (Itake 59 :: IaddSe w v :: Istmt :: k)) (fun _ => h)
  | (37, _, _, _, _, _) => GL.i2 h h
  | (38, _, _, _, _, _) => GL.mw h (fun _ q => q)
  | (39, m, sc, _, w, l) => GL.nu (T := T) (s := s) (lo := 0) (hi := 9) (k := fun v => Crun (nx s 1) (IwhenI m sc w (v :: l) :: k)) (fun _ => h)
  | (40, _, _, _, _, _) => GL.lk (fun _ => h)
  | (41, m, sc, _, w, l) => GL.nu (T := T) (s := s) (lo := 0) (hi := 999999999) (k := fun v => Crun (nx s 1) (Itake 123 :: IaddNm m sc w (v :: l) :: Imember :: k)) (fun _ => h)
  | (_ + 42, _, _, _, _, _) => h
theorem GL.st {c : Cf} (h : GL N c) : GL N (mst T c) := by
  cases c with
  | inr c => exact trivial
  | inl c =>
    obtain ⟨s, k⟩ := c
    cases k with
    | nil => exact h
    | cons i k => exact GL.it (s := s) h i
theorem GL.run (n : Nat) : ∀ {c : Cf}, GL N c → GL N (mrun T n c) := by
  induction n with
  | zero => exact fun h => h
  | succ n ih => exact fun h => ih (GL.st h)
end GLs
theorem Rc.ml {T : Tk} {s s' : St} {k k' : List It} (h : Rc T (Crun s k) (Crun s' k')) : (s.2.1 3).length ≤ (s'.2.1 3).length := by
  obtain ⟨n, e⟩ := h
  have z : GL (s.2.1 3).length (mrun T n (Crun s k)) := GL.run n (Nat.le_refl _)
  rw [e] at z
  exact z
/-! members of the reference -/
theorem nar_01 {z : Int32} (h : z.toInt = 0 ∨ z.toInt = 1) : (vp_nar .boolean z).toInt = z.toInt := by
  rcases h with h | h
  · have e : z = 0 := Int32.toInt_inj.mp h
    subst e
    decide
  · have e : z = 1 := Int32.toInt_inj.mp h
    subst e
    decide
theorem mb_f {T : Tk} {s : St} {k : List It} (h1 : T.1 (s.1 0) ≠ 125) (h2 : T.1 (s.1 0) ≠ 137) (h3 : T.1 (s.1 0) ≠ 140 ∨ s.1 2 = 1) (h4 : T.1 (s.1 0) ≠ 141 ∨ s.1 3 = 1) (h5 : T.1 (s.1 0) ≠ 142) : mst T (Crun s (Imember :: k)) = fl T s 1 := by
  by_cases c : T.1 (s.1 0) = 140
  · exact mb_140f c (h3.resolve_left (fun q => q c))
  · by_cases d : T.1 (s.1 0) = 141
    · exact mb_141f d (h4.resolve_left (fun q => q d))
    · exact mb_x h1 h2 c d h5
theorem mth_k3 {T : Tk} {s : St} {j : Nat} {x : Nat × St} (h : ∀ kk, mthW T s j kk = kk x) : T.1 (s.1 0) = 3 := by
  by_cases c : T.1 (s.1 0) = 3
  · exact c
  · have z := (mth_1 (j := j) c (fun _ => Cdone s)).symm.trans (h _)
    unfold fl at z
    exact absurd z (fun e => by cases e)
theorem MTX.told {T : Tk} {s : St} {x : Nat × St} (m : MTX T s 3 x) (t : x.1 ∈ s.2.2.2) (l : ∀ f ∈ s.2.2.2, f < (s.2.1 3).length) : mTold s (T.2.1 (s.1 0)) = true ∧ x.2 = nx s 1 := by
  rcases m with ⟨a, b⟩ | ⟨a, b, c⟩
  · exact ⟨(mTold_s a).trans (List.contains_iff_mem.mpr t), b⟩
  · have z := l _ t
    omega
theorem MTX.new {T : Tk} {s : St} {x : Nat × St} (m : MTX T s 3 x) (h : ∀ kk, mthW T s 3 kk = kk x) (t : x.1 ∉ s.2.2.2) (kk : Nat × St → Cf) : mthN T s kk = kk x := by
  have hn : mTold s (T.2.1 (s.1 0)) = false := by
    rcases m with ⟨a, b⟩ | ⟨a, b, c⟩
    · rw [mTold_s a]
      exact Bool.eq_false_iff.mpr (fun q => t (List.contains_iff_mem.mp q))
    · exact mTold_n a
  exact (mthN_y (fun q => by rw [hn] at q; exact absurd q.2 (by decide)) kk).trans (h kk)
theorem MTX.le {T : Tk} {s : St} {x : Nat × St} (m : MTX T s 3 x) : (s.2.1 3).length ≤ (x.2.2.1 3).length ∧ x.1 < (x.2.2.1 3).length := by
  rcases m with ⟨a, b⟩ | ⟨a, b, c⟩
  · rw [b]
    refine ⟨Nat.le_refl _, ?_⟩
    unfold fndI at a
    rw [List.findIdx?_eq_some_iff_getElem] at a
    exact a.1
  · have e : (x.2.2.1 3).length = (s.2.1 3).length + 1 := by
      rw [c]
      show ((if 3 = 3 then s.2.1 3 ++ [T.2.1 (s.1 0)] else s.2.1 3)).length = _
      rw [if_pos rfl, List.length_append]
      rfl
    omega
theorem RelM.tl {V : Vf} {L : Lf} {q n : Nat} {T : Tk} {s : St} {l2 : List Int64} {l : List Nat} (h : RelM V L q n T s l2) : RelM V L q n T (sT s l) l2 := h
theorem EM.o {V : Vf} {o : Nat} {s : St} (h : OWm V o s) (e51 : (V 0 51).toInt = (o : Int)) (e52 : (V 0 52).toInt = 0) : EM V s := by
  have k : Int32.toNatClampNeg (V 0 51) = o := by
    have := i_clamp (x := V 0 51) rfl (by omega)
    omega
  have z := h.2.2.2.1
  refine ⟨⟨fun _ => z, fun _ => by omega⟩, ⟨fun q => by omega, fun q => by omega⟩, fun _ => ?_⟩
  rw [k]
  exact h.1
theorem EM.o2 {V : Vf} {o : Nat} {s : St} (c27 : (V 27 o).toInt = ((s.1 1 : Nat) : Int)) (z : s.1 4 = 0) (e51 : (V 0 51).toInt = (o : Int)) (e52 : (V 0 52).toInt = 0) : EM V s := by
  have k : Int32.toNatClampNeg (V 0 51) = o := by
    have := i_clamp (x := V 0 51) rfl (by omega)
    omega
  refine ⟨⟨fun _ => z, fun _ => by omega⟩, ⟨fun q => by omega, fun q => by omega⟩, fun _ => ?_⟩
  rw [k]
  exact c27
section OWs
variable {V W : Vf} {o m : Nat} {s s' : St}
theorem OWm.nd (h : OWm V o s) (k : keepS s m s') (l : (s.2.1 3).length ≤ (s'.2.1 3).length) (e27 : (W 27 o).toInt = (V 27 o).toInt + 1) (e32 : W 32 o = V 32 o) (e33 : W 33 o = V 33 o) (e34 : ∀ f, f < 20 → W 34 (20 * o + f) = V 34 (20 * o + f)) {a : Int} {f9 c9 : Nat} : OWm W o (ndS s' a f9 c9) := by
  have k1 := k.2.1 1 (by decide)
  have n1 : (ndS s' a f9 c9).1 1 = s.1 1 + 1 := (show ndf s'.1 ((s'.2.1 2).length - 1) a.toNat f9 c9 1 = s.1 1 + 1 from (ndf_1 _ _ _ _ _).trans (congrArg (· + 1) k1))
  have n2 : (ndS s' a f9 c9).1 2 = s.1 2 := (show ndf s'.1 ((s'.2.1 2).length - 1) a.toNat f9 c9 2 = s.1 2 from (ndf_lo (by decide) (by decide)).trans (k.2.1 2 (by decide)))
  have n3 : (ndS s' a f9 c9).1 3 = s.1 3 := (show ndf s'.1 ((s'.2.1 2).length - 1) a.toNat f9 c9 3 = s.1 3 from (ndf_lo (by decide) (by decide)).trans (k.2.1 3 (by decide)))
  have n4 : (ndS s' a f9 c9).1 4 = s.1 4 := (show ndf s'.1 ((s'.2.1 2).length - 1) a.toNat f9 c9 4 = s.1 4 from (ndf_lo (by decide) (by decide)).trans (k.2.1 4 (by decide)))
  refine ⟨?_, ?_, ?_, ?_, ?_, ?_⟩
  · rw [e27, h.1, n1]
    omega
  · rw [e32, n2]
    exact h.2.1
  · rw [e33, n3]
    exact h.2.2.1
  · rw [n4]
    exact h.2.2.2.1
  · intro f hf
    show _ ↔ f ∈ s'.2.2.2
    rw [e34 f hf, k.2.2.2]
    exact h.2.2.2.2.1 f hf
  · show ∀ f ∈ s'.2.2.2, f < (s'.2.1 3).length
    rw [k.2.2.2]
    exact fun f hf => Nat.lt_of_lt_of_le (h.2.2.2.2.2 f hf) l
theorem OWm.op (h : OWm V o s) (k : keepS (nx (sN s 2 1) 1) m s') (l : (s.2.1 3).length ≤ (s'.2.1 3).length) (e27 : W 27 o = V 27 o) (c32 : 0 ≤ (W 32 o).toInt) (e33 : W 33 o = V 33 o) (e34 : ∀ f, f < 20 → W 34 (20 * o + f) = V 34 (20 * o + f)) : OWm W o s' := by
  have k1 : s'.1 1 = s.1 1 := k.2.1 1 (by decide)
  have k2 : s'.1 2 = 1 := k.2.1 2 (by decide)
  have k3 : s'.1 3 = s.1 3 := k.2.1 3 (by decide)
  have k4 : s'.1 4 = s.1 4 := k.2.1 4 (by decide)
  have kt : s'.2.2 = s.2.2 := k.2.2.2
  refine ⟨by rw [e27, k1]; exact h.1, ⟨fun q => absurd q (by omega), fun q => absurd k2 q⟩, by rw [e33, k3]; exact h.2.2.1, by rw [k4]; exact h.2.2.2.1, fun f hf => by rw [e34 f hf, kt]; exact h.2.2.2.2.1 f hf, by rw [kt]; exact fun f hf => Nat.lt_of_lt_of_le (h.2.2.2.2.2 f hf) l⟩
theorem OWm.cl (h : OWm V o s) (k : keepS (nx (sN s 3 1) 1) m s') (l : (s.2.1 3).length ≤ (s'.2.1 3).length) (e27 : W 27 o = V 27 o) (e32 : W 32 o = V 32 o) (c33 : 0 ≤ (W 33 o).toInt) (e34 : ∀ f, f < 20 → W 34 (20 * o + f) = V 34 (20 * o + f)) : OWm W o s' := by
  have k1 : s'.1 1 = s.1 1 := k.2.1 1 (by decide)
  have k2 : s'.1 2 = s.1 2 := k.2.1 2 (by decide)
  have k3 : s'.1 3 = 1 := k.2.1 3 (by decide)
  have k4 : s'.1 4 = s.1 4 := k.2.1 4 (by decide)
  have kt : s'.2.2 = s.2.2 := k.2.2.2
  refine ⟨by rw [e27, k1]; exact h.1, by rw [e32, k2]; exact h.2.1, ⟨fun q => absurd q (by omega), fun q => absurd k3 q⟩, by rw [k4]; exact h.2.2.2.1, fun f hf => by rw [e34 f hf, kt]; exact h.2.2.2.2.1 f hf, by rw [kt]; exact fun f hf => Nat.lt_of_lt_of_le (h.2.2.2.2.2 f hf) l⟩
theorem OWm.mt {x : Nat × St} {a : St} (h : OWm V o s) (ka : keepS s m a) (la : (s.2.1 3).length ≤ (a.2.1 3).length) (kx : keepS a 1 x.2) (lx : (a.2.1 3).length ≤ (x.2.2.1 3).length) (hx : x.1 < (x.2.2.1 3).length) (k : keepS (sT x.2 (x.1 :: a.2.2.2)) m s') (l : (x.2.2.1 3).length ≤ (s'.2.1 3).length) (e27 : W 27 o = V 27 o) (e32 : W 32 o = V 32 o) (e33 : W 33 o = V 33 o) (c34 : 0 ≤ (W 34 (20 * o + x.1)).toInt) (e34 : ∀ f, f < 20 → f ≠ x.1 → W 34 (20 * o + f) = V 34 (20 * o + f)) : OWm W o s' := by
  have kk : ∀ i, 1 ≤ i → s'.1 i = s.1 i := fun i hi => ((k.2.1 i hi).trans (kx.2.1 i hi)).trans (ka.2.1 i hi)
  have kt : s'.2.2.2 = x.1 :: s.2.2.2 := by
    have z : s'.2.2.2 = x.1 :: a.2.2.2 := congrArg (fun q => q.2) k.2.2.2
    have z2 : a.2.2.2 = s.2.2.2 := congrArg (fun q => q.2) ka.2.2.2
    rw [z, z2]
  refine ⟨by rw [e27, kk 1 (by decide)]; exact h.1, by rw [e32, kk 2 (by decide)]; exact h.2.1, by rw [e33, kk 3 (by decide)]; exact h.2.2.1, by rw [kk 4 (by decide)]; exact h.2.2.2.1, fun f hf => ?_, fun f hf => ?_⟩
  · rw [kt, List.mem_cons]
    by_cases c : f = x.1
    · rw [c]
      exact ⟨fun _ => Or.inl rfl, fun _ => c34⟩
    · rw [e34 f hf c, h.2.2.2.2.1 f hf]
      exact ⟨fun q => Or.inr q, fun q => q.elim (fun z => absurd z c) id⟩
  · rw [kt, List.mem_cons] at hf
    rcases hf with hf | hf
    · omega
    · have := h.2.2.2.2.2 f hf
      omega
end OWs
theorem keepC.tn {s : St} {i v n : Nat} (h : i < 10) : keepC (nx s n) (nx (sN s i v) n) := ⟨fun j hj => by
  show upN (upN s.1 i v) 0 (upN s.1 i v 0 + n) j = upN s.1 0 (s.1 0 + n) j
  rw [upN_o _ _ _ (show j ≠ 0 from by omega), upN_o _ _ _ (show j ≠ i from by omega), upN_o _ _ _ (show j ≠ 0 from by omega)], fun _ _ => rfl⟩
/-! a need of the reference -/
def NDW (o p : Nat) (V W : Vf) (a : Int) (f ca : Nat) : Prop := (∀ x k : Nat, 28 ≤ x → x ≤ 31 → k ≠ p → W x k = V x k) ∧ (W 28 p).toInt = ((f : Nat) : Int) ∧ ((W 29 p).toInt = 1 ↔ a.toNat = 1) ∧ ((W 30 p).toInt = 1 ↔ a.toNat = 2) ∧ (W 31 p).toInt + 1 = ((ca : Nat) : Int) ∧ ∀ k, k ≠ o → W 27 k = V 27 k
abbrev RdN (T : Tk) (s : St) (flt : Int) (P : St → Int → Nat → Nat → Prop) : Prop := (flt = 0 ∧ ∃ (s' : St) (a : Int) (f ca : Nat), (∀ k, Rc T (Crun s (IneedK :: k)) (Crun s' (Itake 59 :: IaddNeed a f ca :: Imember :: k))) ∧ P s' a f ca) ∨ (1 ≤ flt ∧ ∀ k, Rc T (Crun s (IneedK :: k)) (Cbad flt))
def okQm (fs : List (Nat × Nat)) (cs : List Nat) : Bool := cs.all (fun c => !([15, 18, 21, 22, 23, 24, 25, 26].contains c)) && fs.all (fun x => !(([] : List (Nat × Nat)).contains x) && decide (x.1 ≤ 0))
theorem CNm.nd2 {V W : Vf} {q o f ca : Nat} {a : Int} {s : St} {fs : List (Nat × Nat)} {cs : List Nat} (h : CNm V q s) (ho : o + 1 = 24 * q + (s.2.1 2).length) (hb : 24 * q ≤ o) (h1 : (V 27 o).toInt = ((s.1 1 : Nat) : Int)) (h8 : s.1 1 < 8) (ag : agr fs cs V W) (k : okQm fs cs = true) (n27 : (W 27 o).toInt = (V 27 o).toInt + 1) (w : NDW o (8 * o + s.1 1) V W a f ca) : CNm W q (ndS s a f ca) := by
  refine h.nd ho hb h1 h8 (funext fun q => okm_use ag k (x := 15) rfl (Or.inl (by decide))) (funext fun q => okm_use ag k (x := 18) rfl (Or.inl (by decide))) (fun x a1 a2 => ?_) w.2.2.2.2.2 n27 w.1 w.2.1 w.2.2.1 w.2.2.2.1 w.2.2.2.2.1
  have z : x = 21 ∨ x = 22 ∨ x = 23 ∨ x = 24 ∨ x = 25 ∨ x = 26 := by omega
  rcases z with z | z | z | z | z | z <;> (subst z; exact funext fun q => okm_use ag k rfl (Or.inl (by decide)))
theorem HDn.mv6 {V W : Vf} {o m sc ca ra ws wv : Nat} (h : HDn V o m sc ca ra ws wv) (e0 : ∀ g, g < 24 → W 21 (24 * o + g) = V 21 (24 * o + g)) (e22 : W 22 o = V 22 o) (e23 : W 23 o = V 23 o) (e24 : W 24 o = V 24 o) (e25 : W 25 o = V 25 o) (e26 : W 26 o = V 26 o) : HDn W o m sc ca ra ws wv := by
  unfold HDn at h ⊢
  rw [e22, e23, e24, e25, e26]
  exact ⟨fun g hg => by rw [e0 g hg]; exact h.1 g hg, h.2⟩


abbrev r_s_takeNeedB : Room := { frames := 0, cells := 0, slots := 0, locals := 0 }
abbrev q_s_takeNeedB (D : va_G) (ks : KS) (ad : Nat → Nat) (kk : Nat → ClassId) (V : Vf) (L : Lf) (p0 : Int32) (A : Nat → Prop) : Array Value → State → Outcome → State → Prop := va_Qv (fun (u : Vf × Lf) => rgd bM u.1 ∧ agr [(0, 7), (0, 8)] [27, 28, 29, 30, 31, 35, 36, 37, 38] V u.1 ∧ agL [27, 28, 29, 30, 31, 35, 36, 37, 38] L u.2 ∧ ((u.1 0 8).toInt = (V 0 8).toInt) ∧ (NoV 35 V u.1) ∧ (NoV 37 V u.1) ∧ (NoL 36 L u.2) ∧ (NoL 38 L u.2)) (fun u t => gq D A (mw ad kk ks.1 u.1 u.2) (mty kk) t) A
set_option maxHeartbeats 4000000 in
set_option maxRecDepth 100000 in
theorem s_takeNeedB (l : Launch) (D : va_G) (ks : KS) (sz : Nat) (ad : Nat → Nat) (kk : Nat → ClassId) (V : Vf) (L : Lf) (p0 : Int32) (hMV : rgd bM V) (rg_p0 : 0 ≤ p0.toInt ∧ p0.toInt ≤ 47) (bf : 1 ≤ (V 0 8).toInt)  : Met l yX12_takeNeed (Cond.code yX12_takeNeed cX12_takeNeed 3 none :: GW) r_s_takeNeedB (va_Pc [.ref (ad 0), .int p0] (gp D ks (mw ad kk ks.1 V L) (mty kk) sz)) (q_s_takeNeedB D ks ad kk V L p0 (va_A (mw ad kk ks.1 V L) sz)) 0 0 (va_A (mw ad kk ks.1 V L) sz) := by
  refine g_met (q_s_takeNeedB D ks ad kk V L p0) (by decide) (Nat.le_of_ble_eq_true rfl) ?_
  intro p e s m below meth c A ls H locs hx hb hr hml hown hg hlocks hin hnw hgk hP hK hD hS hA hl
  have hown : s.vm.findClass RX12 = some m.cls := hown
  have hl : lv_has ls 3 [(0, .ref (ad 0)), (1, .int p0)] := hl
  have hP : va_P D vwCl (mw ad kk ks.1 V L) H := hP
  have hD : va_D A (mw ad kk ks.1 V L) := hD
  have hK : va_K D vwCl (mty kk) s := hK
  have agV : agr [(0, 7), (0, 8)] [27, 28, 29, 30, 31, 35, 36, 37, 38] V V := agr.rf
  have alL : agL [27, 28, 29, 30, 31, 35, 36, 37, 38] L L := agL.rf
  have rf_p0 := i_full p0
  have r1 : 0 ≤ ((V 0 8)).toInt ∧ ((V 0 8)).toInt ≤ 70000 := hMV 0 8
  refine lv_aload_n hx hb dX12_takeNeed_0 rfl (lv_at hl 0 rfl) ?_
  refine va_get (D := D) (ci := 12) (v := .int (V 0 8)) (C := RX12) (T := TX12) (N := 100) hx hb hg inX12 hown hK hP 0 rfl rfl 8 (by decide) (hg _ w1718) (fun _ h9 => h9) rfl dX12_takeNeed_1 ?_
  refine lv_if_le (tgt := 8) hx hb dX12_takeNeed_4 (by decide) (fun c2 => ?_) (fun c2 => ?_)
  · skip
    have f3 : ((V 0 8)).toInt ≤ 0 := b_le rfl (by decide) c2
    exfalso; omega
  · skip
    have f4 : 0 < ((V 0 8)).toInt := b_nle rfl (by decide) c2
    have rw5 : NoV 35 V V := (fun k => rfl)
    have rw6 : NoV 37 V V := (fun k => rfl)
    have rw7 : NoL 36 L L := (fun k => rfl)
    have rw8 : NoL 38 L L := (fun k => rfl)
    exact W.vret hx hb hr (fun t ht hW => ⟨⟨(V, L), rfl, ⟨hMV, agV, alL, (show (V 0 8).toInt = (V 0 8).toInt from by omega), rw5, rw6, rw7, rw8⟩, by rw [ht]; exact hP, va_K.moved hW.alike hK, hD⟩, hS.F ht⟩) hS.2.2 dX12_takeNeed_7
abbrev r_s_takeNeedA : Room := { frames := 3, cells := 0, slots := 0, locals := 71 }
abbrev q_s_takeNeedA (D : va_G) (ks : KS) (ad : Nat → Nat) (kk : Nat → ClassId) (V : Vf) (L : Lf) (p0 : Int32) (bq : Nat) (gn : Nat) (gT : Tk) (gs : St) (gl : List Int64) (gc : Nat) (A : Nat → Prop) : Array Value → State → Outcome → State → Prop := va_Qv (fun (u : Vf × Lf) => rgd bM u.1 ∧ agr [(0, 7), (0, 8)] [27, 28, 29, 30, 31, 35, 36, 37, 38] V u.1 ∧ agL [27, 28, 29, 30, 31, 35, 36, 37, 38] L u.2 ∧ ((u.1 27 gc).toInt = (V 27 gc).toInt + 1) ∧ (RdN gT gs (u.1 0 8).toInt (fun s9 a9 f9 c9 => RelM u.1 u.2 bq gn gT s9 gl ∧ keepS gs 1 s9 ∧ NDW gc (8 * gc + (V 27 gc).toInt.toNat) V u.1 a9 f9 c9)) ∧ (RoV 35 bq V u.1) ∧ (RoV 37 bq V u.1) ∧ (RoL 36 20 bq L u.2) ∧ (RoL 38 20 bq L u.2)) (fun u t => gq D A (mw ad kk ks.1 u.1 u.2) (mty kk) t) A
set_option maxHeartbeats 4000000 in
set_option maxRecDepth 100000 in
theorem s_takeNeedA (l : Launch) (D : va_G) (ks : KS) (sz : Nat) (ad : Nat → Nat) (kk : Nat → ClassId) (V : Vf) (L : Lf) (p0 : Int32) (bq : Nat) (gn : Nat) (gT : Tk) (gs : St) (gl : List Int64) (gc : Nat) (hMV : rgd bM V) (rg_p0 : 0 ≤ p0.toInt ∧ p0.toInt ≤ 47) (rel : RelM V L bq gn gT gs gl) (pgc : p0.toInt = (gc : Int)) (gc48 : gc < 48) (n7 : (V 27 gc).toInt ≤ 7)  : Met l yX12_takeNeed (Cond.code yX12_takeNeed cX12_takeNeed 3 none :: GW) r_s_takeNeedA (va_Pc [.ref (ad 0), .int p0] (gp D ks (mw ad kk ks.1 V L) (mty kk) sz)) (q_s_takeNeedA D ks ad kk V L p0 bq gn gT gs gl gc (va_A (mw ad kk ks.1 V L) sz)) 0 0 (va_A (mw ad kk ks.1 V L) sz) := by
  refine g_met (q_s_takeNeedA D ks ad kk V L p0 bq gn gT gs gl gc) (by decide) (Nat.le_of_ble_eq_true rfl) ?_
  intro p e s m below meth c A ls H locs hx hb hr hml hown hg hlocks hin hnw hgk hP hK hD hS hA hl
  have hown : s.vm.findClass RX12 = some m.cls := hown
  have hl : lv_has ls 3 [(0, .ref (ad 0)), (1, .int p0)] := hl
  have hP : va_P D vwCl (mw ad kk ks.1 V L) H := hP
  have hD : va_D A (mw ad kk ks.1 V L) := hD
  have hK : va_K D vwCl (mty kk) s := hK
  have agV : agr [(0, 7), (0, 8)] [27, 28, 29, 30, 31, 35, 36, 37, 38] V V := agr.rf
  have alL : agL [27, 28, 29, 30, 31, 35, 36, 37, 38] L L := agL.rf
  have rf_p0 := i_full p0
  have r1 : 0 ≤ ((V 27 gc)).toInt ∧ ((V 27 gc)).toInt ≤ 8 := hMV 27 gc
  have rg0 := RelM.rg rel
  have cl0 := RelM.cl rel
  have cq0 := RelM.cq rel
  have kgc : Int32.toNatClampNeg p0 = gc := by have h9 := i_clamp (x := p0) rfl (by omega); omega
  have q27 : (V 27 (Int32.toNatClampNeg p0)).toInt = (V 27 gc).toInt := by rw [kgc]
  have q32 : (V 32 (Int32.toNatClampNeg p0)).toInt = (V 32 gc).toInt := by rw [kgc]
  have q33 : (V 33 (Int32.toNatClampNeg p0)).toInt = (V 33 gc).toInt := by rw [kgc]
  refine lv_aload_n hx hb dX12_takeNeed_0 rfl (lv_at hl 0 rfl) ?_
  refine va_get (D := D) (ci := 12) (v := .int (V 0 8)) (C := RX12) (T := TX12) (N := 100) hx hb hg inX12 hown hK hP 0 rfl rfl 8 (by decide) (hg _ w1718) (fun _ h9 => h9) rfl dX12_takeNeed_1 ?_
  have r2 : 0 ≤ ((V 0 8)).toInt ∧ ((V 0 8)).toInt ≤ 70000 := hMV 0 8
  refine lv_if_le (tgt := 8) hx hb dX12_takeNeed_4 (by decide) (fun c3 => ?_) (fun c3 => ?_)
  · skip
    have f4 : ((V 0 8)).toInt ≤ 0 := b_le rfl (by decide) c3
    refine lv_bipush (v := 8) hx hb dX12_takeNeed_8 (by decide) ?_
    refine lv_iload_n hx hb dX12_takeNeed_10 rfl (lv_at hl 1 rfl) ?_
    refine lv_imul hx hb dX12_takeNeed_11 ?_
    refine lv_topi (fun z5 ez5 => ?_)
    have hz5 : z5.toInt = 8 * p0.toInt := i_mul ez5 (by decide) rfl (by omega)
    refine lv_aload_n hx hb dX12_takeNeed_12 rfl (lv_at hl 0 rfl) ?_
    refine va_get (D := D) (ci := 12) (v := .ref (ad 27)) (C := RX12) (T := TX12) (N := 100) hx hb hg inX12 hown hK hP 0 rfl rfl 27 (by decide) (hg _ w1737) (fun _ h9 => h9) rfl dX12_takeNeed_13 ?_
    refine lv_iload_n hx hb dX12_takeNeed_16 rfl (lv_at hl 1 rfl) ?_
    refine va_iald (D := D) (i := p0) hx hb hK hP 20 19 rfl rfl (i_in (a := p0.toInt) rfl (by omega)) dX12_takeNeed_17 ?_
    have r6 : 0 ≤ ((V 27 (Int32.toNatClampNeg p0))).toInt ∧ ((V 27 (Int32.toNatClampNeg p0))).toInt ≤ 8 := hMV 27 (Int32.toNatClampNeg p0)
    refine lv_iadd hx hb dX12_takeNeed_18 ?_
    refine lv_topi (fun z7 ez7 => ?_)
    have hz7 : z7.toInt = z5.toInt + ((V 27 (Int32.toNatClampNeg p0))).toInt := i_add ez7 rfl rfl (by omega)
    refine lv_istore_n (lv' := [(2, .int z7), (0, .ref (ad 0)), (1, .int p0)]) hx hb dX12_takeNeed_19 rfl hl (by decide) rfl (fun ls hl => ?_)
    refine lv_aload_n hx hb dX12_takeNeed_20 rfl (lv_at hl 1 rfl) ?_
    refine va_get (D := D) (ci := 12) (v := .ref (ad 29)) (C := RX12) (T := TX12) (N := 100) hx hb hg inX12 hown hK hP 0 rfl rfl 29 (by decide) (hg _ w1739) (fun _ h9 => h9) rfl dX12_takeNeed_21 ?_
    refine lv_iload_n hx hb dX12_takeNeed_24 rfl (lv_at hl 0 rfl) ?_
    refine lv_aload_n hx hb dX12_takeNeed_25 rfl (lv_at hl 1 rfl) ?_
    refine lv_bipush (v := 10) hx hb dX12_takeNeed_26 (by decide) ?_
    have r8 : Int32.toInt 10 = 10 := by decide
    refine gA_int (gA_runV (As := [.int 10]) (rest := [.int z7, .ref (ad 29)]) (ci := 12) (q0 := 0) hx hb hml hown hg hP hD hK hS hA hnw hgk (s_hasWordA l D ks H.size ad kk V L 10 (bq) (gn) (gT) (gs) (gl) hMV (by decide) rel) w2055 w2057 w90 w172 w2058 rfl rfl hdV_yX12_hasWord ⟨Nat.le_of_ble_eq_true rfl, Nat.le_of_ble_eq_true rfl⟩ rfl hl.1 rfl (Nat.le_of_ble_eq_true rfl) dX12_takeNeed_28 ⟨Nat.le_of_ble_eq_true rfl, Nat.le_of_ble_eq_true rfl⟩) hP hD hK hS hA (fun z9 u10 H locs w11 hP hD hK hS => ?_)
    obtain ⟨V13, L14⟩ := u10
    obtain ⟨hMV13, ajV13, axL14, rgz9, t12⟩ := w11
    have axL14 : L = L14 := Eq.symm axL14
    subst axL14
    have hP : va_P D vwCl (mw ad kk ks.1 V13 L) H := hP
    have hD : va_D A (mw ad kk ks.1 V13 L) := hD
    have hMV13 : rgd bM V13 := hMV13
    have ajV13 : agr [(0, 7)] [] V V13 := ajV13
    have agV13 : agr [(0, 7), (0, 8)] [27, 28, 29, 30, 31, 35, 36, 37, 38] V V13 := agV.tr ajV13 (by decide) (by decide)
    have rgz9 : 0 ≤ z9.toInt ∧ z9.toInt ≤ 1 := rgz9
    have t12 : (z9.toInt = 1 ∧ (gT).1 ((gs).1 0) = 128 + (Int32.toInt 10) ∧ RelM V13 L (bq) (gn) (gT) (nx (gs) 1) (gl)) ∨ (z9.toInt = 0 ∧ (gT).1 ((gs).1 0) ≠ 128 + (Int32.toInt 10) ∧ RelM V13 L (bq) (gn) (gT) (gs) (gl)) := t12
    rcases t12 with ⟨q15, h16, rl17⟩ | ⟨q15, h16, rl17⟩
    · skip
      have kd18 : gT.1 (gs.1 0) = 138 := h16.trans (by decide)
      have hr19 : ∀ k, Rc gT (Crun gs (IneedK :: k)) (Crun gs (IneedK :: k)) := fun k => Rc.rf
      have hr20 : ∀ k, Rc gT (Crun gs (IneedK :: k)) (Crun (nx gs 1) (IneedT 1 :: k)) := fun k => Rc.go1 (hr19 k) (needK_l kd18)
      have ps21 : (nx gs 1).1 0 = gs.1 0 + 1 := rfl
      have fz22 := RelM.rg rl17
      have pq23 : (V13 0 8).toInt = ((V 0 8)).toInt := congrArg Int32.toInt (ajV13 0 8 rfl)
      refine va_zast (D := D) (i := z7) (x := z9) hx hb hK hP hD hS 22 21 rfl rfl (i_in (a := z7.toInt) rfl (by omega)) dX12_takeNeed_31 (fun H locs hP hD hS => ?_)
      obtain ⟨V24, hV24⟩ : ∃ z, z = up2 V13 29 (Int32.toNatClampNeg z7) (vp_nar .boolean z9) := ⟨_, rfl⟩
      have hP : va_P D vwCl (mw ad kk ks.1 V24 L) H := by rw [hV24]; exact hP
      have hD : va_D A (mw ad kk ks.1 V24 L) := by rw [hV24]; exact hD
      have hMV24 : rgd bM V24 := hMV13.put hV24 (nar_b _)
      have agV24 : agr [(0, 7), (0, 8)] [27, 28, 29, 30, 31, 35, 36, 37, 38] V V24 := agV13.up hV24 rfl
      refine lv_aload_n hx hb dX12_takeNeed_32 rfl (lv_at hl 1 rfl) ?_
      refine va_get (D := D) (ci := 12) (v := .ref (ad 30)) (C := RX12) (T := TX12) (N := 100) hx hb hg inX12 hown hK hP 0 rfl rfl 30 (by decide) (hg _ w1740) (fun _ h9 => h9) rfl dX12_takeNeed_33 ?_
      refine lv_iload_n hx hb dX12_takeNeed_36 rfl (lv_at hl 0 rfl) ?_
      refine lv_aload_n hx hb dX12_takeNeed_37 rfl (lv_at hl 1 rfl) ?_
      refine va_get (D := D) (ci := 12) (v := .ref (ad 29)) (C := RX12) (T := TX12) (N := 100) hx hb hg inX12 hown hK hP 0 rfl rfl 29 (by decide) (hg _ w1739) (fun _ h9 => h9) rfl dX12_takeNeed_38 ?_
      refine lv_iload_n hx hb dX12_takeNeed_41 rfl (lv_at hl 0 rfl) ?_
      refine va_zald (D := D) (i := z7) hx hb hK hP 22 21 rfl rfl (i_in (a := z7.toInt) rfl (by omega)) dX12_takeNeed_42 ?_
      refine g_top (v := (vp_nar .boolean z9)) (up2_s hV24) ?_
      have nr25 : (vp_nar .boolean z9).toInt = z9.toInt := nar_01 (by omega)
      refine lv_if_ne (tgt := 59) hx hb dX12_takeNeed_43 (by decide) (fun c26 => ?_) (fun c26 => ?_)
      · skip
        have f27 : ((vp_nar .boolean z9)).toInt ≠ 0 := b_neq rfl (by decide) c26
        refine lv_iconst (v := 0) hx hb dX12_takeNeed_59 (by decide) ?_
        refine va_zast (D := D) (i := z7) (x := 0) hx hb hK hP hD hS 23 22 rfl rfl (i_in (a := z7.toInt) rfl (by omega)) dX12_takeNeed_60 (fun H locs hP hD hS => ?_)
        obtain ⟨V28, hV28⟩ : ∃ z, z = up2 V24 30 (Int32.toNatClampNeg z7) (vp_nar .boolean 0) := ⟨_, rfl⟩
        have hP : va_P D vwCl (mw ad kk ks.1 V28 L) H := by rw [hV28]; exact hP
        have hD : va_D A (mw ad kk ks.1 V28 L) := by rw [hV28]; exact hD
        have hMV28 : rgd bM V28 := hMV24.put hV28 (nar_b _)
        have agV28 : agr [(0, 7), (0, 8)] [27, 28, 29, 30, 31, 35, 36, 37, 38] V V28 := agV24.up hV28 rfl
        refine lv_aload_n hx hb dX12_takeNeed_61 rfl (lv_at hl 1 rfl) ?_
        refine va_get (D := D) (ci := 12) (v := .ref (ad 28)) (C := RX12) (T := TX12) (N := 100) hx hb hg inX12 hown hK hP 0 rfl rfl 28 (by decide) (hg _ w1738) (fun _ h9 => h9) rfl dX12_takeNeed_62 ?_
        refine lv_iload_n hx hb dX12_takeNeed_65 rfl (lv_at hl 0 rfl) ?_
        refine lv_aload_n hx hb dX12_takeNeed_66 rfl (lv_at hl 1 rfl) ?_
        have rl29 : RelM V28 L bq gn gT (nx gs 1) gl := RelM.ag rl17 (show agr [] [29, 30] V13 V28 from (agr.up (agr.up agr.rf hV24 rfl) hV28 rfl)) (by decide) (show agL [] L L from agL.rf) (by decide)
        refine gA_int (gA_runV (As := []) (rest := [.int z7, .ref (ad 28)]) (ci := 12) (q0 := 0) hx hb hml hown hg hP hD hK hS hA hnw hgk (s_takeTypeA l D ks H.size ad kk V28 L (bq) (gn) (gT) ((nx gs 1)) (gl) hMV28 rl29) w2063 w2065 w92 w172 w2066 rfl rfl hdV_yX12_takeType ⟨Nat.le_of_ble_eq_true rfl, Nat.le_of_ble_eq_true rfl⟩ rfl hl.1 rfl (Nat.le_of_ble_eq_true rfl) dX12_takeNeed_67 ⟨Nat.le_of_ble_eq_true rfl, Nat.le_of_ble_eq_true rfl⟩) hP hD hK hS hA (fun z30 u31 H locs w32 hP hD hK hS => ?_)
        obtain ⟨V34, L35⟩ := u31
        obtain ⟨hMV34, ajV34, axL35, rgz30, t33⟩ := w32
        have axL35 : L = L35 := Eq.symm axL35
        subst axL35
        have hP : va_P D vwCl (mw ad kk ks.1 V34 L) H := hP
        have hD : va_D A (mw ad kk ks.1 V34 L) := hD
        have hMV34 : rgd bM V34 := hMV34
        have ajV34 : agr [(0, 7), (0, 8)] [] V28 V34 := ajV34
        have agV34 : agr [(0, 7), (0, 8)] [27, 28, 29, 30, 31, 35, 36, 37, 38] V V34 := agV28.tr ajV34 (by decide) (by decide)
        have rgz30 : (-1) ≤ z30.toInt ∧ z30.toInt ≤ 23 := rgz30
        have t33 : KmN (look (gT) ((nx gs 1)) (((nx gs 1)).2.1 0)) (V34 0 8).toInt (fun f9 => RelM V34 L (bq) (gn) (gT) (nx ((nx gs 1)) 1) (gl) ∧ z30.toInt = ((f9 : Nat) : Int) ∧ f9 < 24) := t33
        rcases t33 with ⟨q36, fx37, h38, rl39, hf40, hb41⟩ | ⟨q36, h38⟩
        · skip
          have hr42 : ∀ k, Rc gT (Crun gs (IneedK :: k)) (Crun (nx (nx gs 1) 1) (Icalled 1 fx37 :: k)) := fun k => Rc.go1 (hr20 k) (nd_1 h38)
          have ps43 : (nx (nx gs 1) 1).1 0 = (nx gs 1).1 0 + 1 := rfl
          have fz44 := RelM.rg rl39
          have r45 : 0 ≤ ((V34 0 8)).toInt ∧ ((V34 0 8)).toInt ≤ 70000 := hMV34 0 8
          refine va_iast (D := D) (i := z7) (x := z30) hx hb hK hP hD hS 21 20 rfl rfl (i_in (a := z7.toInt) rfl (by omega)) dX12_takeNeed_70 (fun H locs hP hD hS => ?_)
          obtain ⟨V46, hV46⟩ : ∃ z, z = up2 V34 28 (Int32.toNatClampNeg z7) z30 := ⟨_, rfl⟩
          have hP : va_P D vwCl (mw ad kk ks.1 V46 L) H := by rw [hV46]; exact hP
          have hD : va_D A (mw ad kk ks.1 V46 L) := by rw [hV46]; exact hD
          have hMV46 : rgd bM V46 := hMV34.put hV46 (show (-1) ≤ z30.toInt ∧ z30.toInt ≤ 23 from by omega)
          have agV46 : agr [(0, 7), (0, 8)] [27, 28, 29, 30, 31, 35, 36, 37, 38] V V46 := agV34.up hV46 rfl
          refine lv_aload_n hx hb dX12_takeNeed_71 rfl (lv_at hl 1 rfl) ?_
          refine va_get (D := D) (ci := 12) (v := .ref (ad 31)) (C := RX12) (T := TX12) (N := 100) hx hb hg inX12 hown hK hP 0 rfl rfl 31 (by decide) (hg _ w1741) (fun _ h9 => h9) rfl dX12_takeNeed_72 ?_
          refine lv_iload_n hx hb dX12_takeNeed_75 rfl (lv_at hl 0 rfl) ?_
          refine lv_aload_n hx hb dX12_takeNeed_76 rfl (lv_at hl 1 rfl) ?_
          refine va_get (D := D) (ci := 12) (v := .ref (ad 30)) (C := RX12) (T := TX12) (N := 100) hx hb hg inX12 hown hK hP 0 rfl rfl 30 (by decide) (hg _ w1740) (fun _ h9 => h9) rfl dX12_takeNeed_77 ?_
          refine lv_iload_n hx hb dX12_takeNeed_80 rfl (lv_at hl 0 rfl) ?_
          refine va_zald (D := D) (i := z7) hx hb hK hP 23 22 rfl rfl (i_in (a := z7.toInt) rfl (by omega)) dX12_takeNeed_81 ?_
          refine g_top (v := (vp_nar .boolean 0)) ((up2_o hV46 (by decide)).trans ((ajV34 30 (Int32.toNatClampNeg z7) rfl).trans (up2_s hV28))) ?_
          have nr47 : (vp_nar .boolean 0).toInt = 0 := by decide
          refine lv_if_ne (tgt := 108) hx hb dX12_takeNeed_82 (by decide) (fun c48 => ?_) (fun c48 => ?_)
          · skip
            have f49 : ((vp_nar .boolean 0)).toInt ≠ 0 := b_neq rfl (by decide) c48
            exfalso; omega
          · skip
            have f50 : ((vp_nar .boolean 0)).toInt = 0 := b_eq rfl (by decide) c48
            refine lv_aload_n hx hb dX12_takeNeed_85 rfl (lv_at hl 1 rfl) ?_
            refine lv_iconst (v := 5) hx hb dX12_takeNeed_86 (by decide) ?_
            have rl51 : RelM V46 L bq gn gT (nx (nx gs 1) 1) gl := RelM.ag rl39 (show agr [] [28] V34 V46 from (agr.up agr.rf hV46 rfl)) (by decide) (show agL [] L L from agL.rf) (by decide)
            have r52 : Int32.toInt 5 = 5 := by decide
            refine gA_int (gA_runV (As := [.int 5]) (rest := [.int z7, .ref (ad 31)]) (ci := 12) (q0 := 0) hx hb hml hown hg hP hD hK hS hA hnw hgk (s_hasWordA l D ks H.size ad kk V46 L 5 (bq) (gn) (gT) ((nx (nx gs 1) 1)) (gl) hMV46 (by decide) rl51) w2055 w2057 w90 w172 w2058 rfl rfl hdV_yX12_hasWord ⟨Nat.le_of_ble_eq_true rfl, Nat.le_of_ble_eq_true rfl⟩ rfl hl.1 rfl (Nat.le_of_ble_eq_true rfl) dX12_takeNeed_87 ⟨Nat.le_of_ble_eq_true rfl, Nat.le_of_ble_eq_true rfl⟩) hP hD hK hS hA (fun z53 u54 H locs w55 hP hD hK hS => ?_)
            obtain ⟨V57, L58⟩ := u54
            obtain ⟨hMV57, ajV57, axL58, rgz53, t56⟩ := w55
            have axL58 : L = L58 := Eq.symm axL58
            subst axL58
            have hP : va_P D vwCl (mw ad kk ks.1 V57 L) H := hP
            have hD : va_D A (mw ad kk ks.1 V57 L) := hD
            have hMV57 : rgd bM V57 := hMV57
            have ajV57 : agr [(0, 7)] [] V46 V57 := ajV57
            have agV57 : agr [(0, 7), (0, 8)] [27, 28, 29, 30, 31, 35, 36, 37, 38] V V57 := agV46.tr ajV57 (by decide) (by decide)
            have rgz53 : 0 ≤ z53.toInt ∧ z53.toInt ≤ 1 := rgz53
            have t56 : (z53.toInt = 1 ∧ (gT).1 (((nx (nx gs 1) 1)).1 0) = 128 + (Int32.toInt 5) ∧ RelM V57 L (bq) (gn) (gT) (nx ((nx (nx gs 1) 1)) 1) (gl)) ∨ (z53.toInt = 0 ∧ (gT).1 (((nx (nx gs 1) 1)).1 0) ≠ 128 + (Int32.toInt 5) ∧ RelM V57 L (bq) (gn) (gT) ((nx (nx gs 1) 1)) (gl)) := t56
            rcases t56 with ⟨q59, h60, rl61⟩ | ⟨q59, h60, rl61⟩
            · skip
              have kd62 : gT.1 ((nx (nx gs 1) 1).1 0) = 133 := h60.trans (by decide)
              have hr63 : ∀ k, Rc gT (Crun gs (IneedK :: k)) (Crun (nx (nx (nx gs 1) 1) 1) (Iword 1 fx37 :: k)) := fun k => Rc.go1 (hr42 k) (called_y 1 fx37 kd62)
              have ps64 : (nx (nx (nx gs 1) 1) 1).1 0 = (nx (nx gs 1) 1).1 0 + 1 := rfl
              have fz65 := RelM.rg rl61
              have pq66 : (V57 0 8).toInt = ((V34 0 8)).toInt := congrArg Int32.toInt ((ajV57 0 8 rfl).trans (up2_o hV46 (by decide)))
              refine lv_if_eq (tgt := 108) hx hb dX12_takeNeed_90 (by decide) (fun c67 => ?_) (fun c67 => ?_)
              · skip
                have f68 : z53.toInt = 0 := b_eq rfl (by decide) c67
                exfalso; omega
              · skip
                have f69 : z53.toInt ≠ 0 := b_neq rfl (by decide) c67
                refine lv_aload_n hx hb dX12_takeNeed_93 rfl (lv_at hl 1 rfl) ?_
                refine lv_aload_n hx hb dX12_takeNeed_94 rfl (lv_at hl 1 rfl) ?_
                refine va_get (D := D) (ci := 12) (v := .ref (ad 38)) (C := RX12) (T := TX12) (N := 100) hx hb hg inX12 hown hK hP 0 rfl rfl 38 (by decide) (hg _ w1748) (fun _ h9 => h9) rfl dX12_takeNeed_95 ?_
                refine lv_aload_n hx hb dX12_takeNeed_98 rfl (lv_at hl 1 rfl) ?_
                refine va_get (D := D) (ci := 12) (v := .ref (ad 37)) (C := RX12) (T := TX12) (N := 100) hx hb hg inX12 hown hK hP 0 rfl rfl 37 (by decide) (hg _ w1747) (fun _ h9 => h9) rfl dX12_takeNeed_99 ?_
                refine gA_int (gA_runV (As := [.ref (ad 38), .ref (ad 37)]) (rest := [.int z7, .ref (ad 31)]) (ci := 12) (q0 := 0) hx hb hml hown hg hP hD hK hS hA hnw hgk (s_takeWordOf4 l D ks H.size ad kk V57 L (bq) (gn) (gT) ((nx (nx (nx gs 1) 1) 1)) (gl) hMV57 rl61) w2104 w2106 w102 w172 w2107 rfl rfl hdV_yX12_takeWordOf ⟨Nat.le_of_ble_eq_true rfl, Nat.le_of_ble_eq_true rfl⟩ rfl hl.1 rfl (Nat.le_of_ble_eq_true rfl) dX12_takeNeed_102 ⟨Nat.le_of_ble_eq_true rfl, Nat.le_of_ble_eq_true rfl⟩) hP hD hK hS hA (fun z70 u71 H locs w72 hP hD hK hS => ?_)
                obtain ⟨V78, L79⟩ := u71
                obtain ⟨hMV78, ajV78, axL79, rgz70, t73, t74, t75, t76, t77⟩ := w72
                have alL79 : agL [27, 28, 29, 30, 31, 35, 36, 37, 38] L L79 := agL.tr alL axL79 (by decide)
                have hP : va_P D vwCl (mw ad kk ks.1 V78 L79) H := hP
                have hD : va_D A (mw ad kk ks.1 V78 L79) := hD
                have hMV78 : rgd bM V78 := hMV78
                have ajV78 : agr [(0, 7), (0, 8)] [35, 36, 37, 38] V57 V78 := ajV78
                have agV78 : agr [(0, 7), (0, 8)] [27, 28, 29, 30, 31, 35, 36, 37, 38] V V78 := agV57.tr ajV78 (by decide) (by decide)
                have rgz70 : (-1) ≤ z70.toInt ∧ z70.toInt ≤ 19 := rgz70
                have t73 : KmS (mthW (gT) ((nx (nx (nx gs 1) 1) 1)) 4) (V78 0 8).toInt (fun x9 => RelM V78 L79 (bq) (gn) (gT) x9.2 (gl) ∧ z70.toInt = ((x9.1 : Nat) : Int) ∧ x9.1 < 20 ∧ keepS ((nx (nx (nx gs 1) 1) 1)) 1 x9.2 ∧ MTX (gT) ((nx (nx (nx gs 1) 1) 1)) 4 x9) := t73
                have t74 : RoV 35 (bq) V57 V78 := t74
                have t75 : RoV 37 (bq) V57 V78 := t75
                have t76 : RoL 36 20 (bq) L L79 := t76
                have t77 : RoL 38 20 (bq) L L79 := t77
                rcases t73 with ⟨q80, mx81, h82, rl83, hf84, hb85, kp86, mt87⟩ | ⟨q80, h82⟩
                · skip
                  have ps88 := kp86.1
                  have hr89 : ∀ k, Rc gT (Crun gs (IneedK :: k)) (Crun mx81.2 (Itake 59 :: IaddNeed 1 fx37 (mx81.1 + 1) :: Imember :: k)) := fun k => Rc.go1 (hr63 k) (wo_y h82)
                  have fz90 := RelM.rg rl83
                  have r91 : 0 ≤ ((V78 0 8)).toInt ∧ ((V78 0 8)).toInt ≤ 70000 := hMV78 0 8
                  refine lv_goto (tgt := 109) hx hb dX12_takeNeed_105 (by decide) ?_
                  refine va_iast (D := D) (i := z7) (x := z70) hx hb hK hP hD hS 24 23 rfl rfl (i_in (a := z7.toInt) rfl (by omega)) dX12_takeNeed_109 (fun H locs hP hD hS => ?_)
                  obtain ⟨V92, hV92⟩ : ∃ z, z = up2 V78 31 (Int32.toNatClampNeg z7) z70 := ⟨_, rfl⟩
                  have hP : va_P D vwCl (mw ad kk ks.1 V92 L79) H := by rw [hV92]; exact hP
                  have hD : va_D A (mw ad kk ks.1 V92 L79) := by rw [hV92]; exact hD
                  have hMV92 : rgd bM V92 := hMV78.put hV92 (i_full _)
                  have agV92 : agr [(0, 7), (0, 8)] [27, 28, 29, 30, 31, 35, 36, 37, 38] V V92 := agV78.up hV92 rfl
                  refine lv_aload_n hx hb dX12_takeNeed_110 rfl (lv_at hl 1 rfl) ?_
                  refine va_get (D := D) (ci := 12) (v := .ref (ad 27)) (C := RX12) (T := TX12) (N := 100) hx hb hg inX12 hown hK hP 0 rfl rfl 27 (by decide) (hg _ w1737) (fun _ h9 => h9) rfl dX12_takeNeed_111 ?_
                  refine lv_iload_n hx hb dX12_takeNeed_114 rfl (lv_at hl 2 rfl) ?_
                  refine lv_dup2_11 hx hb dX12_takeNeed_115 rfl rfl ?_
                  refine va_iald (D := D) (i := p0) hx hb hK hP 20 19 rfl rfl (i_in (a := p0.toInt) rfl (by omega)) dX12_takeNeed_116 ?_
                  refine g_top (v := (V 27 (Int32.toNatClampNeg p0))) ((up2_o hV92 (by decide)).trans ((ajV78 27 (Int32.toNatClampNeg p0) rfl).trans ((ajV57 27 (Int32.toNatClampNeg p0) rfl).trans ((up2_o hV46 (by decide)).trans ((ajV34 27 (Int32.toNatClampNeg p0) rfl).trans ((up2_o hV28 (by decide)).trans ((up2_o hV24 (by decide)).trans (ajV13 27 (Int32.toNatClampNeg p0) rfl)))))))) ?_
                  refine lv_iconst (v := 1) hx hb dX12_takeNeed_117 (by decide) ?_
                  refine lv_iadd hx hb dX12_takeNeed_118 ?_
                  refine lv_topi (fun z93 ez93 => ?_)
                  have hz93 : z93.toInt = ((V 27 (Int32.toNatClampNeg p0))).toInt + 1 := i_add ez93 rfl (by decide) (by omega)
                  refine va_iast (D := D) (i := p0) (x := z93) hx hb hK hP hD hS 20 19 rfl rfl (i_in (a := p0.toInt) rfl (by omega)) dX12_takeNeed_119 (fun H locs hP hD hS => ?_)
                  obtain ⟨V94, hV94⟩ : ∃ z, z = up2 V92 27 (Int32.toNatClampNeg p0) z93 := ⟨_, rfl⟩
                  have hP : va_P D vwCl (mw ad kk ks.1 V94 L79) H := by rw [hV94]; exact hP
                  have hD : va_D A (mw ad kk ks.1 V94 L79) := by rw [hV94]; exact hD
                  have hMV94 : rgd bM V94 := hMV92.put hV94 (show 0 ≤ z93.toInt ∧ z93.toInt ≤ 8 from by omega)
                  have agV94 : agr [(0, 7), (0, 8)] [27, 28, 29, 30, 31, 35, 36, 37, 38] V V94 := agV92.up hV94 rfl
                  have pq95 : (V94 27 (Int32.toNatClampNeg p0)).toInt = z93.toInt := congrArg Int32.toInt (up2_s hV94)
                  have rl96 : RelM V94 L79 bq gn gT mx81.2 gl := RelM.ag rl83 (show agr [] [27, 31] V78 V94 from (agr.up (agr.up agr.rf hV92 rfl) hV94 rfl)) (by decide) (show agL [] L79 L79 from agL.rf) (by decide)
                  have kz9 : (Int32.toNatClampNeg z7) = 8 * gc + (V 27 gc).toInt.toNat := by have h9 := i_clamp (x := z7) rfl (by omega); have h8 : 0 ≤ (V 27 gc).toInt := (hMV 27 gc).1; omega
                  have pq97 : (V94 28 (Int32.toNatClampNeg z7)).toInt = z30.toInt := congrArg Int32.toInt ((up2_o hV94 (by decide)).trans ((up2_o hV92 (by decide)).trans ((ajV78 28 (Int32.toNatClampNeg z7) rfl).trans ((ajV57 28 (Int32.toNatClampNeg z7) rfl).trans (up2_s hV46)))))
                  have pq98 : (V94 29 (Int32.toNatClampNeg z7)).toInt = ((vp_nar .boolean z9)).toInt := congrArg Int32.toInt ((up2_o hV94 (by decide)).trans ((up2_o hV92 (by decide)).trans ((ajV78 29 (Int32.toNatClampNeg z7) rfl).trans ((ajV57 29 (Int32.toNatClampNeg z7) rfl).trans ((up2_o hV46 (by decide)).trans ((ajV34 29 (Int32.toNatClampNeg z7) rfl).trans ((up2_o hV28 (by decide)).trans (up2_s hV24))))))))
                  have pq99 : (V94 30 (Int32.toNatClampNeg z7)).toInt = ((vp_nar .boolean 0)).toInt := congrArg Int32.toInt ((up2_o hV94 (by decide)).trans ((up2_o hV92 (by decide)).trans ((ajV78 30 (Int32.toNatClampNeg z7) rfl).trans ((ajV57 30 (Int32.toNatClampNeg z7) rfl).trans ((up2_o hV46 (by decide)).trans ((ajV34 30 (Int32.toNatClampNeg z7) rfl).trans (up2_s hV28)))))))
                  have pq100 : (V94 31 (Int32.toNatClampNeg z7)).toInt = z70.toInt := congrArg Int32.toInt ((up2_o hV94 (by decide)).trans (up2_s hV92))
                  have cc101 : (V94 28 (8 * gc + (V 27 gc).toInt.toNat)).toInt = ((fx37 : Nat) : Int) := by rw [← kz9]; omega
                  have cc102 : ((V94 29 (8 * gc + (V 27 gc).toInt.toNat)).toInt = 1 ↔ (1 : Int).toNat = 1) := by rw [← kz9]; exact iff_of_true (by omega) (by decide)
                  have cc103 : ((V94 30 (8 * gc + (V 27 gc).toInt.toNat)).toInt = 1 ↔ (1 : Int).toNat = 2) := by rw [← kz9]; exact iff_of_false (by omega) (by decide)
                  have cc104 : (V94 31 (8 * gc + (V 27 gc).toInt.toNat)).toInt + 1 = (((mx81.1 + 1) : Nat) : Int) := by rw [← kz9]; omega
                  have fr105 : ∀ x k : Nat, 28 ≤ x → x ≤ 31 → k ≠ (8 * gc + (V 27 gc).toInt.toNat) → V94 x k = V x k := fun x k a1 a2 hk => by have z9 : x = 28 ∨ x = 29 ∨ x = 30 ∨ x = 31 := (by omega); rcases z9 with z9 | z9 | z9 | z9; (subst z9; exact ((up2_o hV94 (by decide)).trans ((up2_o hV92 (by decide)).trans ((ajV78 28 _ rfl).trans ((ajV57 28 _ rfl).trans ((up2_k hV46 (fun h9 => hk (h9.trans kz9))).trans ((ajV34 28 _ rfl).trans ((up2_o hV28 (by decide)).trans ((up2_o hV24 (by decide)).trans ((ajV13 28 _ rfl).trans rfl)))))))))); (subst z9; exact ((up2_o hV94 (by decide)).trans ((up2_o hV92 (by decide)).trans ((ajV78 29 _ rfl).trans ((ajV57 29 _ rfl).trans ((up2_o hV46 (by decide)).trans ((ajV34 29 _ rfl).trans ((up2_o hV28 (by decide)).trans ((up2_k hV24 (fun h9 => hk (h9.trans kz9))).trans ((ajV13 29 _ rfl).trans rfl)))))))))); (subst z9; exact ((up2_o hV94 (by decide)).trans ((up2_o hV92 (by decide)).trans ((ajV78 30 _ rfl).trans ((ajV57 30 _ rfl).trans ((up2_o hV46 (by decide)).trans ((ajV34 30 _ rfl).trans ((up2_k hV28 (fun h9 => hk (h9.trans kz9))).trans ((up2_o hV24 (by decide)).trans ((ajV13 30 _ rfl).trans rfl)))))))))); (subst z9; exact ((up2_o hV94 (by decide)).trans ((up2_k hV92 (fun h9 => hk (h9.trans kz9))).trans ((ajV78 31 _ rfl).trans ((ajV57 31 _ rfl).trans ((up2_o hV46 (by decide)).trans ((ajV34 31 _ rfl).trans ((up2_o hV28 (by decide)).trans ((up2_o hV24 (by decide)).trans ((ajV13 31 _ rfl).trans rfl))))))))))
                  have rw106 : RoV 35 bq V V94 := (fun k hk => ((up2_o hV94 (by decide)).trans ((up2_o hV92 (by decide)).trans ((t74 k hk).trans ((ajV57 35 k rfl).trans ((up2_o hV46 (by decide)).trans ((ajV34 35 k rfl).trans ((up2_o hV28 (by decide)).trans ((up2_o hV24 (by decide)).trans ((ajV13 35 k rfl).trans rfl))))))))))
                  have rw107 : RoV 37 bq V V94 := (fun k hk => ((up2_o hV94 (by decide)).trans ((up2_o hV92 (by decide)).trans ((t75 k hk).trans ((ajV57 37 k rfl).trans ((up2_o hV46 (by decide)).trans ((ajV34 37 k rfl).trans ((up2_o hV28 (by decide)).trans ((up2_o hV24 (by decide)).trans ((ajV13 37 k rfl).trans rfl))))))))))
                  have rw108 : RoL 36 20 bq L L79 := (fun k hk => ((t76 k hk).trans rfl))
                  have rw109 : RoL 38 20 bq L L79 := (fun k hk => ((t77 k hk).trans rfl))
                  exact W.vret hx hb hr (fun t ht hW => ⟨⟨(V94, L79), rfl, ⟨hMV94, agV94, alL79, (show (V94 27 gc).toInt = (V 27 gc).toInt + 1 from by rw [← kgc]; omega), (Or.inl ⟨W0 rl96, mx81.2, 1, fx37, (mx81.1 + 1), hr89, rl96, keepS.le (keepS.tr (keepS.tr (keepS.tr (keepS.tr (keepS.rf : keepS gs 0 gs) (keepS.n1 1)) (keepS.n1 1)) (keepS.n1 1)) kp86) (by decide), fr105, cc101, cc102, cc103, cc104, (fun k hk => ((up2_k hV94 (fun h9 => hk (h9.trans kgc))).trans ((up2_o hV92 (by decide)).trans ((ajV78 27 _ rfl).trans ((ajV57 27 _ rfl).trans ((up2_o hV46 (by decide)).trans ((ajV34 27 _ rfl).trans ((up2_o hV28 (by decide)).trans ((up2_o hV24 (by decide)).trans ((ajV13 27 _ rfl).trans rfl))))))))))⟩), rw106, rw107, rw108, rw109⟩, by rw [ht]; exact hP, va_K.moved hW.alike hK, hD⟩, hS.F ht⟩) hS.2.2 dX12_takeNeed_120
                · skip
                  have hb110 : ∀ k, Rc gT (Crun gs (IneedK :: k)) (Cbad (V78 0 8).toInt) := fun k => Rc.go1 (hr63 k) (wo_b h82)
                  have r111 : 0 ≤ ((V78 0 8)).toInt ∧ ((V78 0 8)).toInt ≤ 70000 := hMV78 0 8
                  refine lv_goto (tgt := 109) hx hb dX12_takeNeed_105 (by decide) ?_
                  refine va_iast (D := D) (i := z7) (x := z70) hx hb hK hP hD hS 24 23 rfl rfl (i_in (a := z7.toInt) rfl (by omega)) dX12_takeNeed_109 (fun H locs hP hD hS => ?_)
                  obtain ⟨V112, hV112⟩ : ∃ z, z = up2 V78 31 (Int32.toNatClampNeg z7) z70 := ⟨_, rfl⟩
                  have hP : va_P D vwCl (mw ad kk ks.1 V112 L79) H := by rw [hV112]; exact hP
                  have hD : va_D A (mw ad kk ks.1 V112 L79) := by rw [hV112]; exact hD
                  have hMV112 : rgd bM V112 := hMV78.put hV112 (i_full _)
                  have agV112 : agr [(0, 7), (0, 8)] [27, 28, 29, 30, 31, 35, 36, 37, 38] V V112 := agV78.up hV112 rfl
                  refine lv_aload_n hx hb dX12_takeNeed_110 rfl (lv_at hl 1 rfl) ?_
                  refine va_get (D := D) (ci := 12) (v := .ref (ad 27)) (C := RX12) (T := TX12) (N := 100) hx hb hg inX12 hown hK hP 0 rfl rfl 27 (by decide) (hg _ w1737) (fun _ h9 => h9) rfl dX12_takeNeed_111 ?_
                  refine lv_iload_n hx hb dX12_takeNeed_114 rfl (lv_at hl 2 rfl) ?_
                  refine lv_dup2_11 hx hb dX12_takeNeed_115 rfl rfl ?_
                  refine va_iald (D := D) (i := p0) hx hb hK hP 20 19 rfl rfl (i_in (a := p0.toInt) rfl (by omega)) dX12_takeNeed_116 ?_
                  refine g_top (v := (V 27 (Int32.toNatClampNeg p0))) ((up2_o hV112 (by decide)).trans ((ajV78 27 (Int32.toNatClampNeg p0) rfl).trans ((ajV57 27 (Int32.toNatClampNeg p0) rfl).trans ((up2_o hV46 (by decide)).trans ((ajV34 27 (Int32.toNatClampNeg p0) rfl).trans ((up2_o hV28 (by decide)).trans ((up2_o hV24 (by decide)).trans (ajV13 27 (Int32.toNatClampNeg p0) rfl)))))))) ?_
                  refine lv_iconst (v := 1) hx hb dX12_takeNeed_117 (by decide) ?_
                  refine lv_iadd hx hb dX12_takeNeed_118 ?_
                  refine lv_topi (fun z113 ez113 => ?_)
                  have hz113 : z113.toInt = ((V 27 (Int32.toNatClampNeg p0))).toInt + 1 := i_add ez113 rfl (by decide) (by omega)
                  refine va_iast (D := D) (i := p0) (x := z113) hx hb hK hP hD hS 20 19 rfl rfl (i_in (a := p0.toInt) rfl (by omega)) dX12_takeNeed_119 (fun H locs hP hD hS => ?_)
                  obtain ⟨V114, hV114⟩ : ∃ z, z = up2 V112 27 (Int32.toNatClampNeg p0) z113 := ⟨_, rfl⟩
                  have hP : va_P D vwCl (mw ad kk ks.1 V114 L79) H := by rw [hV114]; exact hP
                  have hD : va_D A (mw ad kk ks.1 V114 L79) := by rw [hV114]; exact hD
                  have hMV114 : rgd bM V114 := hMV112.put hV114 (show 0 ≤ z113.toInt ∧ z113.toInt ≤ 8 from by omega)
                  have agV114 : agr [(0, 7), (0, 8)] [27, 28, 29, 30, 31, 35, 36, 37, 38] V V114 := agV112.up hV114 rfl
                  have pq115 : (V114 27 (Int32.toNatClampNeg p0)).toInt = z113.toInt := congrArg Int32.toInt (up2_s hV114)
                  have pq116 : (V114 0 8).toInt = ((V78 0 8)).toInt := congrArg Int32.toInt ((up2_o hV114 (by decide)).trans (up2_o hV112 (by decide)))
                  have rw117 : RoV 35 bq V V114 := (fun k hk => ((up2_o hV114 (by decide)).trans ((up2_o hV112 (by decide)).trans ((t74 k hk).trans ((ajV57 35 k rfl).trans ((up2_o hV46 (by decide)).trans ((ajV34 35 k rfl).trans ((up2_o hV28 (by decide)).trans ((up2_o hV24 (by decide)).trans ((ajV13 35 k rfl).trans rfl))))))))))
                  have rw118 : RoV 37 bq V V114 := (fun k hk => ((up2_o hV114 (by decide)).trans ((up2_o hV112 (by decide)).trans ((t75 k hk).trans ((ajV57 37 k rfl).trans ((up2_o hV46 (by decide)).trans ((ajV34 37 k rfl).trans ((up2_o hV28 (by decide)).trans ((up2_o hV24 (by decide)).trans ((ajV13 37 k rfl).trans rfl))))))))))
                  have rw119 : RoL 36 20 bq L L79 := (fun k hk => ((t76 k hk).trans rfl))
                  have rw120 : RoL 38 20 bq L L79 := (fun k hk => ((t77 k hk).trans rfl))
                  exact W.vret hx hb hr (fun t ht hW => ⟨⟨(V114, L79), rfl, ⟨hMV114, agV114, alL79, (show (V114 27 gc).toInt = (V 27 gc).toInt + 1 from by rw [← kgc]; omega), (Or.inr ⟨(show 1 ≤ (V114 0 8).toInt from by omega), (fun k => by rw [show (V114 0 8).toInt = (V78 0 8).toInt from by omega]; exact hb110 k)⟩), rw117, rw118, rw119, rw120⟩, by rw [ht]; exact hP, va_K.moved hW.alike hK, hD⟩, hS.F ht⟩) hS.2.2 dX12_takeNeed_120
            · skip
              have kd121 : gT.1 ((nx (nx gs 1) 1).1 0) ≠ 133 := fun h9 => h60 (h9.trans (by decide))
              have fz122 := RelM.rg rl61
              have pq123 : (V57 0 8).toInt = ((V34 0 8)).toInt := congrArg Int32.toInt ((ajV57 0 8 rfl).trans (up2_o hV46 (by decide)))
              refine lv_if_eq (tgt := 108) hx hb dX12_takeNeed_90 (by decide) (fun c124 => ?_) (fun c124 => ?_)
              · skip
                have f125 : z53.toInt = 0 := b_eq rfl (by decide) c124
                refine lv_iconst (v := (-1)) hx hb dX12_takeNeed_108 (by decide) ?_
                refine va_iast (D := D) (i := z7) (x := (-1)) hx hb hK hP hD hS 24 23 rfl rfl (i_in (a := z7.toInt) rfl (by omega)) dX12_takeNeed_109 (fun H locs hP hD hS => ?_)
                obtain ⟨V126, hV126⟩ : ∃ z, z = up2 V57 31 (Int32.toNatClampNeg z7) (-1) := ⟨_, rfl⟩
                have hP : va_P D vwCl (mw ad kk ks.1 V126 L) H := by rw [hV126]; exact hP
                have hD : va_D A (mw ad kk ks.1 V126 L) := by rw [hV126]; exact hD
                have hMV126 : rgd bM V126 := hMV57.put hV126 (i_full _)
                have agV126 : agr [(0, 7), (0, 8)] [27, 28, 29, 30, 31, 35, 36, 37, 38] V V126 := agV57.up hV126 rfl
                refine lv_aload_n hx hb dX12_takeNeed_110 rfl (lv_at hl 1 rfl) ?_
                refine va_get (D := D) (ci := 12) (v := .ref (ad 27)) (C := RX12) (T := TX12) (N := 100) hx hb hg inX12 hown hK hP 0 rfl rfl 27 (by decide) (hg _ w1737) (fun _ h9 => h9) rfl dX12_takeNeed_111 ?_
                refine lv_iload_n hx hb dX12_takeNeed_114 rfl (lv_at hl 2 rfl) ?_
                refine lv_dup2_11 hx hb dX12_takeNeed_115 rfl rfl ?_
                refine va_iald (D := D) (i := p0) hx hb hK hP 20 19 rfl rfl (i_in (a := p0.toInt) rfl (by omega)) dX12_takeNeed_116 ?_
                refine g_top (v := (V 27 (Int32.toNatClampNeg p0))) ((up2_o hV126 (by decide)).trans ((ajV57 27 (Int32.toNatClampNeg p0) rfl).trans ((up2_o hV46 (by decide)).trans ((ajV34 27 (Int32.toNatClampNeg p0) rfl).trans ((up2_o hV28 (by decide)).trans ((up2_o hV24 (by decide)).trans (ajV13 27 (Int32.toNatClampNeg p0) rfl))))))) ?_
                refine lv_iconst (v := 1) hx hb dX12_takeNeed_117 (by decide) ?_
                refine lv_iadd hx hb dX12_takeNeed_118 ?_
                refine lv_topi (fun z127 ez127 => ?_)
                have hz127 : z127.toInt = ((V 27 (Int32.toNatClampNeg p0))).toInt + 1 := i_add ez127 rfl (by decide) (by omega)
                refine va_iast (D := D) (i := p0) (x := z127) hx hb hK hP hD hS 20 19 rfl rfl (i_in (a := p0.toInt) rfl (by omega)) dX12_takeNeed_119 (fun H locs hP hD hS => ?_)
                obtain ⟨V128, hV128⟩ : ∃ z, z = up2 V126 27 (Int32.toNatClampNeg p0) z127 := ⟨_, rfl⟩
                have hP : va_P D vwCl (mw ad kk ks.1 V128 L) H := by rw [hV128]; exact hP
                have hD : va_D A (mw ad kk ks.1 V128 L) := by rw [hV128]; exact hD
                have hMV128 : rgd bM V128 := hMV126.put hV128 (show 0 ≤ z127.toInt ∧ z127.toInt ≤ 8 from by omega)
                have agV128 : agr [(0, 7), (0, 8)] [27, 28, 29, 30, 31, 35, 36, 37, 38] V V128 := agV126.up hV128 rfl
                have pq129 : (V128 27 (Int32.toNatClampNeg p0)).toInt = z127.toInt := congrArg Int32.toInt (up2_s hV128)
                have hr130 : ∀ k, Rc gT (Crun gs (IneedK :: k)) (Crun (nx (nx gs 1) 1) (Itake 59 :: IaddNeed 1 fx37 0 :: Imember :: k)) := fun k => Rc.go1 (hr42 k) (called_n 1 fx37 kd121)
                have rl131 : RelM V128 L bq gn gT (nx (nx gs 1) 1) gl := RelM.ag rl61 (show agr [] [27, 31] V57 V128 from (agr.up (agr.up agr.rf hV126 rfl) hV128 rfl)) (by decide) (show agL [] L L from agL.rf) (by decide)
                have kz9 : (Int32.toNatClampNeg z7) = 8 * gc + (V 27 gc).toInt.toNat := by have h9 := i_clamp (x := z7) rfl (by omega); have h8 : 0 ≤ (V 27 gc).toInt := (hMV 27 gc).1; omega
                have pq132 : (V128 28 (Int32.toNatClampNeg z7)).toInt = z30.toInt := congrArg Int32.toInt ((up2_o hV128 (by decide)).trans ((up2_o hV126 (by decide)).trans ((ajV57 28 (Int32.toNatClampNeg z7) rfl).trans (up2_s hV46))))
                have pq133 : (V128 29 (Int32.toNatClampNeg z7)).toInt = ((vp_nar .boolean z9)).toInt := congrArg Int32.toInt ((up2_o hV128 (by decide)).trans ((up2_o hV126 (by decide)).trans ((ajV57 29 (Int32.toNatClampNeg z7) rfl).trans ((up2_o hV46 (by decide)).trans ((ajV34 29 (Int32.toNatClampNeg z7) rfl).trans ((up2_o hV28 (by decide)).trans (up2_s hV24)))))))
                have pq134 : (V128 30 (Int32.toNatClampNeg z7)).toInt = ((vp_nar .boolean 0)).toInt := congrArg Int32.toInt ((up2_o hV128 (by decide)).trans ((up2_o hV126 (by decide)).trans ((ajV57 30 (Int32.toNatClampNeg z7) rfl).trans ((up2_o hV46 (by decide)).trans ((ajV34 30 (Int32.toNatClampNeg z7) rfl).trans (up2_s hV28))))))
                have pq135 : (V128 31 (Int32.toNatClampNeg z7)).toInt = (-1) := (congrArg Int32.toInt ((up2_o hV128 (by decide)).trans (up2_s hV126))).trans (by decide)
                have cc136 : (V128 28 (8 * gc + (V 27 gc).toInt.toNat)).toInt = ((fx37 : Nat) : Int) := by rw [← kz9]; omega
                have cc137 : ((V128 29 (8 * gc + (V 27 gc).toInt.toNat)).toInt = 1 ↔ (1 : Int).toNat = 1) := by rw [← kz9]; exact iff_of_true (by omega) (by decide)
                have cc138 : ((V128 30 (8 * gc + (V 27 gc).toInt.toNat)).toInt = 1 ↔ (1 : Int).toNat = 2) := by rw [← kz9]; exact iff_of_false (by omega) (by decide)
                have cc139 : (V128 31 (8 * gc + (V 27 gc).toInt.toNat)).toInt + 1 = ((0 : Nat) : Int) := by rw [← kz9]; omega
                have fr140 : ∀ x k : Nat, 28 ≤ x → x ≤ 31 → k ≠ (8 * gc + (V 27 gc).toInt.toNat) → V128 x k = V x k := fun x k a1 a2 hk => by have z9 : x = 28 ∨ x = 29 ∨ x = 30 ∨ x = 31 := (by omega); rcases z9 with z9 | z9 | z9 | z9; (subst z9; exact ((up2_o hV128 (by decide)).trans ((up2_o hV126 (by decide)).trans ((ajV57 28 _ rfl).trans ((up2_k hV46 (fun h9 => hk (h9.trans kz9))).trans ((ajV34 28 _ rfl).trans ((up2_o hV28 (by decide)).trans ((up2_o hV24 (by decide)).trans ((ajV13 28 _ rfl).trans rfl))))))))); (subst z9; exact ((up2_o hV128 (by decide)).trans ((up2_o hV126 (by decide)).trans ((ajV57 29 _ rfl).trans ((up2_o hV46 (by decide)).trans ((ajV34 29 _ rfl).trans ((up2_o hV28 (by decide)).trans ((up2_k hV24 (fun h9 => hk (h9.trans kz9))).trans ((ajV13 29 _ rfl).trans rfl))))))))); (subst z9; exact ((up2_o hV128 (by decide)).trans ((up2_o hV126 (by decide)).trans ((ajV57 30 _ rfl).trans ((up2_o hV46 (by decide)).trans ((ajV34 30 _ rfl).trans ((up2_k hV28 (fun h9 => hk (h9.trans kz9))).trans ((up2_o hV24 (by decide)).trans ((ajV13 30 _ rfl).trans rfl))))))))); (subst z9; exact ((up2_o hV128 (by decide)).trans ((up2_k hV126 (fun h9 => hk (h9.trans kz9))).trans ((ajV57 31 _ rfl).trans ((up2_o hV46 (by decide)).trans ((ajV34 31 _ rfl).trans ((up2_o hV28 (by decide)).trans ((up2_o hV24 (by decide)).trans ((ajV13 31 _ rfl).trans rfl)))))))))
                have rw141 : RoV 35 bq V V128 := (fun k hk => ((up2_o hV128 (by decide)).trans ((up2_o hV126 (by decide)).trans ((ajV57 35 k rfl).trans ((up2_o hV46 (by decide)).trans ((ajV34 35 k rfl).trans ((up2_o hV28 (by decide)).trans ((up2_o hV24 (by decide)).trans ((ajV13 35 k rfl).trans rfl)))))))))
                have rw142 : RoV 37 bq V V128 := (fun k hk => ((up2_o hV128 (by decide)).trans ((up2_o hV126 (by decide)).trans ((ajV57 37 k rfl).trans ((up2_o hV46 (by decide)).trans ((ajV34 37 k rfl).trans ((up2_o hV28 (by decide)).trans ((up2_o hV24 (by decide)).trans ((ajV13 37 k rfl).trans rfl)))))))))
                have rw143 : RoL 36 20 bq L L := (fun k hk => rfl)
                have rw144 : RoL 38 20 bq L L := (fun k hk => rfl)
                exact W.vret hx hb hr (fun t ht hW => ⟨⟨(V128, L), rfl, ⟨hMV128, agV128, alL, (show (V128 27 gc).toInt = (V 27 gc).toInt + 1 from by rw [← kgc]; omega), (Or.inl ⟨W0 rl131, (nx (nx gs 1) 1), 1, fx37, 0, hr130, rl131, keepS.le (keepS.tr (keepS.tr (keepS.rf : keepS gs 0 gs) (keepS.n1 1)) (keepS.n1 1)) (by decide), fr140, cc136, cc137, cc138, cc139, (fun k hk => ((up2_k hV128 (fun h9 => hk (h9.trans kgc))).trans ((up2_o hV126 (by decide)).trans ((ajV57 27 _ rfl).trans ((up2_o hV46 (by decide)).trans ((ajV34 27 _ rfl).trans ((up2_o hV28 (by decide)).trans ((up2_o hV24 (by decide)).trans ((ajV13 27 _ rfl).trans rfl)))))))))⟩), rw141, rw142, rw143, rw144⟩, by rw [ht]; exact hP, va_K.moved hW.alike hK, hD⟩, hS.F ht⟩) hS.2.2 dX12_takeNeed_120
              · skip
                have f145 : z53.toInt ≠ 0 := b_neq rfl (by decide) c124
                exfalso; omega
        · skip
          have hb146 : ∀ k, Rc gT (Crun gs (IneedK :: k)) (Cbad (V34 0 8).toInt) := fun k => Rc.go1 (hr20 k) (nd_b h38)
          have r147 : 0 ≤ ((V34 0 8)).toInt ∧ ((V34 0 8)).toInt ≤ 70000 := hMV34 0 8
          refine va_iast (D := D) (i := z7) (x := z30) hx hb hK hP hD hS 21 20 rfl rfl (i_in (a := z7.toInt) rfl (by omega)) dX12_takeNeed_70 (fun H locs hP hD hS => ?_)
          obtain ⟨V148, hV148⟩ : ∃ z, z = up2 V34 28 (Int32.toNatClampNeg z7) z30 := ⟨_, rfl⟩
          have hP : va_P D vwCl (mw ad kk ks.1 V148 L) H := by rw [hV148]; exact hP
          have hD : va_D A (mw ad kk ks.1 V148 L) := by rw [hV148]; exact hD
          have hMV148 : rgd bM V148 := hMV34.put hV148 (show (-1) ≤ z30.toInt ∧ z30.toInt ≤ 23 from by omega)
          have agV148 : agr [(0, 7), (0, 8)] [27, 28, 29, 30, 31, 35, 36, 37, 38] V V148 := agV34.up hV148 rfl
          refine lv_aload_n hx hb dX12_takeNeed_71 rfl (lv_at hl 1 rfl) ?_
          refine va_get (D := D) (ci := 12) (v := .ref (ad 31)) (C := RX12) (T := TX12) (N := 100) hx hb hg inX12 hown hK hP 0 rfl rfl 31 (by decide) (hg _ w1741) (fun _ h9 => h9) rfl dX12_takeNeed_72 ?_
          refine lv_iload_n hx hb dX12_takeNeed_75 rfl (lv_at hl 0 rfl) ?_
          refine lv_aload_n hx hb dX12_takeNeed_76 rfl (lv_at hl 1 rfl) ?_
          refine va_get (D := D) (ci := 12) (v := .ref (ad 30)) (C := RX12) (T := TX12) (N := 100) hx hb hg inX12 hown hK hP 0 rfl rfl 30 (by decide) (hg _ w1740) (fun _ h9 => h9) rfl dX12_takeNeed_77 ?_
          refine lv_iload_n hx hb dX12_takeNeed_80 rfl (lv_at hl 0 rfl) ?_
          refine va_zald (D := D) (i := z7) hx hb hK hP 23 22 rfl rfl (i_in (a := z7.toInt) rfl (by omega)) dX12_takeNeed_81 ?_
          refine g_top (v := (vp_nar .boolean 0)) ((up2_o hV148 (by decide)).trans ((ajV34 30 (Int32.toNatClampNeg z7) rfl).trans (up2_s hV28))) ?_
          have nr149 : (vp_nar .boolean 0).toInt = 0 := by decide
          refine lv_if_ne (tgt := 108) hx hb dX12_takeNeed_82 (by decide) (fun c150 => ?_) (fun c150 => ?_)
          · skip
            have f151 : ((vp_nar .boolean 0)).toInt ≠ 0 := b_neq rfl (by decide) c150
            exfalso; omega
          · skip
            have f152 : ((vp_nar .boolean 0)).toInt = 0 := b_eq rfl (by decide) c150
            refine lv_aload_n hx hb dX12_takeNeed_85 rfl (lv_at hl 1 rfl) ?_
            refine lv_iconst (v := 5) hx hb dX12_takeNeed_86 (by decide) ?_
            have r153 : Int32.toInt 5 = 5 := by decide
            have pq154 : (V148 0 8).toInt = ((V34 0 8)).toInt := congrArg Int32.toInt (up2_o hV148 (by decide))
            refine gA_int (gA_runV (As := [.int 5]) (rest := [.int z7, .ref (ad 31)]) (ci := 12) (q0 := 0) hx hb hml hown hg hP hD hK hS hA hnw hgk (s_hasWordB l D ks H.size ad kk V148 L 5 hMV148 (by decide) (show 1 ≤ (V148 0 8).toInt from by omega)) w2055 w2057 w90 w172 w2058 rfl rfl hdV_yX12_hasWord ⟨Nat.le_of_ble_eq_true rfl, Nat.le_of_ble_eq_true rfl⟩ rfl hl.1 rfl (Nat.le_of_ble_eq_true rfl) dX12_takeNeed_87 ⟨Nat.le_of_ble_eq_true rfl, Nat.le_of_ble_eq_true rfl⟩) hP hD hK hS hA (fun z155 u156 H locs w157 hP hD hK hS => ?_)
            obtain ⟨V159, L160⟩ := u156
            obtain ⟨hMV159, ajV159, axL160, rgz155, t158⟩ := w157
            have axL160 : L = L160 := Eq.symm axL160
            subst axL160
            have hP : va_P D vwCl (mw ad kk ks.1 V159 L) H := hP
            have hD : va_D A (mw ad kk ks.1 V159 L) := hD
            have hMV159 : rgd bM V159 := hMV159
            have ajV159 : agr [(0, 7)] [] V148 V159 := ajV159
            have agV159 : agr [(0, 7), (0, 8)] [27, 28, 29, 30, 31, 35, 36, 37, 38] V V159 := agV148.tr ajV159 (by decide) (by decide)
            have rgz155 : 0 ≤ z155.toInt ∧ z155.toInt ≤ 0 := rgz155
            have t158 : (V159 0 8).toInt = (V148 0 8).toInt := t158
            have pq161 : (V159 0 8).toInt = ((V34 0 8)).toInt := congrArg Int32.toInt ((ajV159 0 8 rfl).trans (up2_o hV148 (by decide)))
            refine lv_if_eq (tgt := 108) hx hb dX12_takeNeed_90 (by decide) (fun c162 => ?_) (fun c162 => ?_)
            · skip
              have f163 : z155.toInt = 0 := b_eq rfl (by decide) c162
              refine lv_iconst (v := (-1)) hx hb dX12_takeNeed_108 (by decide) ?_
              refine va_iast (D := D) (i := z7) (x := (-1)) hx hb hK hP hD hS 24 23 rfl rfl (i_in (a := z7.toInt) rfl (by omega)) dX12_takeNeed_109 (fun H locs hP hD hS => ?_)
              obtain ⟨V164, hV164⟩ : ∃ z, z = up2 V159 31 (Int32.toNatClampNeg z7) (-1) := ⟨_, rfl⟩
              have hP : va_P D vwCl (mw ad kk ks.1 V164 L) H := by rw [hV164]; exact hP
              have hD : va_D A (mw ad kk ks.1 V164 L) := by rw [hV164]; exact hD
              have hMV164 : rgd bM V164 := hMV159.put hV164 (i_full _)
              have agV164 : agr [(0, 7), (0, 8)] [27, 28, 29, 30, 31, 35, 36, 37, 38] V V164 := agV159.up hV164 rfl
              refine lv_aload_n hx hb dX12_takeNeed_110 rfl (lv_at hl 1 rfl) ?_
              refine va_get (D := D) (ci := 12) (v := .ref (ad 27)) (C := RX12) (T := TX12) (N := 100) hx hb hg inX12 hown hK hP 0 rfl rfl 27 (by decide) (hg _ w1737) (fun _ h9 => h9) rfl dX12_takeNeed_111 ?_
              refine lv_iload_n hx hb dX12_takeNeed_114 rfl (lv_at hl 2 rfl) ?_
              refine lv_dup2_11 hx hb dX12_takeNeed_115 rfl rfl ?_
              refine va_iald (D := D) (i := p0) hx hb hK hP 20 19 rfl rfl (i_in (a := p0.toInt) rfl (by omega)) dX12_takeNeed_116 ?_
              refine g_top (v := (V 27 (Int32.toNatClampNeg p0))) ((up2_o hV164 (by decide)).trans ((ajV159 27 (Int32.toNatClampNeg p0) rfl).trans ((up2_o hV148 (by decide)).trans ((ajV34 27 (Int32.toNatClampNeg p0) rfl).trans ((up2_o hV28 (by decide)).trans ((up2_o hV24 (by decide)).trans (ajV13 27 (Int32.toNatClampNeg p0) rfl))))))) ?_
              refine lv_iconst (v := 1) hx hb dX12_takeNeed_117 (by decide) ?_
              refine lv_iadd hx hb dX12_takeNeed_118 ?_
              refine lv_topi (fun z165 ez165 => ?_)
              have hz165 : z165.toInt = ((V 27 (Int32.toNatClampNeg p0))).toInt + 1 := i_add ez165 rfl (by decide) (by omega)
              refine va_iast (D := D) (i := p0) (x := z165) hx hb hK hP hD hS 20 19 rfl rfl (i_in (a := p0.toInt) rfl (by omega)) dX12_takeNeed_119 (fun H locs hP hD hS => ?_)
              obtain ⟨V166, hV166⟩ : ∃ z, z = up2 V164 27 (Int32.toNatClampNeg p0) z165 := ⟨_, rfl⟩
              have hP : va_P D vwCl (mw ad kk ks.1 V166 L) H := by rw [hV166]; exact hP
              have hD : va_D A (mw ad kk ks.1 V166 L) := by rw [hV166]; exact hD
              have hMV166 : rgd bM V166 := hMV164.put hV166 (show 0 ≤ z165.toInt ∧ z165.toInt ≤ 8 from by omega)
              have agV166 : agr [(0, 7), (0, 8)] [27, 28, 29, 30, 31, 35, 36, 37, 38] V V166 := agV164.up hV166 rfl
              have pq167 : (V166 27 (Int32.toNatClampNeg p0)).toInt = z165.toInt := congrArg Int32.toInt (up2_s hV166)
              have pq168 : (V166 0 8).toInt = ((V34 0 8)).toInt := congrArg Int32.toInt ((up2_o hV166 (by decide)).trans ((up2_o hV164 (by decide)).trans ((ajV159 0 8 rfl).trans (up2_o hV148 (by decide)))))
              have rw169 : RoV 35 bq V V166 := (fun k hk => ((up2_o hV166 (by decide)).trans ((up2_o hV164 (by decide)).trans ((ajV159 35 k rfl).trans ((up2_o hV148 (by decide)).trans ((ajV34 35 k rfl).trans ((up2_o hV28 (by decide)).trans ((up2_o hV24 (by decide)).trans ((ajV13 35 k rfl).trans rfl)))))))))
              have rw170 : RoV 37 bq V V166 := (fun k hk => ((up2_o hV166 (by decide)).trans ((up2_o hV164 (by decide)).trans ((ajV159 37 k rfl).trans ((up2_o hV148 (by decide)).trans ((ajV34 37 k rfl).trans ((up2_o hV28 (by decide)).trans ((up2_o hV24 (by decide)).trans ((ajV13 37 k rfl).trans rfl)))))))))
              have rw171 : RoL 36 20 bq L L := (fun k hk => rfl)
              have rw172 : RoL 38 20 bq L L := (fun k hk => rfl)
              exact W.vret hx hb hr (fun t ht hW => ⟨⟨(V166, L), rfl, ⟨hMV166, agV166, alL, (show (V166 27 gc).toInt = (V 27 gc).toInt + 1 from by rw [← kgc]; omega), (Or.inr ⟨(show 1 ≤ (V166 0 8).toInt from by omega), (fun k => by rw [show (V166 0 8).toInt = (V34 0 8).toInt from by omega]; exact hb146 k)⟩), rw169, rw170, rw171, rw172⟩, by rw [ht]; exact hP, va_K.moved hW.alike hK, hD⟩, hS.F ht⟩) hS.2.2 dX12_takeNeed_120
            · skip
              have f173 : z155.toInt ≠ 0 := b_neq rfl (by decide) c162
              exfalso; omega
      · skip
        have f174 : ((vp_nar .boolean z9)).toInt = 0 := b_eq rfl (by decide) c26
        exfalso; omega
    · skip
      have kd175 : gT.1 (gs.1 0) ≠ 138 := fun h9 => h16 (h9.trans (by decide))
      have fz176 := RelM.rg rl17
      have pq177 : (V13 0 8).toInt = ((V 0 8)).toInt := congrArg Int32.toInt (ajV13 0 8 rfl)
      refine va_zast (D := D) (i := z7) (x := z9) hx hb hK hP hD hS 22 21 rfl rfl (i_in (a := z7.toInt) rfl (by omega)) dX12_takeNeed_31 (fun H locs hP hD hS => ?_)
      obtain ⟨V178, hV178⟩ : ∃ z, z = up2 V13 29 (Int32.toNatClampNeg z7) (vp_nar .boolean z9) := ⟨_, rfl⟩
      have hP : va_P D vwCl (mw ad kk ks.1 V178 L) H := by rw [hV178]; exact hP
      have hD : va_D A (mw ad kk ks.1 V178 L) := by rw [hV178]; exact hD
      have hMV178 : rgd bM V178 := hMV13.put hV178 (nar_b _)
      have agV178 : agr [(0, 7), (0, 8)] [27, 28, 29, 30, 31, 35, 36, 37, 38] V V178 := agV13.up hV178 rfl
      refine lv_aload_n hx hb dX12_takeNeed_32 rfl (lv_at hl 1 rfl) ?_
      refine va_get (D := D) (ci := 12) (v := .ref (ad 30)) (C := RX12) (T := TX12) (N := 100) hx hb hg inX12 hown hK hP 0 rfl rfl 30 (by decide) (hg _ w1740) (fun _ h9 => h9) rfl dX12_takeNeed_33 ?_
      refine lv_iload_n hx hb dX12_takeNeed_36 rfl (lv_at hl 0 rfl) ?_
      refine lv_aload_n hx hb dX12_takeNeed_37 rfl (lv_at hl 1 rfl) ?_
      refine va_get (D := D) (ci := 12) (v := .ref (ad 29)) (C := RX12) (T := TX12) (N := 100) hx hb hg inX12 hown hK hP 0 rfl rfl 29 (by decide) (hg _ w1739) (fun _ h9 => h9) rfl dX12_takeNeed_38 ?_
      refine lv_iload_n hx hb dX12_takeNeed_41 rfl (lv_at hl 0 rfl) ?_
      refine va_zald (D := D) (i := z7) hx hb hK hP 22 21 rfl rfl (i_in (a := z7.toInt) rfl (by omega)) dX12_takeNeed_42 ?_
      refine g_top (v := (vp_nar .boolean z9)) (up2_s hV178) ?_
      have nr179 : (vp_nar .boolean z9).toInt = z9.toInt := nar_01 (by omega)
      refine lv_if_ne (tgt := 59) hx hb dX12_takeNeed_43 (by decide) (fun c180 => ?_) (fun c180 => ?_)
      · skip
        have f181 : ((vp_nar .boolean z9)).toInt ≠ 0 := b_neq rfl (by decide) c180
        exfalso; omega
      · skip
        have f182 : ((vp_nar .boolean z9)).toInt = 0 := b_eq rfl (by decide) c180
        refine lv_aload_n hx hb dX12_takeNeed_46 rfl (lv_at hl 1 rfl) ?_
        refine lv_bipush (v := 11) hx hb dX12_takeNeed_47 (by decide) ?_
        have rl183 : RelM V178 L bq gn gT gs gl := RelM.ag rl17 (show agr [] [29] V13 V178 from (agr.up agr.rf hV178 rfl)) (by decide) (show agL [] L L from agL.rf) (by decide)
        have r184 : Int32.toInt 11 = 11 := by decide
        refine gA_int (gA_runV (As := [.int 11]) (rest := [.int z7, .ref (ad 30)]) (ci := 12) (q0 := 0) hx hb hml hown hg hP hD hK hS hA hnw hgk (s_hasWordA l D ks H.size ad kk V178 L 11 (bq) (gn) (gT) (gs) (gl) hMV178 (by decide) rl183) w2055 w2057 w90 w172 w2058 rfl rfl hdV_yX12_hasWord ⟨Nat.le_of_ble_eq_true rfl, Nat.le_of_ble_eq_true rfl⟩ rfl hl.1 rfl (Nat.le_of_ble_eq_true rfl) dX12_takeNeed_49 ⟨Nat.le_of_ble_eq_true rfl, Nat.le_of_ble_eq_true rfl⟩) hP hD hK hS hA (fun z185 u186 H locs w187 hP hD hK hS => ?_)
        obtain ⟨V189, L190⟩ := u186
        obtain ⟨hMV189, ajV189, axL190, rgz185, t188⟩ := w187
        have axL190 : L = L190 := Eq.symm axL190
        subst axL190
        have hP : va_P D vwCl (mw ad kk ks.1 V189 L) H := hP
        have hD : va_D A (mw ad kk ks.1 V189 L) := hD
        have hMV189 : rgd bM V189 := hMV189
        have ajV189 : agr [(0, 7)] [] V178 V189 := ajV189
        have agV189 : agr [(0, 7), (0, 8)] [27, 28, 29, 30, 31, 35, 36, 37, 38] V V189 := agV178.tr ajV189 (by decide) (by decide)
        have rgz185 : 0 ≤ z185.toInt ∧ z185.toInt ≤ 1 := rgz185
        have t188 : (z185.toInt = 1 ∧ (gT).1 ((gs).1 0) = 128 + (Int32.toInt 11) ∧ RelM V189 L (bq) (gn) (gT) (nx (gs) 1) (gl)) ∨ (z185.toInt = 0 ∧ (gT).1 ((gs).1 0) ≠ 128 + (Int32.toInt 11) ∧ RelM V189 L (bq) (gn) (gT) (gs) (gl)) := t188
        rcases t188 with ⟨q191, h192, rl193⟩ | ⟨q191, h192, rl193⟩
        · skip
          have kd194 : gT.1 (gs.1 0) = 139 := h192.trans (by decide)
          have hr195 : ∀ k, Rc gT (Crun gs (IneedK :: k)) (Crun gs (IneedK :: k)) := fun k => Rc.rf
          have hr196 : ∀ k, Rc gT (Crun gs (IneedK :: k)) (Crun (nx gs 1) (IneedT 2 :: k)) := fun k => Rc.go1 (hr195 k) (needK_a kd194)
          have ps197 : (nx gs 1).1 0 = gs.1 0 + 1 := rfl
          have fz198 := RelM.rg rl193
          have pq199 : (V189 0 8).toInt = ((V 0 8)).toInt := congrArg Int32.toInt ((ajV189 0 8 rfl).trans ((up2_o hV178 (by decide)).trans (ajV13 0 8 rfl)))
          refine lv_if_eq (tgt := 59) hx hb dX12_takeNeed_52 (by decide) (fun c200 => ?_) (fun c200 => ?_)
          · skip
            have f201 : z185.toInt = 0 := b_eq rfl (by decide) c200
            exfalso; omega
          · skip
            have f202 : z185.toInt ≠ 0 := b_neq rfl (by decide) c200
            refine lv_iconst (v := 1) hx hb dX12_takeNeed_55 (by decide) ?_
            refine lv_goto (tgt := 60) hx hb dX12_takeNeed_56 (by decide) ?_
            refine va_zast (D := D) (i := z7) (x := 1) hx hb hK hP hD hS 23 22 rfl rfl (i_in (a := z7.toInt) rfl (by omega)) dX12_takeNeed_60 (fun H locs hP hD hS => ?_)
            obtain ⟨V203, hV203⟩ : ∃ z, z = up2 V189 30 (Int32.toNatClampNeg z7) (vp_nar .boolean 1) := ⟨_, rfl⟩
            have hP : va_P D vwCl (mw ad kk ks.1 V203 L) H := by rw [hV203]; exact hP
            have hD : va_D A (mw ad kk ks.1 V203 L) := by rw [hV203]; exact hD
            have hMV203 : rgd bM V203 := hMV189.put hV203 (nar_b _)
            have agV203 : agr [(0, 7), (0, 8)] [27, 28, 29, 30, 31, 35, 36, 37, 38] V V203 := agV189.up hV203 rfl
            refine lv_aload_n hx hb dX12_takeNeed_61 rfl (lv_at hl 1 rfl) ?_
            refine va_get (D := D) (ci := 12) (v := .ref (ad 28)) (C := RX12) (T := TX12) (N := 100) hx hb hg inX12 hown hK hP 0 rfl rfl 28 (by decide) (hg _ w1738) (fun _ h9 => h9) rfl dX12_takeNeed_62 ?_
            refine lv_iload_n hx hb dX12_takeNeed_65 rfl (lv_at hl 0 rfl) ?_
            refine lv_aload_n hx hb dX12_takeNeed_66 rfl (lv_at hl 1 rfl) ?_
            have rl204 : RelM V203 L bq gn gT (nx gs 1) gl := RelM.ag rl193 (show agr [] [30] V189 V203 from (agr.up agr.rf hV203 rfl)) (by decide) (show agL [] L L from agL.rf) (by decide)
            refine gA_int (gA_runV (As := []) (rest := [.int z7, .ref (ad 28)]) (ci := 12) (q0 := 0) hx hb hml hown hg hP hD hK hS hA hnw hgk (s_takeTypeA l D ks H.size ad kk V203 L (bq) (gn) (gT) ((nx gs 1)) (gl) hMV203 rl204) w2063 w2065 w92 w172 w2066 rfl rfl hdV_yX12_takeType ⟨Nat.le_of_ble_eq_true rfl, Nat.le_of_ble_eq_true rfl⟩ rfl hl.1 rfl (Nat.le_of_ble_eq_true rfl) dX12_takeNeed_67 ⟨Nat.le_of_ble_eq_true rfl, Nat.le_of_ble_eq_true rfl⟩) hP hD hK hS hA (fun z205 u206 H locs w207 hP hD hK hS => ?_)
            obtain ⟨V209, L210⟩ := u206
            obtain ⟨hMV209, ajV209, axL210, rgz205, t208⟩ := w207
            have axL210 : L = L210 := Eq.symm axL210
            subst axL210
            have hP : va_P D vwCl (mw ad kk ks.1 V209 L) H := hP
            have hD : va_D A (mw ad kk ks.1 V209 L) := hD
            have hMV209 : rgd bM V209 := hMV209
            have ajV209 : agr [(0, 7), (0, 8)] [] V203 V209 := ajV209
            have agV209 : agr [(0, 7), (0, 8)] [27, 28, 29, 30, 31, 35, 36, 37, 38] V V209 := agV203.tr ajV209 (by decide) (by decide)
            have rgz205 : (-1) ≤ z205.toInt ∧ z205.toInt ≤ 23 := rgz205
            have t208 : KmN (look (gT) ((nx gs 1)) (((nx gs 1)).2.1 0)) (V209 0 8).toInt (fun f9 => RelM V209 L (bq) (gn) (gT) (nx ((nx gs 1)) 1) (gl) ∧ z205.toInt = ((f9 : Nat) : Int) ∧ f9 < 24) := t208
            rcases t208 with ⟨q211, fx212, h213, rl214, hf215, hb216⟩ | ⟨q211, h213⟩
            · skip
              have hr217 : ∀ k, Rc gT (Crun gs (IneedK :: k)) (Crun (nx (nx gs 1) 1) (Itake 59 :: IaddNeed 2 fx212 0 :: Imember :: k)) := fun k => Rc.go1 (hr196 k) (nd_2 h213)
              have ps218 : (nx (nx gs 1) 1).1 0 = (nx gs 1).1 0 + 1 := rfl
              have fz219 := RelM.rg rl214
              have r220 : 0 ≤ ((V209 0 8)).toInt ∧ ((V209 0 8)).toInt ≤ 70000 := hMV209 0 8
              refine va_iast (D := D) (i := z7) (x := z205) hx hb hK hP hD hS 21 20 rfl rfl (i_in (a := z7.toInt) rfl (by omega)) dX12_takeNeed_70 (fun H locs hP hD hS => ?_)
              obtain ⟨V221, hV221⟩ : ∃ z, z = up2 V209 28 (Int32.toNatClampNeg z7) z205 := ⟨_, rfl⟩
              have hP : va_P D vwCl (mw ad kk ks.1 V221 L) H := by rw [hV221]; exact hP
              have hD : va_D A (mw ad kk ks.1 V221 L) := by rw [hV221]; exact hD
              have hMV221 : rgd bM V221 := hMV209.put hV221 (show (-1) ≤ z205.toInt ∧ z205.toInt ≤ 23 from by omega)
              have agV221 : agr [(0, 7), (0, 8)] [27, 28, 29, 30, 31, 35, 36, 37, 38] V V221 := agV209.up hV221 rfl
              refine lv_aload_n hx hb dX12_takeNeed_71 rfl (lv_at hl 1 rfl) ?_
              refine va_get (D := D) (ci := 12) (v := .ref (ad 31)) (C := RX12) (T := TX12) (N := 100) hx hb hg inX12 hown hK hP 0 rfl rfl 31 (by decide) (hg _ w1741) (fun _ h9 => h9) rfl dX12_takeNeed_72 ?_
              refine lv_iload_n hx hb dX12_takeNeed_75 rfl (lv_at hl 0 rfl) ?_
              refine lv_aload_n hx hb dX12_takeNeed_76 rfl (lv_at hl 1 rfl) ?_
              refine va_get (D := D) (ci := 12) (v := .ref (ad 30)) (C := RX12) (T := TX12) (N := 100) hx hb hg inX12 hown hK hP 0 rfl rfl 30 (by decide) (hg _ w1740) (fun _ h9 => h9) rfl dX12_takeNeed_77 ?_
              refine lv_iload_n hx hb dX12_takeNeed_80 rfl (lv_at hl 0 rfl) ?_
              refine va_zald (D := D) (i := z7) hx hb hK hP 23 22 rfl rfl (i_in (a := z7.toInt) rfl (by omega)) dX12_takeNeed_81 ?_
              refine g_top (v := (vp_nar .boolean 1)) ((up2_o hV221 (by decide)).trans ((ajV209 30 (Int32.toNatClampNeg z7) rfl).trans (up2_s hV203))) ?_
              have nr222 : (vp_nar .boolean 1).toInt = 1 := by decide
              refine lv_if_ne (tgt := 108) hx hb dX12_takeNeed_82 (by decide) (fun c223 => ?_) (fun c223 => ?_)
              · skip
                have f224 : ((vp_nar .boolean 1)).toInt ≠ 0 := b_neq rfl (by decide) c223
                refine lv_iconst (v := (-1)) hx hb dX12_takeNeed_108 (by decide) ?_
                refine va_iast (D := D) (i := z7) (x := (-1)) hx hb hK hP hD hS 24 23 rfl rfl (i_in (a := z7.toInt) rfl (by omega)) dX12_takeNeed_109 (fun H locs hP hD hS => ?_)
                obtain ⟨V225, hV225⟩ : ∃ z, z = up2 V221 31 (Int32.toNatClampNeg z7) (-1) := ⟨_, rfl⟩
                have hP : va_P D vwCl (mw ad kk ks.1 V225 L) H := by rw [hV225]; exact hP
                have hD : va_D A (mw ad kk ks.1 V225 L) := by rw [hV225]; exact hD
                have hMV225 : rgd bM V225 := hMV221.put hV225 (i_full _)
                have agV225 : agr [(0, 7), (0, 8)] [27, 28, 29, 30, 31, 35, 36, 37, 38] V V225 := agV221.up hV225 rfl
                refine lv_aload_n hx hb dX12_takeNeed_110 rfl (lv_at hl 1 rfl) ?_
                refine va_get (D := D) (ci := 12) (v := .ref (ad 27)) (C := RX12) (T := TX12) (N := 100) hx hb hg inX12 hown hK hP 0 rfl rfl 27 (by decide) (hg _ w1737) (fun _ h9 => h9) rfl dX12_takeNeed_111 ?_
                refine lv_iload_n hx hb dX12_takeNeed_114 rfl (lv_at hl 2 rfl) ?_
                refine lv_dup2_11 hx hb dX12_takeNeed_115 rfl rfl ?_
                refine va_iald (D := D) (i := p0) hx hb hK hP 20 19 rfl rfl (i_in (a := p0.toInt) rfl (by omega)) dX12_takeNeed_116 ?_
                refine g_top (v := (V 27 (Int32.toNatClampNeg p0))) ((up2_o hV225 (by decide)).trans ((up2_o hV221 (by decide)).trans ((ajV209 27 (Int32.toNatClampNeg p0) rfl).trans ((up2_o hV203 (by decide)).trans ((ajV189 27 (Int32.toNatClampNeg p0) rfl).trans ((up2_o hV178 (by decide)).trans (ajV13 27 (Int32.toNatClampNeg p0) rfl))))))) ?_
                refine lv_iconst (v := 1) hx hb dX12_takeNeed_117 (by decide) ?_
                refine lv_iadd hx hb dX12_takeNeed_118 ?_
                refine lv_topi (fun z226 ez226 => ?_)
                have hz226 : z226.toInt = ((V 27 (Int32.toNatClampNeg p0))).toInt + 1 := i_add ez226 rfl (by decide) (by omega)
                refine va_iast (D := D) (i := p0) (x := z226) hx hb hK hP hD hS 20 19 rfl rfl (i_in (a := p0.toInt) rfl (by omega)) dX12_takeNeed_119 (fun H locs hP hD hS => ?_)
                obtain ⟨V227, hV227⟩ : ∃ z, z = up2 V225 27 (Int32.toNatClampNeg p0) z226 := ⟨_, rfl⟩
                have hP : va_P D vwCl (mw ad kk ks.1 V227 L) H := by rw [hV227]; exact hP
                have hD : va_D A (mw ad kk ks.1 V227 L) := by rw [hV227]; exact hD
                have hMV227 : rgd bM V227 := hMV225.put hV227 (show 0 ≤ z226.toInt ∧ z226.toInt ≤ 8 from by omega)
                have agV227 : agr [(0, 7), (0, 8)] [27, 28, 29, 30, 31, 35, 36, 37, 38] V V227 := agV225.up hV227 rfl
                have pq228 : (V227 27 (Int32.toNatClampNeg p0)).toInt = z226.toInt := congrArg Int32.toInt (up2_s hV227)
                have rl229 : RelM V227 L bq gn gT (nx (nx gs 1) 1) gl := RelM.ag rl214 (show agr [] [27, 28, 31] V209 V227 from (agr.up (agr.up (agr.up agr.rf hV221 rfl) hV225 rfl) hV227 rfl)) (by decide) (show agL [] L L from agL.rf) (by decide)
                have kz9 : (Int32.toNatClampNeg z7) = 8 * gc + (V 27 gc).toInt.toNat := by have h9 := i_clamp (x := z7) rfl (by omega); have h8 : 0 ≤ (V 27 gc).toInt := (hMV 27 gc).1; omega
                have pq230 : (V227 28 (Int32.toNatClampNeg z7)).toInt = z205.toInt := congrArg Int32.toInt ((up2_o hV227 (by decide)).trans ((up2_o hV225 (by decide)).trans (up2_s hV221)))
                have pq231 : (V227 29 (Int32.toNatClampNeg z7)).toInt = ((vp_nar .boolean z9)).toInt := congrArg Int32.toInt ((up2_o hV227 (by decide)).trans ((up2_o hV225 (by decide)).trans ((up2_o hV221 (by decide)).trans ((ajV209 29 (Int32.toNatClampNeg z7) rfl).trans ((up2_o hV203 (by decide)).trans ((ajV189 29 (Int32.toNatClampNeg z7) rfl).trans (up2_s hV178)))))))
                have pq232 : (V227 30 (Int32.toNatClampNeg z7)).toInt = ((vp_nar .boolean 1)).toInt := congrArg Int32.toInt ((up2_o hV227 (by decide)).trans ((up2_o hV225 (by decide)).trans ((up2_o hV221 (by decide)).trans ((ajV209 30 (Int32.toNatClampNeg z7) rfl).trans (up2_s hV203)))))
                have pq233 : (V227 31 (Int32.toNatClampNeg z7)).toInt = (-1) := (congrArg Int32.toInt ((up2_o hV227 (by decide)).trans (up2_s hV225))).trans (by decide)
                have cc234 : (V227 28 (8 * gc + (V 27 gc).toInt.toNat)).toInt = ((fx212 : Nat) : Int) := by rw [← kz9]; omega
                have cc235 : ((V227 29 (8 * gc + (V 27 gc).toInt.toNat)).toInt = 1 ↔ (2 : Int).toNat = 1) := by rw [← kz9]; exact iff_of_false (by omega) (by decide)
                have cc236 : ((V227 30 (8 * gc + (V 27 gc).toInt.toNat)).toInt = 1 ↔ (2 : Int).toNat = 2) := by rw [← kz9]; exact iff_of_true (by omega) (by decide)
                have cc237 : (V227 31 (8 * gc + (V 27 gc).toInt.toNat)).toInt + 1 = ((0 : Nat) : Int) := by rw [← kz9]; omega
                have fr238 : ∀ x k : Nat, 28 ≤ x → x ≤ 31 → k ≠ (8 * gc + (V 27 gc).toInt.toNat) → V227 x k = V x k := fun x k a1 a2 hk => by have z9 : x = 28 ∨ x = 29 ∨ x = 30 ∨ x = 31 := (by omega); rcases z9 with z9 | z9 | z9 | z9; (subst z9; exact ((up2_o hV227 (by decide)).trans ((up2_o hV225 (by decide)).trans ((up2_k hV221 (fun h9 => hk (h9.trans kz9))).trans ((ajV209 28 _ rfl).trans ((up2_o hV203 (by decide)).trans ((ajV189 28 _ rfl).trans ((up2_o hV178 (by decide)).trans ((ajV13 28 _ rfl).trans rfl))))))))); (subst z9; exact ((up2_o hV227 (by decide)).trans ((up2_o hV225 (by decide)).trans ((up2_o hV221 (by decide)).trans ((ajV209 29 _ rfl).trans ((up2_o hV203 (by decide)).trans ((ajV189 29 _ rfl).trans ((up2_k hV178 (fun h9 => hk (h9.trans kz9))).trans ((ajV13 29 _ rfl).trans rfl))))))))); (subst z9; exact ((up2_o hV227 (by decide)).trans ((up2_o hV225 (by decide)).trans ((up2_o hV221 (by decide)).trans ((ajV209 30 _ rfl).trans ((up2_k hV203 (fun h9 => hk (h9.trans kz9))).trans ((ajV189 30 _ rfl).trans ((up2_o hV178 (by decide)).trans ((ajV13 30 _ rfl).trans rfl))))))))); (subst z9; exact ((up2_o hV227 (by decide)).trans ((up2_k hV225 (fun h9 => hk (h9.trans kz9))).trans ((up2_o hV221 (by decide)).trans ((ajV209 31 _ rfl).trans ((up2_o hV203 (by decide)).trans ((ajV189 31 _ rfl).trans ((up2_o hV178 (by decide)).trans ((ajV13 31 _ rfl).trans rfl)))))))))
                have rw239 : RoV 35 bq V V227 := (fun k hk => ((up2_o hV227 (by decide)).trans ((up2_o hV225 (by decide)).trans ((up2_o hV221 (by decide)).trans ((ajV209 35 k rfl).trans ((up2_o hV203 (by decide)).trans ((ajV189 35 k rfl).trans ((up2_o hV178 (by decide)).trans ((ajV13 35 k rfl).trans rfl)))))))))
                have rw240 : RoV 37 bq V V227 := (fun k hk => ((up2_o hV227 (by decide)).trans ((up2_o hV225 (by decide)).trans ((up2_o hV221 (by decide)).trans ((ajV209 37 k rfl).trans ((up2_o hV203 (by decide)).trans ((ajV189 37 k rfl).trans ((up2_o hV178 (by decide)).trans ((ajV13 37 k rfl).trans rfl)))))))))
                have rw241 : RoL 36 20 bq L L := (fun k hk => rfl)
                have rw242 : RoL 38 20 bq L L := (fun k hk => rfl)
                exact W.vret hx hb hr (fun t ht hW => ⟨⟨(V227, L), rfl, ⟨hMV227, agV227, alL, (show (V227 27 gc).toInt = (V 27 gc).toInt + 1 from by rw [← kgc]; omega), (Or.inl ⟨W0 rl229, (nx (nx gs 1) 1), 2, fx212, 0, hr217, rl229, keepS.le (keepS.tr (keepS.tr (keepS.rf : keepS gs 0 gs) (keepS.n1 1)) (keepS.n1 1)) (by decide), fr238, cc234, cc235, cc236, cc237, (fun k hk => ((up2_k hV227 (fun h9 => hk (h9.trans kgc))).trans ((up2_o hV225 (by decide)).trans ((up2_o hV221 (by decide)).trans ((ajV209 27 _ rfl).trans ((up2_o hV203 (by decide)).trans ((ajV189 27 _ rfl).trans ((up2_o hV178 (by decide)).trans ((ajV13 27 _ rfl).trans rfl)))))))))⟩), rw239, rw240, rw241, rw242⟩, by rw [ht]; exact hP, va_K.moved hW.alike hK, hD⟩, hS.F ht⟩) hS.2.2 dX12_takeNeed_120
              · skip
                have f243 : ((vp_nar .boolean 1)).toInt = 0 := b_eq rfl (by decide) c223
                exfalso; omega
            · skip
              have hb244 : ∀ k, Rc gT (Crun gs (IneedK :: k)) (Cbad (V209 0 8).toInt) := fun k => Rc.go1 (hr196 k) (nd_b h213)
              have r245 : 0 ≤ ((V209 0 8)).toInt ∧ ((V209 0 8)).toInt ≤ 70000 := hMV209 0 8
              refine va_iast (D := D) (i := z7) (x := z205) hx hb hK hP hD hS 21 20 rfl rfl (i_in (a := z7.toInt) rfl (by omega)) dX12_takeNeed_70 (fun H locs hP hD hS => ?_)
              obtain ⟨V246, hV246⟩ : ∃ z, z = up2 V209 28 (Int32.toNatClampNeg z7) z205 := ⟨_, rfl⟩
              have hP : va_P D vwCl (mw ad kk ks.1 V246 L) H := by rw [hV246]; exact hP
              have hD : va_D A (mw ad kk ks.1 V246 L) := by rw [hV246]; exact hD
              have hMV246 : rgd bM V246 := hMV209.put hV246 (show (-1) ≤ z205.toInt ∧ z205.toInt ≤ 23 from by omega)
              have agV246 : agr [(0, 7), (0, 8)] [27, 28, 29, 30, 31, 35, 36, 37, 38] V V246 := agV209.up hV246 rfl
              refine lv_aload_n hx hb dX12_takeNeed_71 rfl (lv_at hl 1 rfl) ?_
              refine va_get (D := D) (ci := 12) (v := .ref (ad 31)) (C := RX12) (T := TX12) (N := 100) hx hb hg inX12 hown hK hP 0 rfl rfl 31 (by decide) (hg _ w1741) (fun _ h9 => h9) rfl dX12_takeNeed_72 ?_
              refine lv_iload_n hx hb dX12_takeNeed_75 rfl (lv_at hl 0 rfl) ?_
              refine lv_aload_n hx hb dX12_takeNeed_76 rfl (lv_at hl 1 rfl) ?_
              refine va_get (D := D) (ci := 12) (v := .ref (ad 30)) (C := RX12) (T := TX12) (N := 100) hx hb hg inX12 hown hK hP 0 rfl rfl 30 (by decide) (hg _ w1740) (fun _ h9 => h9) rfl dX12_takeNeed_77 ?_
              refine lv_iload_n hx hb dX12_takeNeed_80 rfl (lv_at hl 0 rfl) ?_
              refine va_zald (D := D) (i := z7) hx hb hK hP 23 22 rfl rfl (i_in (a := z7.toInt) rfl (by omega)) dX12_takeNeed_81 ?_
              refine g_top (v := (vp_nar .boolean 1)) ((up2_o hV246 (by decide)).trans ((ajV209 30 (Int32.toNatClampNeg z7) rfl).trans (up2_s hV203))) ?_
              have nr247 : (vp_nar .boolean 1).toInt = 1 := by decide
              refine lv_if_ne (tgt := 108) hx hb dX12_takeNeed_82 (by decide) (fun c248 => ?_) (fun c248 => ?_)
              · skip
                have f249 : ((vp_nar .boolean 1)).toInt ≠ 0 := b_neq rfl (by decide) c248
                refine lv_iconst (v := (-1)) hx hb dX12_takeNeed_108 (by decide) ?_
                refine va_iast (D := D) (i := z7) (x := (-1)) hx hb hK hP hD hS 24 23 rfl rfl (i_in (a := z7.toInt) rfl (by omega)) dX12_takeNeed_109 (fun H locs hP hD hS => ?_)
                obtain ⟨V250, hV250⟩ : ∃ z, z = up2 V246 31 (Int32.toNatClampNeg z7) (-1) := ⟨_, rfl⟩
                have hP : va_P D vwCl (mw ad kk ks.1 V250 L) H := by rw [hV250]; exact hP
                have hD : va_D A (mw ad kk ks.1 V250 L) := by rw [hV250]; exact hD
                have hMV250 : rgd bM V250 := hMV246.put hV250 (i_full _)
                have agV250 : agr [(0, 7), (0, 8)] [27, 28, 29, 30, 31, 35, 36, 37, 38] V V250 := agV246.up hV250 rfl
                refine lv_aload_n hx hb dX12_takeNeed_110 rfl (lv_at hl 1 rfl) ?_
                refine va_get (D := D) (ci := 12) (v := .ref (ad 27)) (C := RX12) (T := TX12) (N := 100) hx hb hg inX12 hown hK hP 0 rfl rfl 27 (by decide) (hg _ w1737) (fun _ h9 => h9) rfl dX12_takeNeed_111 ?_
                refine lv_iload_n hx hb dX12_takeNeed_114 rfl (lv_at hl 2 rfl) ?_
                refine lv_dup2_11 hx hb dX12_takeNeed_115 rfl rfl ?_
                refine va_iald (D := D) (i := p0) hx hb hK hP 20 19 rfl rfl (i_in (a := p0.toInt) rfl (by omega)) dX12_takeNeed_116 ?_
                refine g_top (v := (V 27 (Int32.toNatClampNeg p0))) ((up2_o hV250 (by decide)).trans ((up2_o hV246 (by decide)).trans ((ajV209 27 (Int32.toNatClampNeg p0) rfl).trans ((up2_o hV203 (by decide)).trans ((ajV189 27 (Int32.toNatClampNeg p0) rfl).trans ((up2_o hV178 (by decide)).trans (ajV13 27 (Int32.toNatClampNeg p0) rfl))))))) ?_
                refine lv_iconst (v := 1) hx hb dX12_takeNeed_117 (by decide) ?_
                refine lv_iadd hx hb dX12_takeNeed_118 ?_
                refine lv_topi (fun z251 ez251 => ?_)
                have hz251 : z251.toInt = ((V 27 (Int32.toNatClampNeg p0))).toInt + 1 := i_add ez251 rfl (by decide) (by omega)
                refine va_iast (D := D) (i := p0) (x := z251) hx hb hK hP hD hS 20 19 rfl rfl (i_in (a := p0.toInt) rfl (by omega)) dX12_takeNeed_119 (fun H locs hP hD hS => ?_)
                obtain ⟨V252, hV252⟩ : ∃ z, z = up2 V250 27 (Int32.toNatClampNeg p0) z251 := ⟨_, rfl⟩
                have hP : va_P D vwCl (mw ad kk ks.1 V252 L) H := by rw [hV252]; exact hP
                have hD : va_D A (mw ad kk ks.1 V252 L) := by rw [hV252]; exact hD
                have hMV252 : rgd bM V252 := hMV250.put hV252 (show 0 ≤ z251.toInt ∧ z251.toInt ≤ 8 from by omega)
                have agV252 : agr [(0, 7), (0, 8)] [27, 28, 29, 30, 31, 35, 36, 37, 38] V V252 := agV250.up hV252 rfl
                have pq253 : (V252 27 (Int32.toNatClampNeg p0)).toInt = z251.toInt := congrArg Int32.toInt (up2_s hV252)
                have pq254 : (V252 0 8).toInt = ((V209 0 8)).toInt := congrArg Int32.toInt ((up2_o hV252 (by decide)).trans ((up2_o hV250 (by decide)).trans (up2_o hV246 (by decide))))
                have rw255 : RoV 35 bq V V252 := (fun k hk => ((up2_o hV252 (by decide)).trans ((up2_o hV250 (by decide)).trans ((up2_o hV246 (by decide)).trans ((ajV209 35 k rfl).trans ((up2_o hV203 (by decide)).trans ((ajV189 35 k rfl).trans ((up2_o hV178 (by decide)).trans ((ajV13 35 k rfl).trans rfl)))))))))
                have rw256 : RoV 37 bq V V252 := (fun k hk => ((up2_o hV252 (by decide)).trans ((up2_o hV250 (by decide)).trans ((up2_o hV246 (by decide)).trans ((ajV209 37 k rfl).trans ((up2_o hV203 (by decide)).trans ((ajV189 37 k rfl).trans ((up2_o hV178 (by decide)).trans ((ajV13 37 k rfl).trans rfl)))))))))
                have rw257 : RoL 36 20 bq L L := (fun k hk => rfl)
                have rw258 : RoL 38 20 bq L L := (fun k hk => rfl)
                exact W.vret hx hb hr (fun t ht hW => ⟨⟨(V252, L), rfl, ⟨hMV252, agV252, alL, (show (V252 27 gc).toInt = (V 27 gc).toInt + 1 from by rw [← kgc]; omega), (Or.inr ⟨(show 1 ≤ (V252 0 8).toInt from by omega), (fun k => by rw [show (V252 0 8).toInt = (V209 0 8).toInt from by omega]; exact hb244 k)⟩), rw255, rw256, rw257, rw258⟩, by rw [ht]; exact hP, va_K.moved hW.alike hK, hD⟩, hS.F ht⟩) hS.2.2 dX12_takeNeed_120
              · skip
                have f259 : ((vp_nar .boolean 1)).toInt = 0 := b_eq rfl (by decide) c248
                exfalso; omega
        · skip
          have kd260 : gT.1 (gs.1 0) ≠ 139 := fun h9 => h192 (h9.trans (by decide))
          have fz261 := RelM.rg rl193
          have pq262 : (V189 0 8).toInt = ((V 0 8)).toInt := congrArg Int32.toInt ((ajV189 0 8 rfl).trans ((up2_o hV178 (by decide)).trans (ajV13 0 8 rfl)))
          refine lv_if_eq (tgt := 59) hx hb dX12_takeNeed_52 (by decide) (fun c263 => ?_) (fun c263 => ?_)
          · skip
            have f264 : z185.toInt = 0 := b_eq rfl (by decide) c263
            refine lv_iconst (v := 0) hx hb dX12_takeNeed_59 (by decide) ?_
            refine va_zast (D := D) (i := z7) (x := 0) hx hb hK hP hD hS 23 22 rfl rfl (i_in (a := z7.toInt) rfl (by omega)) dX12_takeNeed_60 (fun H locs hP hD hS => ?_)
            obtain ⟨V265, hV265⟩ : ∃ z, z = up2 V189 30 (Int32.toNatClampNeg z7) (vp_nar .boolean 0) := ⟨_, rfl⟩
            have hP : va_P D vwCl (mw ad kk ks.1 V265 L) H := by rw [hV265]; exact hP
            have hD : va_D A (mw ad kk ks.1 V265 L) := by rw [hV265]; exact hD
            have hMV265 : rgd bM V265 := hMV189.put hV265 (nar_b _)
            have agV265 : agr [(0, 7), (0, 8)] [27, 28, 29, 30, 31, 35, 36, 37, 38] V V265 := agV189.up hV265 rfl
            refine lv_aload_n hx hb dX12_takeNeed_61 rfl (lv_at hl 1 rfl) ?_
            refine va_get (D := D) (ci := 12) (v := .ref (ad 28)) (C := RX12) (T := TX12) (N := 100) hx hb hg inX12 hown hK hP 0 rfl rfl 28 (by decide) (hg _ w1738) (fun _ h9 => h9) rfl dX12_takeNeed_62 ?_
            refine lv_iload_n hx hb dX12_takeNeed_65 rfl (lv_at hl 0 rfl) ?_
            refine lv_aload_n hx hb dX12_takeNeed_66 rfl (lv_at hl 1 rfl) ?_
            have rl266 : RelM V265 L bq gn gT gs gl := RelM.ag rl193 (show agr [] [30] V189 V265 from (agr.up agr.rf hV265 rfl)) (by decide) (show agL [] L L from agL.rf) (by decide)
            have hr267 : ∀ k, Rc gT (Crun gs (IneedK :: k)) (Crun gs (IneedK :: k)) := fun k => Rc.rf
            have hr268 : ∀ k, Rc gT (Crun gs (IneedK :: k)) (Crun gs (IneedT 0 :: k)) := fun k => Rc.go1 (hr267 k) (needK_n kd175 kd260)
            refine gA_int (gA_runV (As := []) (rest := [.int z7, .ref (ad 28)]) (ci := 12) (q0 := 0) hx hb hml hown hg hP hD hK hS hA hnw hgk (s_takeTypeA l D ks H.size ad kk V265 L (bq) (gn) (gT) (gs) (gl) hMV265 rl266) w2063 w2065 w92 w172 w2066 rfl rfl hdV_yX12_takeType ⟨Nat.le_of_ble_eq_true rfl, Nat.le_of_ble_eq_true rfl⟩ rfl hl.1 rfl (Nat.le_of_ble_eq_true rfl) dX12_takeNeed_67 ⟨Nat.le_of_ble_eq_true rfl, Nat.le_of_ble_eq_true rfl⟩) hP hD hK hS hA (fun z269 u270 H locs w271 hP hD hK hS => ?_)
            obtain ⟨V273, L274⟩ := u270
            obtain ⟨hMV273, ajV273, axL274, rgz269, t272⟩ := w271
            have axL274 : L = L274 := Eq.symm axL274
            subst axL274
            have hP : va_P D vwCl (mw ad kk ks.1 V273 L) H := hP
            have hD : va_D A (mw ad kk ks.1 V273 L) := hD
            have hMV273 : rgd bM V273 := hMV273
            have ajV273 : agr [(0, 7), (0, 8)] [] V265 V273 := ajV273
            have agV273 : agr [(0, 7), (0, 8)] [27, 28, 29, 30, 31, 35, 36, 37, 38] V V273 := agV265.tr ajV273 (by decide) (by decide)
            have rgz269 : (-1) ≤ z269.toInt ∧ z269.toInt ≤ 23 := rgz269
            have t272 : KmN (look (gT) (gs) ((gs).2.1 0)) (V273 0 8).toInt (fun f9 => RelM V273 L (bq) (gn) (gT) (nx (gs) 1) (gl) ∧ z269.toInt = ((f9 : Nat) : Int) ∧ f9 < 24) := t272
            rcases t272 with ⟨q275, fx276, h277, rl278, hf279, hb280⟩ | ⟨q275, h277⟩
            · skip
              have hr281 : ∀ k, Rc gT (Crun gs (IneedK :: k)) (Crun (nx gs 1) (Icalled 0 fx276 :: k)) := fun k => Rc.go1 (hr268 k) (nd_0 h277)
              have ps282 : (nx gs 1).1 0 = gs.1 0 + 1 := rfl
              have fz283 := RelM.rg rl278
              have r284 : 0 ≤ ((V273 0 8)).toInt ∧ ((V273 0 8)).toInt ≤ 70000 := hMV273 0 8
              refine va_iast (D := D) (i := z7) (x := z269) hx hb hK hP hD hS 21 20 rfl rfl (i_in (a := z7.toInt) rfl (by omega)) dX12_takeNeed_70 (fun H locs hP hD hS => ?_)
              obtain ⟨V285, hV285⟩ : ∃ z, z = up2 V273 28 (Int32.toNatClampNeg z7) z269 := ⟨_, rfl⟩
              have hP : va_P D vwCl (mw ad kk ks.1 V285 L) H := by rw [hV285]; exact hP
              have hD : va_D A (mw ad kk ks.1 V285 L) := by rw [hV285]; exact hD
              have hMV285 : rgd bM V285 := hMV273.put hV285 (show (-1) ≤ z269.toInt ∧ z269.toInt ≤ 23 from by omega)
              have agV285 : agr [(0, 7), (0, 8)] [27, 28, 29, 30, 31, 35, 36, 37, 38] V V285 := agV273.up hV285 rfl
              refine lv_aload_n hx hb dX12_takeNeed_71 rfl (lv_at hl 1 rfl) ?_
              refine va_get (D := D) (ci := 12) (v := .ref (ad 31)) (C := RX12) (T := TX12) (N := 100) hx hb hg inX12 hown hK hP 0 rfl rfl 31 (by decide) (hg _ w1741) (fun _ h9 => h9) rfl dX12_takeNeed_72 ?_
              refine lv_iload_n hx hb dX12_takeNeed_75 rfl (lv_at hl 0 rfl) ?_
              refine lv_aload_n hx hb dX12_takeNeed_76 rfl (lv_at hl 1 rfl) ?_
              refine va_get (D := D) (ci := 12) (v := .ref (ad 30)) (C := RX12) (T := TX12) (N := 100) hx hb hg inX12 hown hK hP 0 rfl rfl 30 (by decide) (hg _ w1740) (fun _ h9 => h9) rfl dX12_takeNeed_77 ?_
              refine lv_iload_n hx hb dX12_takeNeed_80 rfl (lv_at hl 0 rfl) ?_
              refine va_zald (D := D) (i := z7) hx hb hK hP 23 22 rfl rfl (i_in (a := z7.toInt) rfl (by omega)) dX12_takeNeed_81 ?_
              refine g_top (v := (vp_nar .boolean 0)) ((up2_o hV285 (by decide)).trans ((ajV273 30 (Int32.toNatClampNeg z7) rfl).trans (up2_s hV265))) ?_
              have nr286 : (vp_nar .boolean 0).toInt = 0 := by decide
              refine lv_if_ne (tgt := 108) hx hb dX12_takeNeed_82 (by decide) (fun c287 => ?_) (fun c287 => ?_)
              · skip
                have f288 : ((vp_nar .boolean 0)).toInt ≠ 0 := b_neq rfl (by decide) c287
                exfalso; omega
              · skip
                have f289 : ((vp_nar .boolean 0)).toInt = 0 := b_eq rfl (by decide) c287
                refine lv_aload_n hx hb dX12_takeNeed_85 rfl (lv_at hl 1 rfl) ?_
                refine lv_iconst (v := 5) hx hb dX12_takeNeed_86 (by decide) ?_
                have rl290 : RelM V285 L bq gn gT (nx gs 1) gl := RelM.ag rl278 (show agr [] [28] V273 V285 from (agr.up agr.rf hV285 rfl)) (by decide) (show agL [] L L from agL.rf) (by decide)
                have r291 : Int32.toInt 5 = 5 := by decide
                refine gA_int (gA_runV (As := [.int 5]) (rest := [.int z7, .ref (ad 31)]) (ci := 12) (q0 := 0) hx hb hml hown hg hP hD hK hS hA hnw hgk (s_hasWordA l D ks H.size ad kk V285 L 5 (bq) (gn) (gT) ((nx gs 1)) (gl) hMV285 (by decide) rl290) w2055 w2057 w90 w172 w2058 rfl rfl hdV_yX12_hasWord ⟨Nat.le_of_ble_eq_true rfl, Nat.le_of_ble_eq_true rfl⟩ rfl hl.1 rfl (Nat.le_of_ble_eq_true rfl) dX12_takeNeed_87 ⟨Nat.le_of_ble_eq_true rfl, Nat.le_of_ble_eq_true rfl⟩) hP hD hK hS hA (fun z292 u293 H locs w294 hP hD hK hS => ?_)
                obtain ⟨V296, L297⟩ := u293
                obtain ⟨hMV296, ajV296, axL297, rgz292, t295⟩ := w294
                have axL297 : L = L297 := Eq.symm axL297
                subst axL297
                have hP : va_P D vwCl (mw ad kk ks.1 V296 L) H := hP
                have hD : va_D A (mw ad kk ks.1 V296 L) := hD
                have hMV296 : rgd bM V296 := hMV296
                have ajV296 : agr [(0, 7)] [] V285 V296 := ajV296
                have agV296 : agr [(0, 7), (0, 8)] [27, 28, 29, 30, 31, 35, 36, 37, 38] V V296 := agV285.tr ajV296 (by decide) (by decide)
                have rgz292 : 0 ≤ z292.toInt ∧ z292.toInt ≤ 1 := rgz292
                have t295 : (z292.toInt = 1 ∧ (gT).1 (((nx gs 1)).1 0) = 128 + (Int32.toInt 5) ∧ RelM V296 L (bq) (gn) (gT) (nx ((nx gs 1)) 1) (gl)) ∨ (z292.toInt = 0 ∧ (gT).1 (((nx gs 1)).1 0) ≠ 128 + (Int32.toInt 5) ∧ RelM V296 L (bq) (gn) (gT) ((nx gs 1)) (gl)) := t295
                rcases t295 with ⟨q298, h299, rl300⟩ | ⟨q298, h299, rl300⟩
                · skip
                  have kd301 : gT.1 ((nx gs 1).1 0) = 133 := h299.trans (by decide)
                  have hr302 : ∀ k, Rc gT (Crun gs (IneedK :: k)) (Crun (nx (nx gs 1) 1) (Iword 0 fx276 :: k)) := fun k => Rc.go1 (hr281 k) (called_y 0 fx276 kd301)
                  have ps303 : (nx (nx gs 1) 1).1 0 = (nx gs 1).1 0 + 1 := rfl
                  have fz304 := RelM.rg rl300
                  have pq305 : (V296 0 8).toInt = ((V273 0 8)).toInt := congrArg Int32.toInt ((ajV296 0 8 rfl).trans (up2_o hV285 (by decide)))
                  refine lv_if_eq (tgt := 108) hx hb dX12_takeNeed_90 (by decide) (fun c306 => ?_) (fun c306 => ?_)
                  · skip
                    have f307 : z292.toInt = 0 := b_eq rfl (by decide) c306
                    exfalso; omega
                  · skip
                    have f308 : z292.toInt ≠ 0 := b_neq rfl (by decide) c306
                    refine lv_aload_n hx hb dX12_takeNeed_93 rfl (lv_at hl 1 rfl) ?_
                    refine lv_aload_n hx hb dX12_takeNeed_94 rfl (lv_at hl 1 rfl) ?_
                    refine va_get (D := D) (ci := 12) (v := .ref (ad 38)) (C := RX12) (T := TX12) (N := 100) hx hb hg inX12 hown hK hP 0 rfl rfl 38 (by decide) (hg _ w1748) (fun _ h9 => h9) rfl dX12_takeNeed_95 ?_
                    refine lv_aload_n hx hb dX12_takeNeed_98 rfl (lv_at hl 1 rfl) ?_
                    refine va_get (D := D) (ci := 12) (v := .ref (ad 37)) (C := RX12) (T := TX12) (N := 100) hx hb hg inX12 hown hK hP 0 rfl rfl 37 (by decide) (hg _ w1747) (fun _ h9 => h9) rfl dX12_takeNeed_99 ?_
                    refine gA_int (gA_runV (As := [.ref (ad 38), .ref (ad 37)]) (rest := [.int z7, .ref (ad 31)]) (ci := 12) (q0 := 0) hx hb hml hown hg hP hD hK hS hA hnw hgk (s_takeWordOf4 l D ks H.size ad kk V296 L (bq) (gn) (gT) ((nx (nx gs 1) 1)) (gl) hMV296 rl300) w2104 w2106 w102 w172 w2107 rfl rfl hdV_yX12_takeWordOf ⟨Nat.le_of_ble_eq_true rfl, Nat.le_of_ble_eq_true rfl⟩ rfl hl.1 rfl (Nat.le_of_ble_eq_true rfl) dX12_takeNeed_102 ⟨Nat.le_of_ble_eq_true rfl, Nat.le_of_ble_eq_true rfl⟩) hP hD hK hS hA (fun z309 u310 H locs w311 hP hD hK hS => ?_)
                    obtain ⟨V317, L318⟩ := u310
                    obtain ⟨hMV317, ajV317, axL318, rgz309, t312, t313, t314, t315, t316⟩ := w311
                    have alL318 : agL [27, 28, 29, 30, 31, 35, 36, 37, 38] L L318 := agL.tr alL axL318 (by decide)
                    have hP : va_P D vwCl (mw ad kk ks.1 V317 L318) H := hP
                    have hD : va_D A (mw ad kk ks.1 V317 L318) := hD
                    have hMV317 : rgd bM V317 := hMV317
                    have ajV317 : agr [(0, 7), (0, 8)] [35, 36, 37, 38] V296 V317 := ajV317
                    have agV317 : agr [(0, 7), (0, 8)] [27, 28, 29, 30, 31, 35, 36, 37, 38] V V317 := agV296.tr ajV317 (by decide) (by decide)
                    have rgz309 : (-1) ≤ z309.toInt ∧ z309.toInt ≤ 19 := rgz309
                    have t312 : KmS (mthW (gT) ((nx (nx gs 1) 1)) 4) (V317 0 8).toInt (fun x9 => RelM V317 L318 (bq) (gn) (gT) x9.2 (gl) ∧ z309.toInt = ((x9.1 : Nat) : Int) ∧ x9.1 < 20 ∧ keepS ((nx (nx gs 1) 1)) 1 x9.2 ∧ MTX (gT) ((nx (nx gs 1) 1)) 4 x9) := t312
                    have t313 : RoV 35 (bq) V296 V317 := t313
                    have t314 : RoV 37 (bq) V296 V317 := t314
                    have t315 : RoL 36 20 (bq) L L318 := t315
                    have t316 : RoL 38 20 (bq) L L318 := t316
                    rcases t312 with ⟨q319, mx320, h321, rl322, hf323, hb324, kp325, mt326⟩ | ⟨q319, h321⟩
                    · skip
                      have ps327 := kp325.1
                      have hr328 : ∀ k, Rc gT (Crun gs (IneedK :: k)) (Crun mx320.2 (Itake 59 :: IaddNeed 0 fx276 (mx320.1 + 1) :: Imember :: k)) := fun k => Rc.go1 (hr302 k) (wo_y h321)
                      have fz329 := RelM.rg rl322
                      have r330 : 0 ≤ ((V317 0 8)).toInt ∧ ((V317 0 8)).toInt ≤ 70000 := hMV317 0 8
                      refine lv_goto (tgt := 109) hx hb dX12_takeNeed_105 (by decide) ?_
                      refine va_iast (D := D) (i := z7) (x := z309) hx hb hK hP hD hS 24 23 rfl rfl (i_in (a := z7.toInt) rfl (by omega)) dX12_takeNeed_109 (fun H locs hP hD hS => ?_)
                      obtain ⟨V331, hV331⟩ : ∃ z, z = up2 V317 31 (Int32.toNatClampNeg z7) z309 := ⟨_, rfl⟩
                      have hP : va_P D vwCl (mw ad kk ks.1 V331 L318) H := by rw [hV331]; exact hP
                      have hD : va_D A (mw ad kk ks.1 V331 L318) := by rw [hV331]; exact hD
                      have hMV331 : rgd bM V331 := hMV317.put hV331 (i_full _)
                      have agV331 : agr [(0, 7), (0, 8)] [27, 28, 29, 30, 31, 35, 36, 37, 38] V V331 := agV317.up hV331 rfl
                      refine lv_aload_n hx hb dX12_takeNeed_110 rfl (lv_at hl 1 rfl) ?_
                      refine va_get (D := D) (ci := 12) (v := .ref (ad 27)) (C := RX12) (T := TX12) (N := 100) hx hb hg inX12 hown hK hP 0 rfl rfl 27 (by decide) (hg _ w1737) (fun _ h9 => h9) rfl dX12_takeNeed_111 ?_
                      refine lv_iload_n hx hb dX12_takeNeed_114 rfl (lv_at hl 2 rfl) ?_
                      refine lv_dup2_11 hx hb dX12_takeNeed_115 rfl rfl ?_
                      refine va_iald (D := D) (i := p0) hx hb hK hP 20 19 rfl rfl (i_in (a := p0.toInt) rfl (by omega)) dX12_takeNeed_116 ?_
                      refine g_top (v := (V 27 (Int32.toNatClampNeg p0))) ((up2_o hV331 (by decide)).trans ((ajV317 27 (Int32.toNatClampNeg p0) rfl).trans ((ajV296 27 (Int32.toNatClampNeg p0) rfl).trans ((up2_o hV285 (by decide)).trans ((ajV273 27 (Int32.toNatClampNeg p0) rfl).trans ((up2_o hV265 (by decide)).trans ((ajV189 27 (Int32.toNatClampNeg p0) rfl).trans ((up2_o hV178 (by decide)).trans (ajV13 27 (Int32.toNatClampNeg p0) rfl))))))))) ?_
                      refine lv_iconst (v := 1) hx hb dX12_takeNeed_117 (by decide) ?_
                      refine lv_iadd hx hb dX12_takeNeed_118 ?_
                      refine lv_topi (fun z332 ez332 => ?_)
                      have hz332 : z332.toInt = ((V 27 (Int32.toNatClampNeg p0))).toInt + 1 := i_add ez332 rfl (by decide) (by omega)
                      refine va_iast (D := D) (i := p0) (x := z332) hx hb hK hP hD hS 20 19 rfl rfl (i_in (a := p0.toInt) rfl (by omega)) dX12_takeNeed_119 (fun H locs hP hD hS => ?_)
                      obtain ⟨V333, hV333⟩ : ∃ z, z = up2 V331 27 (Int32.toNatClampNeg p0) z332 := ⟨_, rfl⟩
                      have hP : va_P D vwCl (mw ad kk ks.1 V333 L318) H := by rw [hV333]; exact hP
                      have hD : va_D A (mw ad kk ks.1 V333 L318) := by rw [hV333]; exact hD
                      have hMV333 : rgd bM V333 := hMV331.put hV333 (show 0 ≤ z332.toInt ∧ z332.toInt ≤ 8 from by omega)
                      have agV333 : agr [(0, 7), (0, 8)] [27, 28, 29, 30, 31, 35, 36, 37, 38] V V333 := agV331.up hV333 rfl
                      have pq334 : (V333 27 (Int32.toNatClampNeg p0)).toInt = z332.toInt := congrArg Int32.toInt (up2_s hV333)
                      have rl335 : RelM V333 L318 bq gn gT mx320.2 gl := RelM.ag rl322 (show agr [] [27, 31] V317 V333 from (agr.up (agr.up agr.rf hV331 rfl) hV333 rfl)) (by decide) (show agL [] L318 L318 from agL.rf) (by decide)
                      have kz9 : (Int32.toNatClampNeg z7) = 8 * gc + (V 27 gc).toInt.toNat := by have h9 := i_clamp (x := z7) rfl (by omega); have h8 : 0 ≤ (V 27 gc).toInt := (hMV 27 gc).1; omega
                      have pq336 : (V333 28 (Int32.toNatClampNeg z7)).toInt = z269.toInt := congrArg Int32.toInt ((up2_o hV333 (by decide)).trans ((up2_o hV331 (by decide)).trans ((ajV317 28 (Int32.toNatClampNeg z7) rfl).trans ((ajV296 28 (Int32.toNatClampNeg z7) rfl).trans (up2_s hV285)))))
                      have pq337 : (V333 29 (Int32.toNatClampNeg z7)).toInt = ((vp_nar .boolean z9)).toInt := congrArg Int32.toInt ((up2_o hV333 (by decide)).trans ((up2_o hV331 (by decide)).trans ((ajV317 29 (Int32.toNatClampNeg z7) rfl).trans ((ajV296 29 (Int32.toNatClampNeg z7) rfl).trans ((up2_o hV285 (by decide)).trans ((ajV273 29 (Int32.toNatClampNeg z7) rfl).trans ((up2_o hV265 (by decide)).trans ((ajV189 29 (Int32.toNatClampNeg z7) rfl).trans (up2_s hV178)))))))))
                      have pq338 : (V333 30 (Int32.toNatClampNeg z7)).toInt = ((vp_nar .boolean 0)).toInt := congrArg Int32.toInt ((up2_o hV333 (by decide)).trans ((up2_o hV331 (by decide)).trans ((ajV317 30 (Int32.toNatClampNeg z7) rfl).trans ((ajV296 30 (Int32.toNatClampNeg z7) rfl).trans ((up2_o hV285 (by decide)).trans ((ajV273 30 (Int32.toNatClampNeg z7) rfl).trans (up2_s hV265)))))))
                      have pq339 : (V333 31 (Int32.toNatClampNeg z7)).toInt = z309.toInt := congrArg Int32.toInt ((up2_o hV333 (by decide)).trans (up2_s hV331))
                      have cc340 : (V333 28 (8 * gc + (V 27 gc).toInt.toNat)).toInt = ((fx276 : Nat) : Int) := by rw [← kz9]; omega
                      have cc341 : ((V333 29 (8 * gc + (V 27 gc).toInt.toNat)).toInt = 1 ↔ (0 : Int).toNat = 1) := by rw [← kz9]; exact iff_of_false (by omega) (by decide)
                      have cc342 : ((V333 30 (8 * gc + (V 27 gc).toInt.toNat)).toInt = 1 ↔ (0 : Int).toNat = 2) := by rw [← kz9]; exact iff_of_false (by omega) (by decide)
                      have cc343 : (V333 31 (8 * gc + (V 27 gc).toInt.toNat)).toInt + 1 = (((mx320.1 + 1) : Nat) : Int) := by rw [← kz9]; omega
                      have fr344 : ∀ x k : Nat, 28 ≤ x → x ≤ 31 → k ≠ (8 * gc + (V 27 gc).toInt.toNat) → V333 x k = V x k := fun x k a1 a2 hk => by have z9 : x = 28 ∨ x = 29 ∨ x = 30 ∨ x = 31 := (by omega); rcases z9 with z9 | z9 | z9 | z9; (subst z9; exact ((up2_o hV333 (by decide)).trans ((up2_o hV331 (by decide)).trans ((ajV317 28 _ rfl).trans ((ajV296 28 _ rfl).trans ((up2_k hV285 (fun h9 => hk (h9.trans kz9))).trans ((ajV273 28 _ rfl).trans ((up2_o hV265 (by decide)).trans ((ajV189 28 _ rfl).trans ((up2_o hV178 (by decide)).trans ((ajV13 28 _ rfl).trans rfl))))))))))); (subst z9; exact ((up2_o hV333 (by decide)).trans ((up2_o hV331 (by decide)).trans ((ajV317 29 _ rfl).trans ((ajV296 29 _ rfl).trans ((up2_o hV285 (by decide)).trans ((ajV273 29 _ rfl).trans ((up2_o hV265 (by decide)).trans ((ajV189 29 _ rfl).trans ((up2_k hV178 (fun h9 => hk (h9.trans kz9))).trans ((ajV13 29 _ rfl).trans rfl))))))))))); (subst z9; exact ((up2_o hV333 (by decide)).trans ((up2_o hV331 (by decide)).trans ((ajV317 30 _ rfl).trans ((ajV296 30 _ rfl).trans ((up2_o hV285 (by decide)).trans ((ajV273 30 _ rfl).trans ((up2_k hV265 (fun h9 => hk (h9.trans kz9))).trans ((ajV189 30 _ rfl).trans ((up2_o hV178 (by decide)).trans ((ajV13 30 _ rfl).trans rfl))))))))))); (subst z9; exact ((up2_o hV333 (by decide)).trans ((up2_k hV331 (fun h9 => hk (h9.trans kz9))).trans ((ajV317 31 _ rfl).trans ((ajV296 31 _ rfl).trans ((up2_o hV285 (by decide)).trans ((ajV273 31 _ rfl).trans ((up2_o hV265 (by decide)).trans ((ajV189 31 _ rfl).trans ((up2_o hV178 (by decide)).trans ((ajV13 31 _ rfl).trans rfl)))))))))))
                      have rw345 : RoV 35 bq V V333 := (fun k hk => ((up2_o hV333 (by decide)).trans ((up2_o hV331 (by decide)).trans ((t313 k hk).trans ((ajV296 35 k rfl).trans ((up2_o hV285 (by decide)).trans ((ajV273 35 k rfl).trans ((up2_o hV265 (by decide)).trans ((ajV189 35 k rfl).trans ((up2_o hV178 (by decide)).trans ((ajV13 35 k rfl).trans rfl)))))))))))
                      have rw346 : RoV 37 bq V V333 := (fun k hk => ((up2_o hV333 (by decide)).trans ((up2_o hV331 (by decide)).trans ((t314 k hk).trans ((ajV296 37 k rfl).trans ((up2_o hV285 (by decide)).trans ((ajV273 37 k rfl).trans ((up2_o hV265 (by decide)).trans ((ajV189 37 k rfl).trans ((up2_o hV178 (by decide)).trans ((ajV13 37 k rfl).trans rfl)))))))))))
                      have rw347 : RoL 36 20 bq L L318 := (fun k hk => ((t315 k hk).trans rfl))
                      have rw348 : RoL 38 20 bq L L318 := (fun k hk => ((t316 k hk).trans rfl))
                      exact W.vret hx hb hr (fun t ht hW => ⟨⟨(V333, L318), rfl, ⟨hMV333, agV333, alL318, (show (V333 27 gc).toInt = (V 27 gc).toInt + 1 from by rw [← kgc]; omega), (Or.inl ⟨W0 rl335, mx320.2, 0, fx276, (mx320.1 + 1), hr328, rl335, keepS.le (keepS.tr (keepS.tr (keepS.tr (keepS.rf : keepS gs 0 gs) (keepS.n1 1)) (keepS.n1 1)) kp325) (by decide), fr344, cc340, cc341, cc342, cc343, (fun k hk => ((up2_k hV333 (fun h9 => hk (h9.trans kgc))).trans ((up2_o hV331 (by decide)).trans ((ajV317 27 _ rfl).trans ((ajV296 27 _ rfl).trans ((up2_o hV285 (by decide)).trans ((ajV273 27 _ rfl).trans ((up2_o hV265 (by decide)).trans ((ajV189 27 _ rfl).trans ((up2_o hV178 (by decide)).trans ((ajV13 27 _ rfl).trans rfl)))))))))))⟩), rw345, rw346, rw347, rw348⟩, by rw [ht]; exact hP, va_K.moved hW.alike hK, hD⟩, hS.F ht⟩) hS.2.2 dX12_takeNeed_120
                    · skip
                      have hb349 : ∀ k, Rc gT (Crun gs (IneedK :: k)) (Cbad (V317 0 8).toInt) := fun k => Rc.go1 (hr302 k) (wo_b h321)
                      have r350 : 0 ≤ ((V317 0 8)).toInt ∧ ((V317 0 8)).toInt ≤ 70000 := hMV317 0 8
                      refine lv_goto (tgt := 109) hx hb dX12_takeNeed_105 (by decide) ?_
                      refine va_iast (D := D) (i := z7) (x := z309) hx hb hK hP hD hS 24 23 rfl rfl (i_in (a := z7.toInt) rfl (by omega)) dX12_takeNeed_109 (fun H locs hP hD hS => ?_)
                      obtain ⟨V351, hV351⟩ : ∃ z, z = up2 V317 31 (Int32.toNatClampNeg z7) z309 := ⟨_, rfl⟩
                      have hP : va_P D vwCl (mw ad kk ks.1 V351 L318) H := by rw [hV351]; exact hP
                      have hD : va_D A (mw ad kk ks.1 V351 L318) := by rw [hV351]; exact hD
                      have hMV351 : rgd bM V351 := hMV317.put hV351 (i_full _)
                      have agV351 : agr [(0, 7), (0, 8)] [27, 28, 29, 30, 31, 35, 36, 37, 38] V V351 := agV317.up hV351 rfl
                      refine lv_aload_n hx hb dX12_takeNeed_110 rfl (lv_at hl 1 rfl) ?_
                      refine va_get (D := D) (ci := 12) (v := .ref (ad 27)) (C := RX12) (T := TX12) (N := 100) hx hb hg inX12 hown hK hP 0 rfl rfl 27 (by decide) (hg _ w1737) (fun _ h9 => h9) rfl dX12_takeNeed_111 ?_
                      refine lv_iload_n hx hb dX12_takeNeed_114 rfl (lv_at hl 2 rfl) ?_
                      refine lv_dup2_11 hx hb dX12_takeNeed_115 rfl rfl ?_
                      refine va_iald (D := D) (i := p0) hx hb hK hP 20 19 rfl rfl (i_in (a := p0.toInt) rfl (by omega)) dX12_takeNeed_116 ?_
                      refine g_top (v := (V 27 (Int32.toNatClampNeg p0))) ((up2_o hV351 (by decide)).trans ((ajV317 27 (Int32.toNatClampNeg p0) rfl).trans ((ajV296 27 (Int32.toNatClampNeg p0) rfl).trans ((up2_o hV285 (by decide)).trans ((ajV273 27 (Int32.toNatClampNeg p0) rfl).trans ((up2_o hV265 (by decide)).trans ((ajV189 27 (Int32.toNatClampNeg p0) rfl).trans ((up2_o hV178 (by decide)).trans (ajV13 27 (Int32.toNatClampNeg p0) rfl))))))))) ?_
                      refine lv_iconst (v := 1) hx hb dX12_takeNeed_117 (by decide) ?_
                      refine lv_iadd hx hb dX12_takeNeed_118 ?_
                      refine lv_topi (fun z352 ez352 => ?_)
                      have hz352 : z352.toInt = ((V 27 (Int32.toNatClampNeg p0))).toInt + 1 := i_add ez352 rfl (by decide) (by omega)
                      refine va_iast (D := D) (i := p0) (x := z352) hx hb hK hP hD hS 20 19 rfl rfl (i_in (a := p0.toInt) rfl (by omega)) dX12_takeNeed_119 (fun H locs hP hD hS => ?_)
                      obtain ⟨V353, hV353⟩ : ∃ z, z = up2 V351 27 (Int32.toNatClampNeg p0) z352 := ⟨_, rfl⟩
                      have hP : va_P D vwCl (mw ad kk ks.1 V353 L318) H := by rw [hV353]; exact hP
                      have hD : va_D A (mw ad kk ks.1 V353 L318) := by rw [hV353]; exact hD
                      have hMV353 : rgd bM V353 := hMV351.put hV353 (show 0 ≤ z352.toInt ∧ z352.toInt ≤ 8 from by omega)
                      have agV353 : agr [(0, 7), (0, 8)] [27, 28, 29, 30, 31, 35, 36, 37, 38] V V353 := agV351.up hV353 rfl
                      have pq354 : (V353 27 (Int32.toNatClampNeg p0)).toInt = z352.toInt := congrArg Int32.toInt (up2_s hV353)
                      have pq355 : (V353 0 8).toInt = ((V317 0 8)).toInt := congrArg Int32.toInt ((up2_o hV353 (by decide)).trans (up2_o hV351 (by decide)))
                      have rw356 : RoV 35 bq V V353 := (fun k hk => ((up2_o hV353 (by decide)).trans ((up2_o hV351 (by decide)).trans ((t313 k hk).trans ((ajV296 35 k rfl).trans ((up2_o hV285 (by decide)).trans ((ajV273 35 k rfl).trans ((up2_o hV265 (by decide)).trans ((ajV189 35 k rfl).trans ((up2_o hV178 (by decide)).trans ((ajV13 35 k rfl).trans rfl)))))))))))
                      have rw357 : RoV 37 bq V V353 := (fun k hk => ((up2_o hV353 (by decide)).trans ((up2_o hV351 (by decide)).trans ((t314 k hk).trans ((ajV296 37 k rfl).trans ((up2_o hV285 (by decide)).trans ((ajV273 37 k rfl).trans ((up2_o hV265 (by decide)).trans ((ajV189 37 k rfl).trans ((up2_o hV178 (by decide)).trans ((ajV13 37 k rfl).trans rfl)))))))))))
                      have rw358 : RoL 36 20 bq L L318 := (fun k hk => ((t315 k hk).trans rfl))
                      have rw359 : RoL 38 20 bq L L318 := (fun k hk => ((t316 k hk).trans rfl))
                      exact W.vret hx hb hr (fun t ht hW => ⟨⟨(V353, L318), rfl, ⟨hMV353, agV353, alL318, (show (V353 27 gc).toInt = (V 27 gc).toInt + 1 from by rw [← kgc]; omega), (Or.inr ⟨(show 1 ≤ (V353 0 8).toInt from by omega), (fun k => by rw [show (V353 0 8).toInt = (V317 0 8).toInt from by omega]; exact hb349 k)⟩), rw356, rw357, rw358, rw359⟩, by rw [ht]; exact hP, va_K.moved hW.alike hK, hD⟩, hS.F ht⟩) hS.2.2 dX12_takeNeed_120
                · skip
                  have kd360 : gT.1 ((nx gs 1).1 0) ≠ 133 := fun h9 => h299 (h9.trans (by decide))
                  have fz361 := RelM.rg rl300
                  have pq362 : (V296 0 8).toInt = ((V273 0 8)).toInt := congrArg Int32.toInt ((ajV296 0 8 rfl).trans (up2_o hV285 (by decide)))
                  refine lv_if_eq (tgt := 108) hx hb dX12_takeNeed_90 (by decide) (fun c363 => ?_) (fun c363 => ?_)
                  · skip
                    have f364 : z292.toInt = 0 := b_eq rfl (by decide) c363
                    refine lv_iconst (v := (-1)) hx hb dX12_takeNeed_108 (by decide) ?_
                    refine va_iast (D := D) (i := z7) (x := (-1)) hx hb hK hP hD hS 24 23 rfl rfl (i_in (a := z7.toInt) rfl (by omega)) dX12_takeNeed_109 (fun H locs hP hD hS => ?_)
                    obtain ⟨V365, hV365⟩ : ∃ z, z = up2 V296 31 (Int32.toNatClampNeg z7) (-1) := ⟨_, rfl⟩
                    have hP : va_P D vwCl (mw ad kk ks.1 V365 L) H := by rw [hV365]; exact hP
                    have hD : va_D A (mw ad kk ks.1 V365 L) := by rw [hV365]; exact hD
                    have hMV365 : rgd bM V365 := hMV296.put hV365 (i_full _)
                    have agV365 : agr [(0, 7), (0, 8)] [27, 28, 29, 30, 31, 35, 36, 37, 38] V V365 := agV296.up hV365 rfl
                    refine lv_aload_n hx hb dX12_takeNeed_110 rfl (lv_at hl 1 rfl) ?_
                    refine va_get (D := D) (ci := 12) (v := .ref (ad 27)) (C := RX12) (T := TX12) (N := 100) hx hb hg inX12 hown hK hP 0 rfl rfl 27 (by decide) (hg _ w1737) (fun _ h9 => h9) rfl dX12_takeNeed_111 ?_
                    refine lv_iload_n hx hb dX12_takeNeed_114 rfl (lv_at hl 2 rfl) ?_
                    refine lv_dup2_11 hx hb dX12_takeNeed_115 rfl rfl ?_
                    refine va_iald (D := D) (i := p0) hx hb hK hP 20 19 rfl rfl (i_in (a := p0.toInt) rfl (by omega)) dX12_takeNeed_116 ?_
                    refine g_top (v := (V 27 (Int32.toNatClampNeg p0))) ((up2_o hV365 (by decide)).trans ((ajV296 27 (Int32.toNatClampNeg p0) rfl).trans ((up2_o hV285 (by decide)).trans ((ajV273 27 (Int32.toNatClampNeg p0) rfl).trans ((up2_o hV265 (by decide)).trans ((ajV189 27 (Int32.toNatClampNeg p0) rfl).trans ((up2_o hV178 (by decide)).trans (ajV13 27 (Int32.toNatClampNeg p0) rfl)))))))) ?_
                    refine lv_iconst (v := 1) hx hb dX12_takeNeed_117 (by decide) ?_
                    refine lv_iadd hx hb dX12_takeNeed_118 ?_
                    refine lv_topi (fun z366 ez366 => ?_)
                    have hz366 : z366.toInt = ((V 27 (Int32.toNatClampNeg p0))).toInt + 1 := i_add ez366 rfl (by decide) (by omega)
                    refine va_iast (D := D) (i := p0) (x := z366) hx hb hK hP hD hS 20 19 rfl rfl (i_in (a := p0.toInt) rfl (by omega)) dX12_takeNeed_119 (fun H locs hP hD hS => ?_)
                    obtain ⟨V367, hV367⟩ : ∃ z, z = up2 V365 27 (Int32.toNatClampNeg p0) z366 := ⟨_, rfl⟩
                    have hP : va_P D vwCl (mw ad kk ks.1 V367 L) H := by rw [hV367]; exact hP
                    have hD : va_D A (mw ad kk ks.1 V367 L) := by rw [hV367]; exact hD
                    have hMV367 : rgd bM V367 := hMV365.put hV367 (show 0 ≤ z366.toInt ∧ z366.toInt ≤ 8 from by omega)
                    have agV367 : agr [(0, 7), (0, 8)] [27, 28, 29, 30, 31, 35, 36, 37, 38] V V367 := agV365.up hV367 rfl
                    have pq368 : (V367 27 (Int32.toNatClampNeg p0)).toInt = z366.toInt := congrArg Int32.toInt (up2_s hV367)
                    have hr369 : ∀ k, Rc gT (Crun gs (IneedK :: k)) (Crun (nx gs 1) (Itake 59 :: IaddNeed 0 fx276 0 :: Imember :: k)) := fun k => Rc.go1 (hr281 k) (called_n 0 fx276 kd360)
                    have rl370 : RelM V367 L bq gn gT (nx gs 1) gl := RelM.ag rl300 (show agr [] [27, 31] V296 V367 from (agr.up (agr.up agr.rf hV365 rfl) hV367 rfl)) (by decide) (show agL [] L L from agL.rf) (by decide)
                    have kz9 : (Int32.toNatClampNeg z7) = 8 * gc + (V 27 gc).toInt.toNat := by have h9 := i_clamp (x := z7) rfl (by omega); have h8 : 0 ≤ (V 27 gc).toInt := (hMV 27 gc).1; omega
                    have pq371 : (V367 28 (Int32.toNatClampNeg z7)).toInt = z269.toInt := congrArg Int32.toInt ((up2_o hV367 (by decide)).trans ((up2_o hV365 (by decide)).trans ((ajV296 28 (Int32.toNatClampNeg z7) rfl).trans (up2_s hV285))))
                    have pq372 : (V367 29 (Int32.toNatClampNeg z7)).toInt = ((vp_nar .boolean z9)).toInt := congrArg Int32.toInt ((up2_o hV367 (by decide)).trans ((up2_o hV365 (by decide)).trans ((ajV296 29 (Int32.toNatClampNeg z7) rfl).trans ((up2_o hV285 (by decide)).trans ((ajV273 29 (Int32.toNatClampNeg z7) rfl).trans ((up2_o hV265 (by decide)).trans ((ajV189 29 (Int32.toNatClampNeg z7) rfl).trans (up2_s hV178))))))))
                    have pq373 : (V367 30 (Int32.toNatClampNeg z7)).toInt = ((vp_nar .boolean 0)).toInt := congrArg Int32.toInt ((up2_o hV367 (by decide)).trans ((up2_o hV365 (by decide)).trans ((ajV296 30 (Int32.toNatClampNeg z7) rfl).trans ((up2_o hV285 (by decide)).trans ((ajV273 30 (Int32.toNatClampNeg z7) rfl).trans (up2_s hV265))))))
                    have pq374 : (V367 31 (Int32.toNatClampNeg z7)).toInt = (-1) := (congrArg Int32.toInt ((up2_o hV367 (by decide)).trans (up2_s hV365))).trans (by decide)
                    have cc375 : (V367 28 (8 * gc + (V 27 gc).toInt.toNat)).toInt = ((fx276 : Nat) : Int) := by rw [← kz9]; omega
                    have cc376 : ((V367 29 (8 * gc + (V 27 gc).toInt.toNat)).toInt = 1 ↔ (0 : Int).toNat = 1) := by rw [← kz9]; exact iff_of_false (by omega) (by decide)
                    have cc377 : ((V367 30 (8 * gc + (V 27 gc).toInt.toNat)).toInt = 1 ↔ (0 : Int).toNat = 2) := by rw [← kz9]; exact iff_of_false (by omega) (by decide)
                    have cc378 : (V367 31 (8 * gc + (V 27 gc).toInt.toNat)).toInt + 1 = ((0 : Nat) : Int) := by rw [← kz9]; omega
                    have fr379 : ∀ x k : Nat, 28 ≤ x → x ≤ 31 → k ≠ (8 * gc + (V 27 gc).toInt.toNat) → V367 x k = V x k := fun x k a1 a2 hk => by have z9 : x = 28 ∨ x = 29 ∨ x = 30 ∨ x = 31 := (by omega); rcases z9 with z9 | z9 | z9 | z9; (subst z9; exact ((up2_o hV367 (by decide)).trans ((up2_o hV365 (by decide)).trans ((ajV296 28 _ rfl).trans ((up2_k hV285 (fun h9 => hk (h9.trans kz9))).trans ((ajV273 28 _ rfl).trans ((up2_o hV265 (by decide)).trans ((ajV189 28 _ rfl).trans ((up2_o hV178 (by decide)).trans ((ajV13 28 _ rfl).trans rfl)))))))))); (subst z9; exact ((up2_o hV367 (by decide)).trans ((up2_o hV365 (by decide)).trans ((ajV296 29 _ rfl).trans ((up2_o hV285 (by decide)).trans ((ajV273 29 _ rfl).trans ((up2_o hV265 (by decide)).trans ((ajV189 29 _ rfl).trans ((up2_k hV178 (fun h9 => hk (h9.trans kz9))).trans ((ajV13 29 _ rfl).trans rfl)))))))))); (subst z9; exact ((up2_o hV367 (by decide)).trans ((up2_o hV365 (by decide)).trans ((ajV296 30 _ rfl).trans ((up2_o hV285 (by decide)).trans ((ajV273 30 _ rfl).trans ((up2_k hV265 (fun h9 => hk (h9.trans kz9))).trans ((ajV189 30 _ rfl).trans ((up2_o hV178 (by decide)).trans ((ajV13 30 _ rfl).trans rfl)))))))))); (subst z9; exact ((up2_o hV367 (by decide)).trans ((up2_k hV365 (fun h9 => hk (h9.trans kz9))).trans ((ajV296 31 _ rfl).trans ((up2_o hV285 (by decide)).trans ((ajV273 31 _ rfl).trans ((up2_o hV265 (by decide)).trans ((ajV189 31 _ rfl).trans ((up2_o hV178 (by decide)).trans ((ajV13 31 _ rfl).trans rfl))))))))))
                    have rw380 : RoV 35 bq V V367 := (fun k hk => ((up2_o hV367 (by decide)).trans ((up2_o hV365 (by decide)).trans ((ajV296 35 k rfl).trans ((up2_o hV285 (by decide)).trans ((ajV273 35 k rfl).trans ((up2_o hV265 (by decide)).trans ((ajV189 35 k rfl).trans ((up2_o hV178 (by decide)).trans ((ajV13 35 k rfl).trans rfl))))))))))
                    have rw381 : RoV 37 bq V V367 := (fun k hk => ((up2_o hV367 (by decide)).trans ((up2_o hV365 (by decide)).trans ((ajV296 37 k rfl).trans ((up2_o hV285 (by decide)).trans ((ajV273 37 k rfl).trans ((up2_o hV265 (by decide)).trans ((ajV189 37 k rfl).trans ((up2_o hV178 (by decide)).trans ((ajV13 37 k rfl).trans rfl))))))))))
                    have rw382 : RoL 36 20 bq L L := (fun k hk => rfl)
                    have rw383 : RoL 38 20 bq L L := (fun k hk => rfl)
                    exact W.vret hx hb hr (fun t ht hW => ⟨⟨(V367, L), rfl, ⟨hMV367, agV367, alL, (show (V367 27 gc).toInt = (V 27 gc).toInt + 1 from by rw [← kgc]; omega), (Or.inl ⟨W0 rl370, (nx gs 1), 0, fx276, 0, hr369, rl370, keepS.le (keepS.tr (keepS.rf : keepS gs 0 gs) (keepS.n1 1)) (by decide), fr379, cc375, cc376, cc377, cc378, (fun k hk => ((up2_k hV367 (fun h9 => hk (h9.trans kgc))).trans ((up2_o hV365 (by decide)).trans ((ajV296 27 _ rfl).trans ((up2_o hV285 (by decide)).trans ((ajV273 27 _ rfl).trans ((up2_o hV265 (by decide)).trans ((ajV189 27 _ rfl).trans ((up2_o hV178 (by decide)).trans ((ajV13 27 _ rfl).trans rfl))))))))))⟩), rw380, rw381, rw382, rw383⟩, by rw [ht]; exact hP, va_K.moved hW.alike hK, hD⟩, hS.F ht⟩) hS.2.2 dX12_takeNeed_120
                  · skip
                    have f384 : z292.toInt ≠ 0 := b_neq rfl (by decide) c363
                    exfalso; omega
            · skip
              have hb385 : ∀ k, Rc gT (Crun gs (IneedK :: k)) (Cbad (V273 0 8).toInt) := fun k => Rc.go1 (hr268 k) (nd_b h277)
              have r386 : 0 ≤ ((V273 0 8)).toInt ∧ ((V273 0 8)).toInt ≤ 70000 := hMV273 0 8
              refine va_iast (D := D) (i := z7) (x := z269) hx hb hK hP hD hS 21 20 rfl rfl (i_in (a := z7.toInt) rfl (by omega)) dX12_takeNeed_70 (fun H locs hP hD hS => ?_)
              obtain ⟨V387, hV387⟩ : ∃ z, z = up2 V273 28 (Int32.toNatClampNeg z7) z269 := ⟨_, rfl⟩
              have hP : va_P D vwCl (mw ad kk ks.1 V387 L) H := by rw [hV387]; exact hP
              have hD : va_D A (mw ad kk ks.1 V387 L) := by rw [hV387]; exact hD
              have hMV387 : rgd bM V387 := hMV273.put hV387 (show (-1) ≤ z269.toInt ∧ z269.toInt ≤ 23 from by omega)
              have agV387 : agr [(0, 7), (0, 8)] [27, 28, 29, 30, 31, 35, 36, 37, 38] V V387 := agV273.up hV387 rfl
              refine lv_aload_n hx hb dX12_takeNeed_71 rfl (lv_at hl 1 rfl) ?_
              refine va_get (D := D) (ci := 12) (v := .ref (ad 31)) (C := RX12) (T := TX12) (N := 100) hx hb hg inX12 hown hK hP 0 rfl rfl 31 (by decide) (hg _ w1741) (fun _ h9 => h9) rfl dX12_takeNeed_72 ?_
              refine lv_iload_n hx hb dX12_takeNeed_75 rfl (lv_at hl 0 rfl) ?_
              refine lv_aload_n hx hb dX12_takeNeed_76 rfl (lv_at hl 1 rfl) ?_
              refine va_get (D := D) (ci := 12) (v := .ref (ad 30)) (C := RX12) (T := TX12) (N := 100) hx hb hg inX12 hown hK hP 0 rfl rfl 30 (by decide) (hg _ w1740) (fun _ h9 => h9) rfl dX12_takeNeed_77 ?_
              refine lv_iload_n hx hb dX12_takeNeed_80 rfl (lv_at hl 0 rfl) ?_
              refine va_zald (D := D) (i := z7) hx hb hK hP 23 22 rfl rfl (i_in (a := z7.toInt) rfl (by omega)) dX12_takeNeed_81 ?_
              refine g_top (v := (vp_nar .boolean 0)) ((up2_o hV387 (by decide)).trans ((ajV273 30 (Int32.toNatClampNeg z7) rfl).trans (up2_s hV265))) ?_
              have nr388 : (vp_nar .boolean 0).toInt = 0 := by decide
              refine lv_if_ne (tgt := 108) hx hb dX12_takeNeed_82 (by decide) (fun c389 => ?_) (fun c389 => ?_)
              · skip
                have f390 : ((vp_nar .boolean 0)).toInt ≠ 0 := b_neq rfl (by decide) c389
                exfalso; omega
              · skip
                have f391 : ((vp_nar .boolean 0)).toInt = 0 := b_eq rfl (by decide) c389
                refine lv_aload_n hx hb dX12_takeNeed_85 rfl (lv_at hl 1 rfl) ?_
                refine lv_iconst (v := 5) hx hb dX12_takeNeed_86 (by decide) ?_
                have r392 : Int32.toInt 5 = 5 := by decide
                have pq393 : (V387 0 8).toInt = ((V273 0 8)).toInt := congrArg Int32.toInt (up2_o hV387 (by decide))
                refine gA_int (gA_runV (As := [.int 5]) (rest := [.int z7, .ref (ad 31)]) (ci := 12) (q0 := 0) hx hb hml hown hg hP hD hK hS hA hnw hgk (s_hasWordB l D ks H.size ad kk V387 L 5 hMV387 (by decide) (show 1 ≤ (V387 0 8).toInt from by omega)) w2055 w2057 w90 w172 w2058 rfl rfl hdV_yX12_hasWord ⟨Nat.le_of_ble_eq_true rfl, Nat.le_of_ble_eq_true rfl⟩ rfl hl.1 rfl (Nat.le_of_ble_eq_true rfl) dX12_takeNeed_87 ⟨Nat.le_of_ble_eq_true rfl, Nat.le_of_ble_eq_true rfl⟩) hP hD hK hS hA (fun z394 u395 H locs w396 hP hD hK hS => ?_)
                obtain ⟨V398, L399⟩ := u395
                obtain ⟨hMV398, ajV398, axL399, rgz394, t397⟩ := w396
                have axL399 : L = L399 := Eq.symm axL399
                subst axL399
                have hP : va_P D vwCl (mw ad kk ks.1 V398 L) H := hP
                have hD : va_D A (mw ad kk ks.1 V398 L) := hD
                have hMV398 : rgd bM V398 := hMV398
                have ajV398 : agr [(0, 7)] [] V387 V398 := ajV398
                have agV398 : agr [(0, 7), (0, 8)] [27, 28, 29, 30, 31, 35, 36, 37, 38] V V398 := agV387.tr ajV398 (by decide) (by decide)
                have rgz394 : 0 ≤ z394.toInt ∧ z394.toInt ≤ 0 := rgz394
                have t397 : (V398 0 8).toInt = (V387 0 8).toInt := t397
                have pq400 : (V398 0 8).toInt = ((V273 0 8)).toInt := congrArg Int32.toInt ((ajV398 0 8 rfl).trans (up2_o hV387 (by decide)))
                refine lv_if_eq (tgt := 108) hx hb dX12_takeNeed_90 (by decide) (fun c401 => ?_) (fun c401 => ?_)
                · skip
                  have f402 : z394.toInt = 0 := b_eq rfl (by decide) c401
                  refine lv_iconst (v := (-1)) hx hb dX12_takeNeed_108 (by decide) ?_
                  refine va_iast (D := D) (i := z7) (x := (-1)) hx hb hK hP hD hS 24 23 rfl rfl (i_in (a := z7.toInt) rfl (by omega)) dX12_takeNeed_109 (fun H locs hP hD hS => ?_)
                  obtain ⟨V403, hV403⟩ : ∃ z, z = up2 V398 31 (Int32.toNatClampNeg z7) (-1) := ⟨_, rfl⟩
                  have hP : va_P D vwCl (mw ad kk ks.1 V403 L) H := by rw [hV403]; exact hP
                  have hD : va_D A (mw ad kk ks.1 V403 L) := by rw [hV403]; exact hD
                  have hMV403 : rgd bM V403 := hMV398.put hV403 (i_full _)
                  have agV403 : agr [(0, 7), (0, 8)] [27, 28, 29, 30, 31, 35, 36, 37, 38] V V403 := agV398.up hV403 rfl
                  refine lv_aload_n hx hb dX12_takeNeed_110 rfl (lv_at hl 1 rfl) ?_
                  refine va_get (D := D) (ci := 12) (v := .ref (ad 27)) (C := RX12) (T := TX12) (N := 100) hx hb hg inX12 hown hK hP 0 rfl rfl 27 (by decide) (hg _ w1737) (fun _ h9 => h9) rfl dX12_takeNeed_111 ?_
                  refine lv_iload_n hx hb dX12_takeNeed_114 rfl (lv_at hl 2 rfl) ?_
                  refine lv_dup2_11 hx hb dX12_takeNeed_115 rfl rfl ?_
                  refine va_iald (D := D) (i := p0) hx hb hK hP 20 19 rfl rfl (i_in (a := p0.toInt) rfl (by omega)) dX12_takeNeed_116 ?_
                  refine g_top (v := (V 27 (Int32.toNatClampNeg p0))) ((up2_o hV403 (by decide)).trans ((ajV398 27 (Int32.toNatClampNeg p0) rfl).trans ((up2_o hV387 (by decide)).trans ((ajV273 27 (Int32.toNatClampNeg p0) rfl).trans ((up2_o hV265 (by decide)).trans ((ajV189 27 (Int32.toNatClampNeg p0) rfl).trans ((up2_o hV178 (by decide)).trans (ajV13 27 (Int32.toNatClampNeg p0) rfl)))))))) ?_
                  refine lv_iconst (v := 1) hx hb dX12_takeNeed_117 (by decide) ?_
                  refine lv_iadd hx hb dX12_takeNeed_118 ?_
                  refine lv_topi (fun z404 ez404 => ?_)
                  have hz404 : z404.toInt = ((V 27 (Int32.toNatClampNeg p0))).toInt + 1 := i_add ez404 rfl (by decide) (by omega)
                  refine va_iast (D := D) (i := p0) (x := z404) hx hb hK hP hD hS 20 19 rfl rfl (i_in (a := p0.toInt) rfl (by omega)) dX12_takeNeed_119 (fun H locs hP hD hS => ?_)
                  obtain ⟨V405, hV405⟩ : ∃ z, z = up2 V403 27 (Int32.toNatClampNeg p0) z404 := ⟨_, rfl⟩
                  have hP : va_P D vwCl (mw ad kk ks.1 V405 L) H := by rw [hV405]; exact hP
                  have hD : va_D A (mw ad kk ks.1 V405 L) := by rw [hV405]; exact hD
                  have hMV405 : rgd bM V405 := hMV403.put hV405 (show 0 ≤ z404.toInt ∧ z404.toInt ≤ 8 from by omega)
                  have agV405 : agr [(0, 7), (0, 8)] [27, 28, 29, 30, 31, 35, 36, 37, 38] V V405 := agV403.up hV405 rfl
                  have pq406 : (V405 27 (Int32.toNatClampNeg p0)).toInt = z404.toInt := congrArg Int32.toInt (up2_s hV405)
                  have pq407 : (V405 0 8).toInt = ((V273 0 8)).toInt := congrArg Int32.toInt ((up2_o hV405 (by decide)).trans ((up2_o hV403 (by decide)).trans ((ajV398 0 8 rfl).trans (up2_o hV387 (by decide)))))
                  have rw408 : RoV 35 bq V V405 := (fun k hk => ((up2_o hV405 (by decide)).trans ((up2_o hV403 (by decide)).trans ((ajV398 35 k rfl).trans ((up2_o hV387 (by decide)).trans ((ajV273 35 k rfl).trans ((up2_o hV265 (by decide)).trans ((ajV189 35 k rfl).trans ((up2_o hV178 (by decide)).trans ((ajV13 35 k rfl).trans rfl))))))))))
                  have rw409 : RoV 37 bq V V405 := (fun k hk => ((up2_o hV405 (by decide)).trans ((up2_o hV403 (by decide)).trans ((ajV398 37 k rfl).trans ((up2_o hV387 (by decide)).trans ((ajV273 37 k rfl).trans ((up2_o hV265 (by decide)).trans ((ajV189 37 k rfl).trans ((up2_o hV178 (by decide)).trans ((ajV13 37 k rfl).trans rfl))))))))))
                  have rw410 : RoL 36 20 bq L L := (fun k hk => rfl)
                  have rw411 : RoL 38 20 bq L L := (fun k hk => rfl)
                  exact W.vret hx hb hr (fun t ht hW => ⟨⟨(V405, L), rfl, ⟨hMV405, agV405, alL, (show (V405 27 gc).toInt = (V 27 gc).toInt + 1 from by rw [← kgc]; omega), (Or.inr ⟨(show 1 ≤ (V405 0 8).toInt from by omega), (fun k => by rw [show (V405 0 8).toInt = (V273 0 8).toInt from by omega]; exact hb385 k)⟩), rw408, rw409, rw410, rw411⟩, by rw [ht]; exact hP, va_K.moved hW.alike hK, hD⟩, hS.F ht⟩) hS.2.2 dX12_takeNeed_120
                · skip
                  have f412 : z394.toInt ≠ 0 := b_neq rfl (by decide) c401
                  exfalso; omega
          · skip
            have f413 : z185.toInt ≠ 0 := b_neq rfl (by decide) c263
            exfalso; omega
  · skip
    have f414 : 0 < ((V 0 8)).toInt := b_nle rfl (by decide) c3
    exfalso; omega
abbrev r_s_memberA : Room := { frames := 95, cells := 0, slots := 0, locals := 2864 }
abbrev q_s_memberA (D : va_G) (ks : KS) (ad : Nat → Nat) (kk : Nat → ClassId) (V : Vf) (L : Lf) (p0 : Int32) (bq : Nat) (gn : Nat) (gT : Tk) (gs : St) (gl : List Int64) (gc : Nat) (A : Nat → Prop) : Array Value → State → Outcome → State → Prop := va_Qv (fun (u : Vf × Lf) => rgd bM u.1 ∧ agr [(0, 7), (0, 8), (0, 48), (0, 50)] [27, 28, 29, 30, 31, 32, 33, 34, 35, 36, 37, 38, 45, 46, 47] V u.1 ∧ agL [27, 28, 29, 30, 31, 32, 33, 34, 35, 36, 37, 38, 45, 46, 47] L u.2 ∧ (Imp ((u.1 0 8).toInt = 0) ((u.1 0 48).toInt ≤ 2 * (u.1 0 7).toInt)) ∧ ((u.1 0 48).toInt ≤ 8120) ∧ (RdM gT gs (fun k => Imember :: k) (fun k => Imember :: k) (u.1 0 8).toInt (fun s9 => RelM u.1 u.2 bq gn gT s9 gl ∧ gs.1 0 + 1 ≤ s9.1 0 ∧ OWm u.1 gc s9 ∧ s9.2.1 2 = gs.2.1 2 ∧ s9.2.2.1 = gs.2.2.1 ∧ CNm u.1 bq s9)) ∧ (RoV 35 bq V u.1) ∧ (RoV 37 bq V u.1) ∧ (RoL 36 20 bq L u.2) ∧ (RoL 38 20 bq L u.2)) (fun u t => gq D A (mw ad kk ks.1 u.1 u.2) (mty kk) t) A
set_option maxHeartbeats 4000000 in
set_option maxRecDepth 100000 in
theorem s_memberA (l : Launch) (D : va_G) (ks : KS) (sz : Nat) (ad : Nat → Nat) (kk : Nat → ClassId) (V : Vf) (L : Lf) (p0 : Int32) (bq : Nat) (gn : Nat) (gT : Tk) (gs : St) (gl : List Int64) (gc : Nat) (hMV : rgd bM V) (rg_p0 : 0 ≤ p0.toInt ∧ p0.toInt ≤ 47) (rel : RelM V L bq gn gT gs gl) (pgc : p0.toInt = (gc : Int)) (gc48 : gc < 48) (ow : OWm V gc gs) (kn125 : gT.1 (gs.1 0) ≠ 125) (ic : (V 0 51).toInt = (gc : Int)) (ia : (V 0 52).toInt = 0) (cc : (V 0 48).toInt ≤ 2 * (V 0 7).toInt) (cnm : CNm V bq gs) (gcl : gc + 1 = 24 * bq + (gs.2.1 2).length) (gcb : 24 * bq ≤ gc)  : Met l yX12_member (Cond.code yX12_member cX12_member 3 none :: GW) r_s_memberA (va_Pc [.ref (ad 0), .int p0] (gp D ks (mw ad kk ks.1 V L) (mty kk) sz)) (q_s_memberA D ks ad kk V L p0 bq gn gT gs gl gc (va_A (mw ad kk ks.1 V L) sz)) 0 0 (va_A (mw ad kk ks.1 V L) sz) := by
  refine g_met (q_s_memberA D ks ad kk V L p0 bq gn gT gs gl gc) (by decide) (Nat.le_of_ble_eq_true rfl) ?_
  intro p e s m below meth c A ls H locs hx hb hr hml hown hg hlocks hin hnw hgk hP hK hD hS hA hl
  have hown : s.vm.findClass RX12 = some m.cls := hown
  have hl : lv_has ls 3 [(0, .ref (ad 0)), (1, .int p0)] := hl
  have hP : va_P D vwCl (mw ad kk ks.1 V L) H := hP
  have hD : va_D A (mw ad kk ks.1 V L) := hD
  have hK : va_K D vwCl (mty kk) s := hK
  have agV : agr [(0, 7), (0, 8), (0, 48), (0, 50)] [27, 28, 29, 30, 31, 32, 33, 34, 35, 36, 37, 38, 45, 46, 47] V V := agr.rf
  have alL : agL [27, 28, 29, 30, 31, 32, 33, 34, 35, 36, 37, 38, 45, 46, 47] L L := agL.rf
  have rf_p0 := i_full p0
  have r1 : (-1) ≤ ((V 0 51)).toInt ∧ ((V 0 51)).toInt ≤ 47 := hMV 0 51
  have r2 : 0 ≤ ((V 0 52)).toInt ∧ ((V 0 52)).toInt ≤ 1 := hMV 0 52
  have r3 : 0 ≤ ((V 0 48)).toInt ∧ ((V 0 48)).toInt ≤ 10000 := hMV 0 48
  have rg0 := RelM.rg rel
  have cl0 := RelM.cl rel
  have cq0 := RelM.cq rel
  have kgc : Int32.toNatClampNeg p0 = gc := by have h9 := i_clamp (x := p0) rfl (by omega); omega
  have q27 : (V 27 (Int32.toNatClampNeg p0)).toInt = (V 27 gc).toInt := by rw [kgc]
  have q32 : (V 32 (Int32.toNatClampNeg p0)).toInt = (V 32 gc).toInt := by rw [kgc]
  have q33 : (V 33 (Int32.toNatClampNeg p0)).toInt = (V 33 gc).toInt := by rw [kgc]
  refine lv_aload_n hx hb dX12_member_0 rfl (lv_at hl 0 rfl) ?_
  refine lv_bipush (v := 9) hx hb dX12_member_1 (by decide) ?_
  have r4 : Int32.toInt 9 = 9 := by decide
  refine gA_int (gA_runV (As := [.int 9]) (rest := []) (ci := 12) (q0 := 0) hx hb hml hown hg hP hD hK hS hA hnw hgk (s_isWordA l D ks H.size ad kk V L 9 (bq) (gn) (gT) (gs) (gl) hMV (by decide) rel) w2027 w2029 w83 w172 w2030 rfl rfl hdV_yX12_isWord ⟨Nat.le_of_ble_eq_true rfl, Nat.le_of_ble_eq_true rfl⟩ rfl hl.1 rfl (Nat.le_of_ble_eq_true rfl) dX12_member_3 ⟨Nat.le_of_ble_eq_true rfl, Nat.le_of_ble_eq_true rfl⟩) hP hD hK hS hA (fun z5 u6 H locs w7 hP hD hK hS => ?_)
  obtain ⟨rgz5, t8⟩ := w7
  have rgz5 : 0 ≤ z5.toInt ∧ z5.toInt ≤ 1 := rgz5
  have t8 : (z5.toInt = 1 ∧ (gT).1 ((gs).1 0) = 128 + (Int32.toInt 9)) ∨ (z5.toInt = 0 ∧ (gT).1 ((gs).1 0) ≠ 128 + (Int32.toInt 9)) := t8
  rcases t8 with ⟨q9, h10⟩ | ⟨q9, h10⟩
  · skip
    have kd11 : gT.1 (gs.1 0) = 137 := h10.trans (by decide)
    refine lv_if_eq (tgt := 37) hx hb dX12_member_6 (by decide) (fun c12 => ?_) (fun c12 => ?_)
    · skip
      have f13 : z5.toInt = 0 := b_eq rfl (by decide) c12
      exfalso; omega
    · skip
      have f14 : z5.toInt ≠ 0 := b_neq rfl (by decide) c12
      refine lv_aload_n hx hb dX12_member_9 rfl (lv_at hl 0 rfl) ?_
      refine lv_aload_n hx hb dX12_member_10 rfl (lv_at hl 0 rfl) ?_
      refine va_get (D := D) (ci := 12) (v := .ref (ad 27)) (C := RX12) (T := TX12) (N := 100) hx hb hg inX12 hown hK hP 0 rfl rfl 27 (by decide) (hg _ w1737) (fun _ h9 => h9) rfl dX12_member_11 ?_
      refine lv_iload_n hx hb dX12_member_14 rfl (lv_at hl 1 rfl) ?_
      refine va_iald (D := D) (i := p0) hx hb hK hP 20 19 rfl rfl (i_in (a := p0.toInt) rfl (by omega)) dX12_member_15 ?_
      have r15 : 0 ≤ ((V 27 (Int32.toNatClampNeg p0))).toInt ∧ ((V 27 (Int32.toNatClampNeg p0))).toInt ≤ 8 := hMV 27 (Int32.toNatClampNeg p0)
      refine lv_bipush (v := 8) hx hb dX12_member_16 (by decide) ?_
      refine lv_icmp_ne (tgt := 25) hx hb dX12_member_18 (by decide) (fun c16 => ?_) (fun c16 => ?_)
      · skip
        have f17 : ((V 27 (Int32.toNatClampNeg p0))).toInt ≠ 8 := b_neq rfl (by decide) c16
        refine lv_iconst (v := 0) hx hb dX12_member_25 (by decide) ?_
        have r18 : Int32.toInt 0 = 0 := by decide
        refine gA_void (gA_runV (As := [.int 0]) (rest := []) (ci := 12) (q0 := 0) hx hb hml hown hg hP hD hK hS hA hnw hgk (s_beginsA l D ks H.size ad kk V L 0 (bq) (gn) (gT) (gs) (gl) hMV (by decide) rel (by rw [kd11]; decide)) w2035 w2037 w85 w172 w2038 rfl rfl hdV_yX12_begins ⟨Nat.le_of_ble_eq_true rfl, Nat.le_of_ble_eq_true rfl⟩ rfl hl.1 rfl (Nat.le_of_ble_eq_true rfl) dX12_member_26 ⟨Nat.le_of_ble_eq_true rfl, Nat.le_of_ble_eq_true rfl⟩) hP hD hK hS hA (fun u20 H locs w21 hP hD hK hS => ?_)
        obtain ⟨V23, L24⟩ := u20
        obtain ⟨hMV23, ajV23, axL24, t22⟩ := w21
        have axL24 : L = L24 := Eq.symm axL24
        subst axL24
        have hP : va_P D vwCl (mw ad kk ks.1 V23 L) H := hP
        have hD : va_D A (mw ad kk ks.1 V23 L) := hD
        have hMV23 : rgd bM V23 := hMV23
        have ajV23 : agr [(0, 7), (0, 8)] [] V V23 := ajV23
        have agV23 : agr [(0, 7), (0, 8), (0, 48), (0, 50)] [27, 28, 29, 30, 31, 32, 33, 34, 35, 36, 37, 38, 45, 46, 47] V V23 := agV.tr ajV23 (by decide) (by decide)
        have t22 : ((Int32.toInt 0) = 0 ∧ (V23 0 8).toInt = 0 ∧ RelM V23 L (bq) (gn) (gT) (nx (gs) 1) (gl)) ∨ ((Int32.toInt 0) = 1 ∧ 1 ≤ (V23 0 8).toInt ∧ (V23 0 8).toInt = 5 + 16 * (gT).2.2 ((gs).1 0)) := t22
        rcases t22 with ⟨q25, f26, rl27⟩ | ⟨q25, f26, rl27⟩
        · skip
          have hr28 : ∀ k, Rc gT (Crun gs (Imember :: k)) (Crun gs (Imember :: k)) := fun k => Rc.rf
          have hr29 : ∀ k, Rc gT (Crun gs (Imember :: k)) (Crun (nx gs 1) (IneedK :: k)) := fun k => Rc.go1 (hr28 k) (mb_137 kd11 (by have h9 := ow.1; omega))
          have ps30 : (nx gs 1).1 0 = gs.1 0 + 1 := rfl
          have fz31 := RelM.rg rl27
          have r32 : 0 ≤ ((V23 0 8)).toInt ∧ ((V23 0 8)).toInt ≤ 70000 := hMV23 0 8
          refine lv_aload_n hx hb dX12_member_29 rfl (lv_at hl 0 rfl) ?_
          refine lv_iload_n hx hb dX12_member_30 rfl (lv_at hl 1 rfl) ?_
          have pq33 : (V23 27 gc).toInt = ((V 27 gc)).toInt := congrArg Int32.toInt (ajV23 27 gc rfl)
          have r34 : 0 ≤ ((V 27 gc)).toInt ∧ ((V 27 gc)).toInt ≤ 8 := hMV 27 gc
          refine gA_void (gA_runV (As := [.int p0]) (rest := []) (ci := 12) (q0 := 0) hx hb hml hown hg hP hD hK hS hA hnw hgk (s_takeNeedA l D ks H.size ad kk V23 L p0 (bq) (gn) (gT) ((nx gs 1)) (gl) (gc) hMV23 (by omega) rl27 (show p0.toInt = ((gc) : Int) from by omega) (show (gc) < 48 from by omega) (show (V23 27 (gc)).toInt ≤ 7 from by omega)) w2112 w2114 w104 w172 w2115 rfl rfl hdV_yX12_takeNeed ⟨Nat.le_of_ble_eq_true rfl, Nat.le_of_ble_eq_true rfl⟩ rfl hl.1 rfl (Nat.le_of_ble_eq_true rfl) dX12_member_31 ⟨Nat.le_of_ble_eq_true rfl, Nat.le_of_ble_eq_true rfl⟩) hP hD hK hS hA (fun u36 H locs w37 hP hD hK hS => ?_)
          obtain ⟨V44, L45⟩ := u36
          obtain ⟨hMV44, ajV44, axL45, t38, t39, t40, t41, t42, t43⟩ := w37
          have alL45 : agL [27, 28, 29, 30, 31, 32, 33, 34, 35, 36, 37, 38, 45, 46, 47] L L45 := agL.tr alL axL45 (by decide)
          have hP : va_P D vwCl (mw ad kk ks.1 V44 L45) H := hP
          have hD : va_D A (mw ad kk ks.1 V44 L45) := hD
          have hMV44 : rgd bM V44 := hMV44
          have ajV44 : agr [(0, 7), (0, 8)] [27, 28, 29, 30, 31, 35, 36, 37, 38] V23 V44 := ajV44
          have agV44 : agr [(0, 7), (0, 8), (0, 48), (0, 50)] [27, 28, 29, 30, 31, 32, 33, 34, 35, 36, 37, 38, 45, 46, 47] V V44 := agV23.tr ajV44 (by decide) (by decide)
          have t38 : (V44 27 (gc)).toInt = (V23 27 (gc)).toInt + 1 := t38
          have t39 : RdN (gT) ((nx gs 1)) (V44 0 8).toInt (fun s9 a9 f9 c9 => RelM V44 L45 (bq) (gn) (gT) s9 (gl) ∧ keepS ((nx gs 1)) 1 s9 ∧ NDW (gc) (8 * (gc) + (V23 27 (gc)).toInt.toNat) V23 V44 a9 f9 c9) := t39
          have t40 : RoV 35 (bq) V23 V44 := t40
          have t41 : RoV 37 (bq) V23 V44 := t41
          have t42 : RoL 36 20 (bq) L L45 := t42
          have t43 : RoL 38 20 (bq) L L45 := t43
          rcases t39 with ⟨q46, sx47, na48, nf49, nc50, h51, rl52, kp53, nw54⟩ | ⟨q46, h51⟩
          · skip
            have hr55 : ∀ k, Rc gT (Crun gs (Imember :: k)) (Crun sx47 (Itake 59 :: IaddNeed na48 nf49 nc50 :: Imember :: k)) := fun k => (hr29 k).tr (h51 (k))
            have fz56 := RelM.rg rl52
            have r57 : 0 ≤ ((V44 0 8)).toInt ∧ ((V44 0 8)).toInt ≤ 70000 := hMV44 0 8
            have ps58 := (kp53).1
            refine lv_goto (tgt := 187) hx hb dX12_member_34 (by decide) ?_
            refine lv_aload_n hx hb dX12_member_187 rfl (lv_at hl 0 rfl) ?_
            refine lv_bipush (v := 59) hx hb dX12_member_188 (by decide) ?_
            have r59 : Int32.toInt 59 = 59 := by decide
            refine gA_void (gA_runV (As := [.int 59]) (rest := []) (ci := 12) (q0 := 0) hx hb hml hown hg hP hD hK hS hA hnw hgk (s_takeSignA l D ks H.size ad kk V44 L45 59 (bq) (gn) (gT) (sx47) (gl) hMV44 rl52 (sg_yes (j := 59) (by decide) (by decide) (by decide))) w2079 w2081 w96 w172 w2082 rfl rfl hdV_yX12_takeSign ⟨Nat.le_of_ble_eq_true rfl, Nat.le_of_ble_eq_true rfl⟩ rfl hl.1 rfl (Nat.le_of_ble_eq_true rfl) dX12_member_190 ⟨Nat.le_of_ble_eq_true rfl, Nat.le_of_ble_eq_true rfl⟩) hP hD hK hS hA (fun u61 H locs w62 hP hD hK hS => ?_)
            obtain ⟨V64, L65⟩ := u61
            obtain ⟨hMV64, ajV64, axL65, t63⟩ := w62
            have axL65 : L45 = L65 := Eq.symm axL65
            subst axL65
            have hP : va_P D vwCl (mw ad kk ks.1 V64 L45) H := hP
            have hD : va_D A (mw ad kk ks.1 V64 L45) := hD
            have hMV64 : rgd bM V64 := hMV64
            have ajV64 : agr [(0, 7), (0, 8)] [] V44 V64 := ajV64
            have agV64 : agr [(0, 7), (0, 8), (0, 48), (0, 50)] [27, 28, 29, 30, 31, 32, 33, 34, 35, 36, 37, 38, 45, 46, 47] V V64 := agV44.tr ajV64 (by decide) (by decide)
            have t63 : ((V64 0 8).toInt = 0 ∧ (gT).1 ((sx47).1 0) = (Int32.toInt 59) ∧ RelM V64 L45 (bq) (gn) (gT) (nx (sx47) 1) (gl)) ∨ (1 ≤ (V64 0 8).toInt ∧ (gT).1 ((sx47).1 0) ≠ (Int32.toInt 59) ∧ (V64 0 8).toInt = 1 + 16 * (gT).2.2 ((sx47).1 0)) := t63
            rcases t63 with ⟨q66, h67, rl68⟩ | ⟨q66, h67, rl68⟩
            · skip
              have kd69 : gT.1 (sx47.1 0) = 59 := h67.trans (by decide)
              have hr70 : ∀ k, Rc gT (Crun gs (Imember :: k)) (Crun (nx sx47 1) (IaddNeed na48 nf49 nc50 :: Imember :: k)) := fun k => Rc.go1 (hr55 k) (tk_y kd69)
              have ps71 : (nx sx47 1).1 0 = sx47.1 0 + 1 := rfl
              have fz72 := RelM.rg rl68
              have r73 : 0 ≤ ((V64 0 8)).toInt ∧ ((V64 0 8)).toInt ≤ 70000 := hMV64 0 8
              have rl74 : RelM V64 L45 bq gn gT (ndS (nx sx47 1) na48 nf49 nc50) gl := RelM.nu (show RelM V64 L45 bq gn gT (sN (nx sx47 1) 1 ((nx sx47 1).1 1 + 1)) gl from rl68) (ndS_5 0 (by decide)) rfl
              have hr75 : ∀ k, Rc gT (Crun gs (Imember :: k)) (Crun (ndS (nx sx47 1) na48 nf49 nc50) (Imember :: k)) := fun k => Rc.go1 (hr70 k) (m_addNeed na48 nf49 nc50)
              have ps76 : (ndS (nx sx47 1) na48 nf49 nc50).1 0 = (nx sx47 1).1 0 := ndS_5 0 (by decide)
              have cn77 : CNm V23 bq gs := CNm.ag cnm (show agr [(0, 7), (0, 8)] [] V V23 from (agr.tr agr.rf ajV23 (by decide) (by decide))) (by decide) keepC.rf
              have cn78 : CNm V23 bq (nx sx47 1) := CNm.mv cn77 (fun _ _ _ => rfl) (keepC.tr (keepC.tr (keepC.tr (keepC.rf : keepC gs gs) (keepS.c (keepS.n1 1))) (keepS.c kp53)) (keepS.c (keepS.n1 1)))
              have k19 : (nx sx47 1).1 1 = gs.1 1 := ((keepS.tr (keepS.tr (keepS.tr (keepS.rf : keepS gs 0 gs) (keepS.n1 1)) kp53) (keepS.n1 1))).2.1 1 (by decide)
              have o19 := ow.1
              have p19 : (V23 27 gc).toInt.toNat = (nx sx47 1).1 1 := by omega
              have nw9 := nw54
              rw [p19] at nw9
              have cn79 : CNm V44 bq (ndS (nx sx47 1) na48 nf49 nc50) := CNm.nd2 cn78 (by rw [((keepC.tr (keepC.tr (keepC.tr (keepC.rf : keepC gs gs) (keepS.c (keepS.n1 1))) (keepS.c kp53)) (keepS.c (keepS.n1 1)))).2 2 (by decide)]; exact gcl) gcb (show (V23 27 gc).toInt = (((nx sx47 1).1 1 : Nat) : Int) from by omega) (by omega) ajV44 (by decide) t38 nw9
              have pq80 : (V64 0 48).toInt = ((V 0 48)).toInt := congrArg Int32.toInt ((ajV64 0 48 rfl).trans ((ajV44 0 48 rfl).trans (ajV23 0 48 rfl)))
              have ps81 : gs.1 0 + 1 ≤ (nx gs 1).1 0 := ((keepS.n1 1)).1
              have ps82 : (nx gs 1).1 0 + 1 ≤ sx47.1 0 := (kp53).1
              have ps83 : sx47.1 0 + 1 ≤ (nx sx47 1).1 0 := ((keepS.n1 1)).1
              have ps84 : (ndS (nx sx47 1) na48 nf49 nc50).1 0 = (nx sx47 1).1 0 := ndS_5 0 (by decide)
              have cn85 : CNm V64 bq (ndS (nx sx47 1) na48 nf49 nc50) := CNm.ag cn79 (show agr [(0, 7), (0, 8)] [] V44 V64 from (agr.tr agr.rf ajV64 (by decide) (by decide))) (by decide) keepC.rf
              have rw86 : RoV 35 bq V V64 := (fun k hk => ((ajV64 35 k rfl).trans ((t40 k hk).trans ((ajV23 35 k rfl).trans rfl))))
              have rw87 : RoV 37 bq V V64 := (fun k hk => ((ajV64 37 k rfl).trans ((t41 k hk).trans ((ajV23 37 k rfl).trans rfl))))
              have rw88 : RoL 36 20 bq L L45 := (fun k hk => ((t42 k hk).trans rfl))
              have rw89 : RoL 38 20 bq L L45 := (fun k hk => ((t43 k hk).trans rfl))
              exact W.vret hx hb hr (fun t ht hW => ⟨⟨(V64, L45), rfl, ⟨hMV64, agV64, alL45, (Imp.mk (fun hp => have hp : (V64 0 8).toInt = 0 := hp; (show (V64 0 48).toInt ≤ 2 * (V64 0 7).toInt from by omega))), (show (V64 0 48).toInt ≤ 8120 from by omega), (Or.inl ⟨W0 rl74, (ndS (nx sx47 1) na48 nf49 nc50), hr75, rl74, (by omega), (OWm.nd ow (keepS.tr (keepS.tr (keepS.tr (keepS.rf : keepS gs 0 gs) (keepS.n1 1)) kp53) (keepS.n1 1)) (show (gs.2.1 3).length ≤ ((nx sx47 1).2.1 3).length from by have h9 := Rc.ml (hr75 []); exact h9) (show (V64 27 gc).toInt = (V 27 gc).toInt + 1 from by have h9 := t38; rw [show V23 27 gc = V 27 gc from ((ajV23 27 _ rfl).trans rfl)] at h9; rw [show V64 27 gc = V44 27 gc from ((ajV64 27 _ rfl).trans rfl)]; exact h9) (show V64 32 gc = V 32 gc from ((ajV64 32 _ rfl).trans ((ajV44 32 _ rfl).trans ((ajV23 32 _ rfl).trans rfl)))) (show V64 33 gc = V 33 gc from ((ajV64 33 _ rfl).trans ((ajV44 33 _ rfl).trans ((ajV23 33 _ rfl).trans rfl)))) (fun f hf => ((show agr [(0, 7), (0, 8)] [27, 28, 29, 30, 31, 35, 36, 37, 38] V V64 from (agr.tr (agr.tr (agr.tr agr.rf ajV23 (by decide) (by decide)) ajV44 (by decide) (by decide)) ajV64 (by decide) (by decide))) 34 _ rfl))), ((rfl : (ndS (nx sx47 1) na48 nf49 nc50).2.1 2 = (nx sx47 1).2.1 2).trans ((((keepS.n1 1)).2.2.1 2 (by decide)).trans (((kp53).2.2.1 2 (by decide)).trans ((((keepS.n1 1)).2.2.1 2 (by decide)).trans (rfl : gs.2.1 2 = gs.2.1 2))))), ((rfl : (ndS (nx sx47 1) na48 nf49 nc50).2.2.1 = (nx sx47 1).2.2.1).trans ((congrArg (fun q9 => q9.1) ((keepS.n1 1)).2.2.2).trans ((congrArg (fun q9 => q9.1) (kp53).2.2.2).trans ((congrArg (fun q9 => q9.1) ((keepS.n1 1)).2.2.2).trans (rfl : gs.2.2.1 = gs.2.2.1))))), cn85⟩), rw86, rw87, rw88, rw89⟩, by rw [ht]; exact hP, va_K.moved hW.alike hK, hD⟩, hS.F ht⟩) hS.2.2 dX12_member_193
            · skip
              have kd90 : gT.1 (sx47.1 0) ≠ 59 := fun h9 => h67 (h9.trans (by decide))
              have hb91 : ∀ k, Rc gT (Crun gs (Imember :: k)) (Cbad (V64 0 8).toInt) := fun k => Rc.go1 (hr55 k) ((tk_n kd90).trans (fl_eq rfl rl68))
              have r92 : 0 ≤ ((V64 0 8)).toInt ∧ ((V64 0 8)).toInt ≤ 70000 := hMV64 0 8
              have pq93 : (V64 0 48).toInt = ((V 0 48)).toInt := congrArg Int32.toInt ((ajV64 0 48 rfl).trans ((ajV44 0 48 rfl).trans (ajV23 0 48 rfl)))
              have rw94 : RoV 35 bq V V64 := (fun k hk => ((ajV64 35 k rfl).trans ((t40 k hk).trans ((ajV23 35 k rfl).trans rfl))))
              have rw95 : RoV 37 bq V V64 := (fun k hk => ((ajV64 37 k rfl).trans ((t41 k hk).trans ((ajV23 37 k rfl).trans rfl))))
              have rw96 : RoL 36 20 bq L L45 := (fun k hk => ((t42 k hk).trans rfl))
              have rw97 : RoL 38 20 bq L L45 := (fun k hk => ((t43 k hk).trans rfl))
              exact W.vret hx hb hr (fun t ht hW => ⟨⟨(V64, L45), rfl, ⟨hMV64, agV64, alL45, (Imp.mk (fun hp => have hp : (V64 0 8).toInt = 0 := hp; (show (V64 0 48).toInt ≤ 2 * (V64 0 7).toInt from by omega))), (show (V64 0 48).toInt ≤ 8120 from by omega), (Or.inr ⟨(show 1 ≤ (V64 0 8).toInt from by omega), hb91⟩), rw94, rw95, rw96, rw97⟩, by rw [ht]; exact hP, va_K.moved hW.alike hK, hD⟩, hS.F ht⟩) hS.2.2 dX12_member_193
          · skip
            have hb98 : ∀ k, Rc gT (Crun gs (Imember :: k)) (Cbad (V44 0 8).toInt) := fun k => (hr29 k).tr (h51 (k))
            have r99 : 0 ≤ ((V44 0 8)).toInt ∧ ((V44 0 8)).toInt ≤ 70000 := hMV44 0 8
            refine lv_goto (tgt := 187) hx hb dX12_member_34 (by decide) ?_
            refine lv_aload_n hx hb dX12_member_187 rfl (lv_at hl 0 rfl) ?_
            refine lv_bipush (v := 59) hx hb dX12_member_188 (by decide) ?_
            have r100 : Int32.toInt 59 = 59 := by decide
            refine gA_void (gA_runV (As := [.int 59]) (rest := []) (ci := 12) (q0 := 0) hx hb hml hown hg hP hD hK hS hA hnw hgk (s_takeSignB l D ks H.size ad kk V44 L45 59 hMV44 (show 1 ≤ (V44 0 8).toInt from by omega)) w2079 w2081 w96 w172 w2082 rfl rfl hdV_yX12_takeSign ⟨Nat.le_of_ble_eq_true rfl, Nat.le_of_ble_eq_true rfl⟩ rfl hl.1 rfl (Nat.le_of_ble_eq_true rfl) dX12_member_190 ⟨Nat.le_of_ble_eq_true rfl, Nat.le_of_ble_eq_true rfl⟩) hP hD hK hS hA (fun u102 H locs w103 hP hD hK hS => ?_)
            obtain ⟨V105, L106⟩ := u102
            obtain ⟨hMV105, ajV105, axL106, t104⟩ := w103
            have axL106 : L45 = L106 := Eq.symm axL106
            subst axL106
            have hP : va_P D vwCl (mw ad kk ks.1 V105 L45) H := hP
            have hD : va_D A (mw ad kk ks.1 V105 L45) := hD
            have hMV105 : rgd bM V105 := hMV105
            have ajV105 : agr [(0, 7), (0, 8)] [] V44 V105 := ajV105
            have agV105 : agr [(0, 7), (0, 8), (0, 48), (0, 50)] [27, 28, 29, 30, 31, 32, 33, 34, 35, 36, 37, 38, 45, 46, 47] V V105 := agV44.tr ajV105 (by decide) (by decide)
            have t104 : (V105 0 8).toInt = (V44 0 8).toInt := t104
            have r107 : 0 ≤ ((V105 0 8)).toInt ∧ ((V105 0 8)).toInt ≤ 70000 := hMV105 0 8
            have pq108 : (V105 0 48).toInt = ((V 0 48)).toInt := congrArg Int32.toInt ((ajV105 0 48 rfl).trans ((ajV44 0 48 rfl).trans (ajV23 0 48 rfl)))
            have rw109 : RoV 35 bq V V105 := (fun k hk => ((ajV105 35 k rfl).trans ((t40 k hk).trans ((ajV23 35 k rfl).trans rfl))))
            have rw110 : RoV 37 bq V V105 := (fun k hk => ((ajV105 37 k rfl).trans ((t41 k hk).trans ((ajV23 37 k rfl).trans rfl))))
            have rw111 : RoL 36 20 bq L L45 := (fun k hk => ((t42 k hk).trans rfl))
            have rw112 : RoL 38 20 bq L L45 := (fun k hk => ((t43 k hk).trans rfl))
            exact W.vret hx hb hr (fun t ht hW => ⟨⟨(V105, L45), rfl, ⟨hMV105, agV105, alL45, (Imp.mk (fun hp => have hp : (V105 0 8).toInt = 0 := hp; (show (V105 0 48).toInt ≤ 2 * (V105 0 7).toInt from by omega))), (show (V105 0 48).toInt ≤ 8120 from by omega), (Or.inr ⟨(show 1 ≤ (V105 0 8).toInt from by omega), (fun k => by rw [show (V105 0 8).toInt = (V44 0 8).toInt from by omega]; exact hb98 k)⟩), rw109, rw110, rw111, rw112⟩, by rw [ht]; exact hP, va_K.moved hW.alike hK, hD⟩, hS.F ht⟩) hS.2.2 dX12_member_193
        · skip
          exfalso; omega
      · skip
        have f113 : ((V 27 (Int32.toNatClampNeg p0))).toInt = 8 := b_eq rfl (by decide) c16
        refine lv_iconst (v := 1) hx hb dX12_member_21 (by decide) ?_
        refine lv_goto (tgt := 26) hx hb dX12_member_22 (by decide) ?_
        have r114 : Int32.toInt 1 = 1 := by decide
        refine gA_void (gA_runV (As := [.int 1]) (rest := []) (ci := 12) (q0 := 0) hx hb hml hown hg hP hD hK hS hA hnw hgk (s_beginsA l D ks H.size ad kk V L 1 (bq) (gn) (gT) (gs) (gl) hMV (by decide) rel (by rw [kd11]; decide)) w2035 w2037 w85 w172 w2038 rfl rfl hdV_yX12_begins ⟨Nat.le_of_ble_eq_true rfl, Nat.le_of_ble_eq_true rfl⟩ rfl hl.1 rfl (Nat.le_of_ble_eq_true rfl) dX12_member_26 ⟨Nat.le_of_ble_eq_true rfl, Nat.le_of_ble_eq_true rfl⟩) hP hD hK hS hA (fun u116 H locs w117 hP hD hK hS => ?_)
        obtain ⟨V119, L120⟩ := u116
        obtain ⟨hMV119, ajV119, axL120, t118⟩ := w117
        have axL120 : L = L120 := Eq.symm axL120
        subst axL120
        have hP : va_P D vwCl (mw ad kk ks.1 V119 L) H := hP
        have hD : va_D A (mw ad kk ks.1 V119 L) := hD
        have hMV119 : rgd bM V119 := hMV119
        have ajV119 : agr [(0, 7), (0, 8)] [] V V119 := ajV119
        have agV119 : agr [(0, 7), (0, 8), (0, 48), (0, 50)] [27, 28, 29, 30, 31, 32, 33, 34, 35, 36, 37, 38, 45, 46, 47] V V119 := agV.tr ajV119 (by decide) (by decide)
        have t118 : ((Int32.toInt 1) = 0 ∧ (V119 0 8).toInt = 0 ∧ RelM V119 L (bq) (gn) (gT) (nx (gs) 1) (gl)) ∨ ((Int32.toInt 1) = 1 ∧ 1 ≤ (V119 0 8).toInt ∧ (V119 0 8).toInt = 5 + 16 * (gT).2.2 ((gs).1 0)) := t118
        rcases t118 with ⟨q121, f122, rl123⟩ | ⟨q121, f122, rl123⟩
        · skip
          exfalso; omega
        · skip
          have hr124 : ∀ k, Rc gT (Crun gs (Imember :: k)) (Crun gs (Imember :: k)) := fun k => Rc.rf
          have hb125 : ∀ k, Rc gT (Crun gs (Imember :: k)) (Cbad (V119 0 8).toInt) := fun k => Rc.go1 (hr124 k) ((mb_137f kd11 (by have h9 := ow.1; omega)).trans (fl_eq rfl rl123))
          have r126 : 0 ≤ ((V119 0 8)).toInt ∧ ((V119 0 8)).toInt ≤ 70000 := hMV119 0 8
          refine lv_aload_n hx hb dX12_member_29 rfl (lv_at hl 0 rfl) ?_
          refine lv_iload_n hx hb dX12_member_30 rfl (lv_at hl 1 rfl) ?_
          refine gA_void (gA_runV (As := [.int p0]) (rest := []) (ci := 12) (q0 := 0) hx hb hml hown hg hP hD hK hS hA hnw hgk (s_takeNeedB l D ks H.size ad kk V119 L p0 hMV119 (by omega) (show 1 ≤ (V119 0 8).toInt from by omega)) w2112 w2114 w104 w172 w2115 rfl rfl hdV_yX12_takeNeed ⟨Nat.le_of_ble_eq_true rfl, Nat.le_of_ble_eq_true rfl⟩ rfl hl.1 rfl (Nat.le_of_ble_eq_true rfl) dX12_member_31 ⟨Nat.le_of_ble_eq_true rfl, Nat.le_of_ble_eq_true rfl⟩) hP hD hK hS hA (fun u128 H locs w129 hP hD hK hS => ?_)
          obtain ⟨V135, L136⟩ := u128
          obtain ⟨hMV135, ajV135, axL136, t130, t131, t132, t133, t134⟩ := w129
          have alL136 : agL [27, 28, 29, 30, 31, 32, 33, 34, 35, 36, 37, 38, 45, 46, 47] L L136 := agL.tr alL axL136 (by decide)
          have hP : va_P D vwCl (mw ad kk ks.1 V135 L136) H := hP
          have hD : va_D A (mw ad kk ks.1 V135 L136) := hD
          have hMV135 : rgd bM V135 := hMV135
          have ajV135 : agr [(0, 7), (0, 8)] [27, 28, 29, 30, 31, 35, 36, 37, 38] V119 V135 := ajV135
          have agV135 : agr [(0, 7), (0, 8), (0, 48), (0, 50)] [27, 28, 29, 30, 31, 32, 33, 34, 35, 36, 37, 38, 45, 46, 47] V V135 := agV119.tr ajV135 (by decide) (by decide)
          have t130 : (V135 0 8).toInt = (V119 0 8).toInt := t130
          have t131 : NoV 35 V119 V135 := t131
          have t132 : NoV 37 V119 V135 := t132
          have t133 : NoL 36 L L136 := t133
          have t134 : NoL 38 L L136 := t134
          have r137 : 0 ≤ ((V135 0 8)).toInt ∧ ((V135 0 8)).toInt ≤ 70000 := hMV135 0 8
          refine lv_goto (tgt := 187) hx hb dX12_member_34 (by decide) ?_
          refine lv_aload_n hx hb dX12_member_187 rfl (lv_at hl 0 rfl) ?_
          refine lv_bipush (v := 59) hx hb dX12_member_188 (by decide) ?_
          have r138 : Int32.toInt 59 = 59 := by decide
          refine gA_void (gA_runV (As := [.int 59]) (rest := []) (ci := 12) (q0 := 0) hx hb hml hown hg hP hD hK hS hA hnw hgk (s_takeSignB l D ks H.size ad kk V135 L136 59 hMV135 (show 1 ≤ (V135 0 8).toInt from by omega)) w2079 w2081 w96 w172 w2082 rfl rfl hdV_yX12_takeSign ⟨Nat.le_of_ble_eq_true rfl, Nat.le_of_ble_eq_true rfl⟩ rfl hl.1 rfl (Nat.le_of_ble_eq_true rfl) dX12_member_190 ⟨Nat.le_of_ble_eq_true rfl, Nat.le_of_ble_eq_true rfl⟩) hP hD hK hS hA (fun u140 H locs w141 hP hD hK hS => ?_)
          obtain ⟨V143, L144⟩ := u140
          obtain ⟨hMV143, ajV143, axL144, t142⟩ := w141
          have axL144 : L136 = L144 := Eq.symm axL144
          subst axL144
          have hP : va_P D vwCl (mw ad kk ks.1 V143 L136) H := hP
          have hD : va_D A (mw ad kk ks.1 V143 L136) := hD
          have hMV143 : rgd bM V143 := hMV143
          have ajV143 : agr [(0, 7), (0, 8)] [] V135 V143 := ajV143
          have agV143 : agr [(0, 7), (0, 8), (0, 48), (0, 50)] [27, 28, 29, 30, 31, 32, 33, 34, 35, 36, 37, 38, 45, 46, 47] V V143 := agV135.tr ajV143 (by decide) (by decide)
          have t142 : (V143 0 8).toInt = (V135 0 8).toInt := t142
          have r145 : 0 ≤ ((V143 0 8)).toInt ∧ ((V143 0 8)).toInt ≤ 70000 := hMV143 0 8
          have pq146 : (V143 0 48).toInt = ((V 0 48)).toInt := congrArg Int32.toInt ((ajV143 0 48 rfl).trans ((ajV135 0 48 rfl).trans (ajV119 0 48 rfl)))
          have rw147 : RoV 35 bq V V143 := (fun k hk => ((ajV143 35 k rfl).trans ((t131 k).trans ((ajV119 35 k rfl).trans rfl))))
          have rw148 : RoV 37 bq V V143 := (fun k hk => ((ajV143 37 k rfl).trans ((t132 k).trans ((ajV119 37 k rfl).trans rfl))))
          have rw149 : RoL 36 20 bq L L136 := (fun k hk => ((t133 k).trans rfl))
          have rw150 : RoL 38 20 bq L L136 := (fun k hk => ((t134 k).trans rfl))
          exact W.vret hx hb hr (fun t ht hW => ⟨⟨(V143, L136), rfl, ⟨hMV143, agV143, alL136, (Imp.mk (fun hp => have hp : (V143 0 8).toInt = 0 := hp; (show (V143 0 48).toInt ≤ 2 * (V143 0 7).toInt from by omega))), (show (V143 0 48).toInt ≤ 8120 from by omega), (Or.inr ⟨(show 1 ≤ (V143 0 8).toInt from by omega), (fun k => by rw [show (V143 0 8).toInt = (V119 0 8).toInt from by omega]; exact hb125 k)⟩), rw147, rw148, rw149, rw150⟩, by rw [ht]; exact hP, va_K.moved hW.alike hK, hD⟩, hS.F ht⟩) hS.2.2 dX12_member_193
  · skip
    have kd151 : gT.1 (gs.1 0) ≠ 137 := fun h9 => h10 (h9.trans (by decide))
    refine lv_if_eq (tgt := 37) hx hb dX12_member_6 (by decide) (fun c152 => ?_) (fun c152 => ?_)
    · skip
      have f153 : z5.toInt = 0 := b_eq rfl (by decide) c152
      refine lv_aload_n hx hb dX12_member_37 rfl (lv_at hl 0 rfl) ?_
      refine va_get (D := D) (ci := 12) (v := .ref (ad 32)) (C := RX12) (T := TX12) (N := 100) hx hb hg inX12 hown hK hP 0 rfl rfl 32 (by decide) (hg _ w1742) (fun _ h9 => h9) rfl dX12_member_38 ?_
      refine lv_iload_n hx hb dX12_member_41 rfl (lv_at hl 1 rfl) ?_
      refine va_iald (D := D) (i := p0) hx hb hK hP 25 24 rfl rfl (i_in (a := p0.toInt) rfl (by omega)) dX12_member_42 ?_
      refine lv_if_ge (tgt := 68) hx hb dX12_member_43 (by decide) (fun c154 => ?_) (fun c154 => ?_)
      · skip
        have f155 : 0 ≤ ((V 32 (Int32.toNatClampNeg p0))).toInt := b_le (by decide) rfl c154
        refine lv_aload_n hx hb dX12_member_68 rfl (lv_at hl 0 rfl) ?_
        refine va_get (D := D) (ci := 12) (v := .ref (ad 33)) (C := RX12) (T := TX12) (N := 100) hx hb hg inX12 hown hK hP 0 rfl rfl 33 (by decide) (hg _ w1743) (fun _ h9 => h9) rfl dX12_member_69 ?_
        refine lv_iload_n hx hb dX12_member_72 rfl (lv_at hl 1 rfl) ?_
        refine va_iald (D := D) (i := p0) hx hb hK hP 26 25 rfl rfl (i_in (a := p0.toInt) rfl (by omega)) dX12_member_73 ?_
        refine lv_if_ge (tgt := 99) hx hb dX12_member_74 (by decide) (fun c156 => ?_) (fun c156 => ?_)
        · skip
          have f157 : 0 ≤ ((V 33 (Int32.toNatClampNeg p0))).toInt := b_le (by decide) rfl c156
          refine lv_aload_n hx hb dX12_member_99 rfl (lv_at hl 0 rfl) ?_
          refine lv_bipush (v := 14) hx hb dX12_member_100 (by decide) ?_
          have r158 : Int32.toInt 14 = 14 := by decide
          refine gA_int (gA_runV (As := [.int 14]) (rest := []) (ci := 12) (q0 := 0) hx hb hml hown hg hP hD hK hS hA hnw hgk (s_hasWordA l D ks H.size ad kk V L 14 (bq) (gn) (gT) (gs) (gl) hMV (by decide) rel) w2055 w2057 w90 w172 w2058 rfl rfl hdV_yX12_hasWord ⟨Nat.le_of_ble_eq_true rfl, Nat.le_of_ble_eq_true rfl⟩ rfl hl.1 rfl (Nat.le_of_ble_eq_true rfl) dX12_member_102 ⟨Nat.le_of_ble_eq_true rfl, Nat.le_of_ble_eq_true rfl⟩) hP hD hK hS hA (fun z159 u160 H locs w161 hP hD hK hS => ?_)
          obtain ⟨V163, L164⟩ := u160
          obtain ⟨hMV163, ajV163, axL164, rgz159, t162⟩ := w161
          have axL164 : L = L164 := Eq.symm axL164
          subst axL164
          have hP : va_P D vwCl (mw ad kk ks.1 V163 L) H := hP
          have hD : va_D A (mw ad kk ks.1 V163 L) := hD
          have hMV163 : rgd bM V163 := hMV163
          have ajV163 : agr [(0, 7)] [] V V163 := ajV163
          have agV163 : agr [(0, 7), (0, 8), (0, 48), (0, 50)] [27, 28, 29, 30, 31, 32, 33, 34, 35, 36, 37, 38, 45, 46, 47] V V163 := agV.tr ajV163 (by decide) (by decide)
          have rgz159 : 0 ≤ z159.toInt ∧ z159.toInt ≤ 1 := rgz159
          have t162 : (z159.toInt = 1 ∧ (gT).1 ((gs).1 0) = 128 + (Int32.toInt 14) ∧ RelM V163 L (bq) (gn) (gT) (nx (gs) 1) (gl)) ∨ (z159.toInt = 0 ∧ (gT).1 ((gs).1 0) ≠ 128 + (Int32.toInt 14) ∧ RelM V163 L (bq) (gn) (gT) (gs) (gl)) := t162
          rcases t162 with ⟨q165, h166, rl167⟩ | ⟨q165, h166, rl167⟩
          · skip
            have kd168 : gT.1 (gs.1 0) = 142 := h166.trans (by decide)
            have hr169 : ∀ k, Rc gT (Crun gs (Imember :: k)) (Crun gs (Imember :: k)) := fun k => Rc.rf
            have hr170 : ∀ k, Rc gT (Crun gs (Imember :: k)) (Crun (nx gs 1) (ImethN :: Iexpr 0 :: Itake 59 :: Imember :: k)) := fun k => Rc.go1 (hr169 k) (mb_142 kd168)
            have ps171 : (nx gs 1).1 0 = gs.1 0 + 1 := rfl
            have fz172 := RelM.rg rl167
            have pq173 : (V163 0 8).toInt = ((V 0 8)).toInt := congrArg Int32.toInt (ajV163 0 8 rfl)
            have r174 : 0 ≤ ((V 0 8)).toInt ∧ ((V 0 8)).toInt ≤ 70000 := hMV 0 8
            refine lv_if_eq (tgt := 182) hx hb dX12_member_105 (by decide) (fun c175 => ?_) (fun c175 => ?_)
            · skip
              have f176 : z159.toInt = 0 := b_eq rfl (by decide) c175
              exfalso; omega
            · skip
              have f177 : z159.toInt ≠ 0 := b_neq rfl (by decide) c175
              refine lv_aload_n hx hb dX12_member_108 rfl (lv_at hl 0 rfl) ?_
              refine lv_aload_n hx hb dX12_member_109 rfl (lv_at hl 0 rfl) ?_
              refine va_get (D := D) (ci := 12) (v := .ref (ad 36)) (C := RX12) (T := TX12) (N := 100) hx hb hg inX12 hown hK hP 0 rfl rfl 36 (by decide) (hg _ w1746) (fun _ h9 => h9) rfl dX12_member_110 ?_
              refine lv_aload_n hx hb dX12_member_113 rfl (lv_at hl 0 rfl) ?_
              refine va_get (D := D) (ci := 12) (v := .ref (ad 35)) (C := RX12) (T := TX12) (N := 100) hx hb hg inX12 hown hK hP 0 rfl rfl 35 (by decide) (hg _ w1745) (fun _ h9 => h9) rfl dX12_member_114 ?_
              refine gA_int (gA_runV (As := [.ref (ad 36), .ref (ad 35)]) (rest := []) (ci := 12) (q0 := 0) hx hb hml hown hg hP hD hK hS hA hnw hgk (s_takeWordOf3 l D ks H.size ad kk V163 L (bq) (gn) (gT) ((nx gs 1)) (gl) hMV163 rl167) w2104 w2106 w102 w172 w2107 rfl rfl hdV_yX12_takeWordOf ⟨Nat.le_of_ble_eq_true rfl, Nat.le_of_ble_eq_true rfl⟩ rfl hl.1 rfl (Nat.le_of_ble_eq_true rfl) dX12_member_117 ⟨Nat.le_of_ble_eq_true rfl, Nat.le_of_ble_eq_true rfl⟩) hP hD hK hS hA (fun z178 u179 H locs w180 hP hD hK hS => ?_)
              obtain ⟨V186, L187⟩ := u179
              obtain ⟨hMV186, ajV186, axL187, rgz178, t181, t182, t183, t184, t185⟩ := w180
              have alL187 : agL [27, 28, 29, 30, 31, 32, 33, 34, 35, 36, 37, 38, 45, 46, 47] L L187 := agL.tr alL axL187 (by decide)
              have hP : va_P D vwCl (mw ad kk ks.1 V186 L187) H := hP
              have hD : va_D A (mw ad kk ks.1 V186 L187) := hD
              have hMV186 : rgd bM V186 := hMV186
              have ajV186 : agr [(0, 7), (0, 8)] [35, 36, 37, 38] V163 V186 := ajV186
              have agV186 : agr [(0, 7), (0, 8), (0, 48), (0, 50)] [27, 28, 29, 30, 31, 32, 33, 34, 35, 36, 37, 38, 45, 46, 47] V V186 := agV163.tr ajV186 (by decide) (by decide)
              have rgz178 : (-1) ≤ z178.toInt ∧ z178.toInt ≤ 19 := rgz178
              have t181 : KmS (mthW (gT) ((nx gs 1)) 3) (V186 0 8).toInt (fun x9 => RelM V186 L187 (bq) (gn) (gT) x9.2 (gl) ∧ z178.toInt = ((x9.1 : Nat) : Int) ∧ x9.1 < 20 ∧ keepS ((nx gs 1)) 1 x9.2 ∧ MTX (gT) ((nx gs 1)) 3 x9) := t181
              have t182 : RoV 35 (bq) V163 V186 := t182
              have t183 : RoV 37 (bq) V163 V186 := t183
              have t184 : RoL 36 20 (bq) L L187 := t184
              have t185 : RoL 38 20 (bq) L L187 := t185
              rcases t181 with ⟨q188, mx189, h190, rl191, hf192, hb193, kp194, mt195⟩ | ⟨q188, h190⟩
              · skip
                have ps196 := kp194.1
                have fz197 := RelM.rg rl191
                have r198 : 0 ≤ ((V186 0 8)).toInt ∧ ((V186 0 8)).toInt ≤ 70000 := hMV186 0 8
                refine lv_istore_n (lv' := [(2, .int z178), (0, .ref (ad 0)), (1, .int p0)]) hx hb dX12_member_120 rfl hl (by decide) rfl (fun ls hl => ?_)
                refine lv_aload_n hx hb dX12_member_121 rfl (lv_at hl 1 rfl) ?_
                refine va_get (D := D) (ci := 12) (v := .int (V186 0 8)) (C := RX12) (T := TX12) (N := 100) hx hb hg inX12 hown hK hP 0 rfl rfl 8 (by decide) (hg _ w1718) (fun _ h9 => h9) rfl dX12_member_122 ?_
                refine lv_if_ne (tgt := 157) hx hb dX12_member_125 (by decide) (fun c199 => ?_) (fun c199 => ?_)
                · skip
                  have f200 : ((V186 0 8)).toInt ≠ 0 := b_neq rfl (by decide) c199
                  exfalso; omega
                · skip
                  have f201 : ((V186 0 8)).toInt = 0 := b_eq rfl (by decide) c199
                  refine lv_aload_n hx hb dX12_member_128 rfl (lv_at hl 1 rfl) ?_
                  refine va_get (D := D) (ci := 12) (v := .ref (ad 34)) (C := RX12) (T := TX12) (N := 100) hx hb hg inX12 hown hK hP 0 rfl rfl 34 (by decide) (hg _ w1744) (fun _ h9 => h9) rfl dX12_member_129 ?_
                  refine lv_bipush (v := 20) hx hb dX12_member_132 (by decide) ?_
                  refine lv_iload_n hx hb dX12_member_134 rfl (lv_at hl 2 rfl) ?_
                  refine lv_imul hx hb dX12_member_135 ?_
                  refine lv_topi (fun z202 ez202 => ?_)
                  have hz202 : z202.toInt = 20 * p0.toInt := i_mul ez202 (by decide) rfl (by omega)
                  refine lv_iload_n hx hb dX12_member_136 rfl (lv_at hl 0 rfl) ?_
                  refine lv_iadd hx hb dX12_member_137 ?_
                  refine lv_topi (fun z203 ez203 => ?_)
                  have hz203 : z203.toInt = z202.toInt + z178.toInt := i_add ez203 rfl rfl (by omega)
                  refine va_iald (D := D) (i := z203) hx hb hK hP 27 26 rfl rfl (i_in (a := z203.toInt) rfl (by omega)) dX12_member_138 ?_
                  refine g_top (v := (V 34 (Int32.toNatClampNeg z203))) ((ajV186 34 (Int32.toNatClampNeg z203) rfl).trans (ajV163 34 (Int32.toNatClampNeg z203) rfl)) ?_
                  have kc205 : Int32.toNatClampNeg z203 = 20 * gc + mx189.1 := by have h9 := i_clamp (x := z203) rfl (by omega); omega
                  have ma204 : (V 34 (Int32.toNatClampNeg z203)).toInt = (V 34 (20 * gc + mx189.1)).toInt := by rw [kc205]
                  have ow5 := ow.2.2.2.2.1 mx189.1 hb193
                  have oS : (nx gs 1).2.2.2 = gs.2.2.2 := congrArg (fun q9 => q9.2) ((keepS.tr (keepS.rf : keepS gs 0 gs) (keepS.n1 1))).2.2.2
                  have oL : (nx gs 1).2.1 3 = gs.2.1 3 := rfl
                  refine lv_if_lt (tgt := 157) hx hb dX12_member_139 (by decide) (fun c206 => ?_) (fun c206 => ?_)
                  · skip
                    have f207 : ((V 34 (Int32.toNatClampNeg z203))).toInt < 0 := b_lt rfl (by decide) c206
                    refine lv_aload_n hx hb dX12_member_157 rfl (lv_at hl 1 rfl) ?_
                    refine va_get (D := D) (ci := 12) (v := .int (V186 0 8)) (C := RX12) (T := TX12) (N := 100) hx hb hg inX12 hown hK hP 0 rfl rfl 8 (by decide) (hg _ w1718) (fun _ h9 => h9) rfl dX12_member_158 ?_
                    refine lv_if_ne (tgt := 179) hx hb dX12_member_161 (by decide) (fun c208 => ?_) (fun c208 => ?_)
                    · skip
                      have f209 : ((V186 0 8)).toInt ≠ 0 := b_neq rfl (by decide) c208
                      exfalso; omega
                    · skip
                      have f210 : ((V186 0 8)).toInt = 0 := b_eq rfl (by decide) c208
                      have nt9 : mx189.1 ∉ (nx gs 1).2.2.2 := by rw [oS]; exact fun q9 => absurd (ow5.mpr q9) (by omega)
                      have hr211 : ∀ k, Rc gT (Crun gs (Imember :: k)) (Crun (sT mx189.2 (mx189.1 :: (nx gs 1).2.2.2)) (Iexpr 0 :: Itake 59 :: Imember :: k)) := fun k => Rc.go1 (hr170 k) (mn_y (MTX.new mt195 h190 nt9))
                      have ps212 : (sT mx189.2 (mx189.1 :: (nx gs 1).2.2.2)).1 0 = mx189.2.1 0 := rfl
                      have rl213 : RelM V186 L187 bq gn gT (sT mx189.2 (mx189.1 :: (nx gs 1).2.2.2)) gl := RelM.tl rl191
                      refine lv_aload_n hx hb dX12_member_164 rfl (lv_at hl 1 rfl) ?_
                      refine va_get (D := D) (ci := 12) (v := .ref (ad 34)) (C := RX12) (T := TX12) (N := 100) hx hb hg inX12 hown hK hP 0 rfl rfl 34 (by decide) (hg _ w1744) (fun _ h9 => h9) rfl dX12_member_165 ?_
                      refine lv_bipush (v := 20) hx hb dX12_member_168 (by decide) ?_
                      refine lv_iload_n hx hb dX12_member_170 rfl (lv_at hl 2 rfl) ?_
                      refine lv_imul hx hb dX12_member_171 ?_
                      refine lv_topi (fun z214 ez214 => ?_)
                      have hz214 : z214.toInt = 20 * p0.toInt := i_mul ez214 (by decide) rfl (by omega)
                      refine lv_iload_n hx hb dX12_member_172 rfl (lv_at hl 0 rfl) ?_
                      refine lv_iadd hx hb dX12_member_173 ?_
                      refine lv_topi (fun z215 ez215 => ?_)
                      have hz215 : z215.toInt = z214.toInt + z178.toInt := i_add ez215 rfl rfl (by omega)
                      refine lv_aload_n hx hb dX12_member_174 rfl (lv_at hl 1 rfl) ?_
                      have pq216 : (V186 0 48).toInt = ((V 0 48)).toInt := congrArg Int32.toInt ((ajV186 0 48 rfl).trans (ajV163 0 48 rfl))
                      have pq217 : (V186 0 51).toInt = ((V 0 51)).toInt := congrArg Int32.toInt ((ajV186 0 51 rfl).trans (ajV163 0 51 rfl))
                      have pq218 : (V186 0 52).toInt = ((V 0 52)).toInt := congrArg Int32.toInt ((ajV186 0 52 rfl).trans (ajV163 0 52 rfl))
                      refine gA_int (gA_runV (As := []) (rest := [.int z215, .ref (ad 34)]) (ci := 12) (q0 := 0) hx hb hml hown hg hP hD hK hS hA hnw hgk (s_codeA l D ks H.size ad kk V186 L187 (bq) (gn) (gT) ((sT mx189.2 (mx189.1 :: (nx gs 1).2.2.2))) (gl) hMV186 rl213 (show (V186 0 48).toInt ≤ 2 * (V186 0 7).toInt from by omega) (EM.o2 (o := gc) (show (V186 27 gc).toInt = ((mx189.2.1 1 : Nat) : Int) from by rw [(by rw [(funext (fun q => ajV186 27 q rfl) : V186 27 = V163 27), (funext (fun q => ajV163 27 q rfl) : V163 27 = V 27)] : V186 27 = V 27)]; exact (by rw [((keepS.tr (keepS.tr (keepS.rf : keepS gs 0 gs) (keepS.n1 1)) kp194)).2.1 1 (by decide)]; exact ow.1)) (show mx189.2.1 4 = 0 from (by rw [((keepS.tr (keepS.tr (keepS.rf : keepS gs 0 gs) (keepS.n1 1)) kp194)).2.1 4 (by decide)]; exact ow.2.2.2.1)) (by omega) (by omega))) w2116 w2118 w105 w172 w2119 rfl rfl hdV_yX12_code ⟨Nat.le_of_ble_eq_true rfl, Nat.le_of_ble_eq_true rfl⟩ rfl hl.1 rfl (Nat.le_of_ble_eq_true rfl) dX12_member_175 ⟨Nat.le_of_ble_eq_true rfl, Nat.le_of_ble_eq_true rfl⟩) hP hD hK hS hA (fun z219 u220 H locs w221 hP hD hK hS => ?_)
                      obtain ⟨V231, L232⟩ := u220
                      obtain ⟨hMV231, ajV231, axL232, rgz219, t222, t223, t224, t225, t226, t227, t228, t229, t230⟩ := w221
                      have alL232 : agL [27, 28, 29, 30, 31, 32, 33, 34, 35, 36, 37, 38, 45, 46, 47] L L232 := agL.tr alL187 axL232 (by decide)
                      have hP : va_P D vwCl (mw ad kk ks.1 V231 L232) H := hP
                      have hD : va_D A (mw ad kk ks.1 V231 L232) := hD
                      have hMV231 : rgd bM V231 := hMV231
                      have ajV231 : agr [(0, 7), (0, 8), (0, 48), (0, 50)] [35, 36, 37, 38, 45, 46, 47] V186 V231 := ajV231
                      have agV231 : agr [(0, 7), (0, 8), (0, 48), (0, 50)] [27, 28, 29, 30, 31, 32, 33, 34, 35, 36, 37, 38, 45, 46, 47] V V231 := agV186.tr ajV231 (by decide) (by decide)
                      have rgz219 : 0 ≤ z219.toInt ∧ z219.toInt ≤ 20000 := rgz219
                      have t222 : Imp ((V231 0 8).toInt = 0) ((V231 0 48).toInt - (V186 0 48).toInt ≤ 2 * ((V231 0 7).toInt - (V186 0 7).toInt) + 1) := t222
                      have t223 : (V231 0 48).toInt ≤ 8060 := t223
                      have t224 : (V186 0 48).toInt ≤ (V231 0 48).toInt := t224
                      have t225 : z219.toInt = (V186 0 49).toInt + (V186 0 48).toInt := t225
                      have t226 : RdM (gT) ((sT mx189.2 (mx189.1 :: (nx gs 1).2.2.2))) (fun k => Iexpr 0 :: k) (fun k => k) (V231 0 8).toInt (fun s9 => RelM V231 L232 (bq) (gn) (gT) s9 (gl) ∧ keepS ((sT mx189.2 (mx189.1 :: (nx gs 1).2.2.2))) 1 s9) := t226
                      have t227 : RoV 35 (bq) V186 V231 := t227
                      have t228 : RoV 37 (bq) V186 V231 := t228
                      have t229 : RoL 36 20 (bq) L187 L232 := t229
                      have t230 : RoL 38 20 (bq) L187 L232 := t230
                      have r233 : 0 ≤ ((V231 0 48)).toInt ∧ ((V231 0 48)).toInt ≤ 10000 := hMV231 0 48
                      have r234 : 0 ≤ ((V231 0 8)).toInt ∧ ((V231 0 8)).toInt ≤ 70000 := hMV231 0 8
                      have pq235 : (V186 0 49).toInt = ((V 0 49)).toInt := congrArg Int32.toInt ((ajV186 0 49 rfl).trans (ajV163 0 49 rfl))
                      have r236 : 0 ≤ ((V 0 49)).toInt ∧ ((V 0 49)).toInt ≤ 10000 := hMV 0 49
                      rcases t226 with ⟨q237, sx238, h239, rl240, kp241⟩ | ⟨q237, h239⟩
                      · skip
                        have hr242 : ∀ k, Rc gT (Crun gs (Imember :: k)) (Crun sx238 (Itake 59 :: Imember :: k)) := fun k => (hr211 k).tr (h239 (Itake 59 :: Imember :: k))
                        have fz243 := RelM.rg rl240
                        have ps244 := (kp241).1
                        refine va_iast (D := D) (i := z215) (x := z219) hx hb hK hP hD hS 27 26 rfl rfl (i_in (a := z215.toInt) rfl (by first | omega | ((try (have i_t222 := Imp.go t222 (by omega))); omega))) dX12_member_178 (fun H locs hP hD hS => ?_)
                        obtain ⟨V245, hV245⟩ : ∃ z, z = up2 V231 34 (Int32.toNatClampNeg z215) z219 := ⟨_, rfl⟩
                        have hP : va_P D vwCl (mw ad kk ks.1 V245 L232) H := by rw [hV245]; exact hP
                        have hD : va_D A (mw ad kk ks.1 V245 L232) := by rw [hV245]; exact hD
                        have hMV245 : rgd bM V245 := hMV231.put hV245 (i_full _)
                        have agV245 : agr [(0, 7), (0, 8), (0, 48), (0, 50)] [27, 28, 29, 30, 31, 32, 33, 34, 35, 36, 37, 38, 45, 46, 47] V V245 := agV231.up hV245 rfl
                        refine lv_goto (tgt := 187) hx hb dX12_member_179 (by decide) ?_
                        refine lv_aload_n hx hb dX12_member_187 rfl (lv_at hl 1 rfl) ?_
                        refine lv_bipush (v := 59) hx hb dX12_member_188 (by decide) ?_
                        have rl246 : RelM V245 L232 bq gn gT sx238 gl := RelM.ag rl240 (show agr [] [34] V231 V245 from (agr.up agr.rf hV245 rfl)) (by decide) (show agL [] L232 L232 from agL.rf) (by decide)
                        have r247 : Int32.toInt 59 = 59 := by decide
                        refine gA_void (gA_runV (As := [.int 59]) (rest := []) (ci := 12) (q0 := 0) hx hb hml hown hg hP hD hK hS hA hnw hgk (s_takeSignA l D ks H.size ad kk V245 L232 59 (bq) (gn) (gT) (sx238) (gl) hMV245 rl246 (sg_yes (j := 59) (by decide) (by decide) (by decide))) w2079 w2081 w96 w172 w2082 rfl rfl hdV_yX12_takeSign ⟨Nat.le_of_ble_eq_true rfl, Nat.le_of_ble_eq_true rfl⟩ rfl hl.1 rfl (Nat.le_of_ble_eq_true rfl) dX12_member_190 ⟨Nat.le_of_ble_eq_true rfl, Nat.le_of_ble_eq_true rfl⟩) hP hD hK hS hA (fun u249 H locs w250 hP hD hK hS => ?_)
                        obtain ⟨V252, L253⟩ := u249
                        obtain ⟨hMV252, ajV252, axL253, t251⟩ := w250
                        have axL253 : L232 = L253 := Eq.symm axL253
                        subst axL253
                        have hP : va_P D vwCl (mw ad kk ks.1 V252 L232) H := hP
                        have hD : va_D A (mw ad kk ks.1 V252 L232) := hD
                        have hMV252 : rgd bM V252 := hMV252
                        have ajV252 : agr [(0, 7), (0, 8)] [] V245 V252 := ajV252
                        have agV252 : agr [(0, 7), (0, 8), (0, 48), (0, 50)] [27, 28, 29, 30, 31, 32, 33, 34, 35, 36, 37, 38, 45, 46, 47] V V252 := agV245.tr ajV252 (by decide) (by decide)
                        have t251 : ((V252 0 8).toInt = 0 ∧ (gT).1 ((sx238).1 0) = (Int32.toInt 59) ∧ RelM V252 L232 (bq) (gn) (gT) (nx (sx238) 1) (gl)) ∨ (1 ≤ (V252 0 8).toInt ∧ (gT).1 ((sx238).1 0) ≠ (Int32.toInt 59) ∧ (V252 0 8).toInt = 1 + 16 * (gT).2.2 ((sx238).1 0)) := t251
                        rcases t251 with ⟨q254, h255, rl256⟩ | ⟨q254, h255, rl256⟩
                        · skip
                          have kd257 : gT.1 (sx238.1 0) = 59 := h255.trans (by decide)
                          have hr258 : ∀ k, Rc gT (Crun gs (Imember :: k)) (Crun (nx sx238 1) (Imember :: k)) := fun k => Rc.go1 (hr242 k) (tk_y kd257)
                          have ps259 : (nx sx238 1).1 0 = sx238.1 0 + 1 := rfl
                          have fz260 := RelM.rg rl256
                          have r261 : 0 ≤ ((V252 0 8)).toInt ∧ ((V252 0 8)).toInt ≤ 70000 := hMV252 0 8
                          have pq262 : (V252 0 48).toInt = ((V231 0 48)).toInt := congrArg Int32.toInt ((ajV252 0 48 rfl).trans (up2_o hV245 (by decide)))
                          have ps263 : gs.1 0 + 1 ≤ (nx gs 1).1 0 := ((keepS.n1 1)).1
                          have ps264 : (nx gs 1).1 0 + 1 ≤ mx189.2.1 0 := (kp194).1
                          have ps265 : (sT mx189.2 (mx189.1 :: (nx gs 1).2.2.2)).1 0 = mx189.2.1 0 := rfl
                          have ps266 : (sT mx189.2 (mx189.1 :: (nx gs 1).2.2.2)).1 0 + 1 ≤ sx238.1 0 := (kp241).1
                          have ps267 : sx238.1 0 + 1 ≤ (nx sx238 1).1 0 := ((keepS.n1 1)).1
                          have k34 : (Int32.toNatClampNeg z215) = 20 * gc + mx189.1 := by have h9 := i_clamp (x := z215) rfl (by omega); omega
                          have cs268 : 0 ≤ (V252 34 (20 * gc + mx189.1)).toInt := by have h9 : V252 34 (Int32.toNatClampNeg z215) = z219 := ((ajV252 34 (Int32.toNatClampNeg z215) rfl).trans (up2_s hV245)); rw [k34] at h9; rw [h9]; omega
                          have cn269 : CNm V252 bq gs := CNm.ag cnm (show agr [(0, 7), (0, 8), (0, 48), (0, 50)] [34, 35, 36, 37, 38, 45, 46, 47] V V252 from (agr.tr (agr.up (agr.tr (agr.tr (agr.tr agr.rf ajV163 (by decide) (by decide)) ajV186 (by decide) (by decide)) ajV231 (by decide) (by decide)) hV245 rfl) ajV252 (by decide) (by decide))) (by decide) keepC.rf
                          have cn270 : CNm V252 bq (nx sx238 1) := CNm.mv cn269 (fun _ _ _ => rfl) (keepC.tr (keepC.tr (keepC.tr (keepC.tr (keepC.tr (keepC.rf : keepC gs gs) (keepS.c (keepS.n1 1))) (keepS.c kp194)) (keepC.st : keepC mx189.2 (sT mx189.2 (mx189.1 :: (nx gs 1).2.2.2)))) (keepS.c kp241)) (keepS.c (keepS.n1 1)))
                          have rw271 : RoV 35 bq V V252 := (fun k hk => ((ajV252 35 k rfl).trans ((up2_o hV245 (by decide)).trans ((t227 k hk).trans ((t182 k hk).trans ((ajV163 35 k rfl).trans rfl))))))
                          have rw272 : RoV 37 bq V V252 := (fun k hk => ((ajV252 37 k rfl).trans ((up2_o hV245 (by decide)).trans ((t228 k hk).trans ((t183 k hk).trans ((ajV163 37 k rfl).trans rfl))))))
                          have rw273 : RoL 36 20 bq L L232 := (fun k hk => ((t229 k hk).trans ((t184 k hk).trans rfl)))
                          have rw274 : RoL 38 20 bq L L232 := (fun k hk => ((t230 k hk).trans ((t185 k hk).trans rfl)))
                          exact W.vret hx hb hr (fun t ht hW => ⟨⟨(V252, L232), rfl, ⟨hMV252, agV252, alL232, (Imp.mk (fun hp => have hp : (V252 0 8).toInt = 0 := hp; (show (V252 0 48).toInt ≤ 2 * (V252 0 7).toInt from by first | omega | ((try (have i_t222 := Imp.go t222 (by omega))); omega)))), (show (V252 0 48).toInt ≤ 8120 from by first | omega | ((try (have i_t222 := Imp.go t222 (by omega))); omega)), (Or.inl ⟨W0 rl256, (nx sx238 1), hr258, rl256, (by omega), (OWm.mt (m := 1) ow (keepS.le (keepS.tr (keepS.rf : keepS gs 0 gs) (keepS.n1 1)) (by decide)) (Nat.le_refl _) kp194 (MTX.le mt195).1 (MTX.le mt195).2 (keepS.le (keepS.tr (keepS.tr (keepS.rf : keepS (sT mx189.2 (mx189.1 :: (nx gs 1).2.2.2)) 0 (sT mx189.2 (mx189.1 :: (nx gs 1).2.2.2))) kp241) (keepS.n1 1)) (by decide)) (show (mx189.2.2.1 3).length ≤ ((nx sx238 1).2.1 3).length from by have h9 := Rc.ml (h239 []); exact h9) (show V252 27 gc = V 27 gc from ((ajV252 27 _ rfl).trans ((up2_o hV245 (by decide)).trans ((ajV231 27 _ rfl).trans ((ajV186 27 _ rfl).trans ((ajV163 27 _ rfl).trans rfl)))))) (show V252 32 gc = V 32 gc from ((ajV252 32 _ rfl).trans ((up2_o hV245 (by decide)).trans ((ajV231 32 _ rfl).trans ((ajV186 32 _ rfl).trans ((ajV163 32 _ rfl).trans rfl)))))) (show V252 33 gc = V 33 gc from ((ajV252 33 _ rfl).trans ((up2_o hV245 (by decide)).trans ((ajV231 33 _ rfl).trans ((ajV186 33 _ rfl).trans ((ajV163 33 _ rfl).trans rfl)))))) cs268 (fun f hf hne => ((ajV252 34 _ rfl).trans ((up2_k hV245 (by omega)).trans ((ajV231 34 _ rfl).trans ((ajV186 34 _ rfl).trans ((ajV163 34 _ rfl).trans rfl))))))), ((((keepS.n1 1)).2.2.1 2 (by decide)).trans (((kp241).2.2.1 2 (by decide)).trans ((rfl : (sT mx189.2 (mx189.1 :: (nx gs 1).2.2.2)).2.1 2 = mx189.2.2.1 2).trans (((kp194).2.2.1 2 (by decide)).trans ((((keepS.n1 1)).2.2.1 2 (by decide)).trans (rfl : gs.2.1 2 = gs.2.1 2)))))), ((congrArg (fun q9 => q9.1) ((keepS.n1 1)).2.2.2).trans ((congrArg (fun q9 => q9.1) (kp241).2.2.2).trans ((rfl : (sT mx189.2 (mx189.1 :: (nx gs 1).2.2.2)).2.2.1 = mx189.2.2.2.1).trans ((congrArg (fun q9 => q9.1) (kp194).2.2.2).trans ((congrArg (fun q9 => q9.1) ((keepS.n1 1)).2.2.2).trans (rfl : gs.2.2.1 = gs.2.2.1)))))), cn270⟩), rw271, rw272, rw273, rw274⟩, by rw [ht]; exact hP, va_K.moved hW.alike hK, hD⟩, hS.F ht⟩) hS.2.2 dX12_member_193
                        · skip
                          have kd275 : gT.1 (sx238.1 0) ≠ 59 := fun h9 => h255 (h9.trans (by decide))
                          have hb276 : ∀ k, Rc gT (Crun gs (Imember :: k)) (Cbad (V252 0 8).toInt) := fun k => Rc.go1 (hr242 k) ((tk_n kd275).trans (fl_eq rfl rl256))
                          have r277 : 0 ≤ ((V252 0 8)).toInt ∧ ((V252 0 8)).toInt ≤ 70000 := hMV252 0 8
                          have pq278 : (V252 0 48).toInt = ((V231 0 48)).toInt := congrArg Int32.toInt ((ajV252 0 48 rfl).trans (up2_o hV245 (by decide)))
                          have rw279 : RoV 35 bq V V252 := (fun k hk => ((ajV252 35 k rfl).trans ((up2_o hV245 (by decide)).trans ((t227 k hk).trans ((t182 k hk).trans ((ajV163 35 k rfl).trans rfl))))))
                          have rw280 : RoV 37 bq V V252 := (fun k hk => ((ajV252 37 k rfl).trans ((up2_o hV245 (by decide)).trans ((t228 k hk).trans ((t183 k hk).trans ((ajV163 37 k rfl).trans rfl))))))
                          have rw281 : RoL 36 20 bq L L232 := (fun k hk => ((t229 k hk).trans ((t184 k hk).trans rfl)))
                          have rw282 : RoL 38 20 bq L L232 := (fun k hk => ((t230 k hk).trans ((t185 k hk).trans rfl)))
                          exact W.vret hx hb hr (fun t ht hW => ⟨⟨(V252, L232), rfl, ⟨hMV252, agV252, alL232, (Imp.mk (fun hp => have hp : (V252 0 8).toInt = 0 := hp; (show (V252 0 48).toInt ≤ 2 * (V252 0 7).toInt from by first | omega | ((try (have i_t222 := Imp.go t222 (by omega))); omega)))), (show (V252 0 48).toInt ≤ 8120 from by first | omega | ((try (have i_t222 := Imp.go t222 (by omega))); omega)), (Or.inr ⟨(show 1 ≤ (V252 0 8).toInt from by omega), hb276⟩), rw279, rw280, rw281, rw282⟩, by rw [ht]; exact hP, va_K.moved hW.alike hK, hD⟩, hS.F ht⟩) hS.2.2 dX12_member_193
                      · skip
                        have hb283 : ∀ k, Rc gT (Crun gs (Imember :: k)) (Cbad (V231 0 8).toInt) := fun k => (hr211 k).tr (h239 (Itake 59 :: Imember :: k))
                        refine va_iast (D := D) (i := z215) (x := z219) hx hb hK hP hD hS 27 26 rfl rfl (i_in (a := z215.toInt) rfl (by first | omega | ((try (have i_t222 := Imp.go t222 (by omega))); omega))) dX12_member_178 (fun H locs hP hD hS => ?_)
                        obtain ⟨V284, hV284⟩ : ∃ z, z = up2 V231 34 (Int32.toNatClampNeg z215) z219 := ⟨_, rfl⟩
                        have hP : va_P D vwCl (mw ad kk ks.1 V284 L232) H := by rw [hV284]; exact hP
                        have hD : va_D A (mw ad kk ks.1 V284 L232) := by rw [hV284]; exact hD
                        have hMV284 : rgd bM V284 := hMV231.put hV284 (i_full _)
                        have agV284 : agr [(0, 7), (0, 8), (0, 48), (0, 50)] [27, 28, 29, 30, 31, 32, 33, 34, 35, 36, 37, 38, 45, 46, 47] V V284 := agV231.up hV284 rfl
                        refine lv_goto (tgt := 187) hx hb dX12_member_179 (by decide) ?_
                        refine lv_aload_n hx hb dX12_member_187 rfl (lv_at hl 1 rfl) ?_
                        refine lv_bipush (v := 59) hx hb dX12_member_188 (by decide) ?_
                        have r285 : Int32.toInt 59 = 59 := by decide
                        have pq286 : (V284 0 8).toInt = ((V231 0 8)).toInt := congrArg Int32.toInt (up2_o hV284 (by decide))
                        refine gA_void (gA_runV (As := [.int 59]) (rest := []) (ci := 12) (q0 := 0) hx hb hml hown hg hP hD hK hS hA hnw hgk (s_takeSignB l D ks H.size ad kk V284 L232 59 hMV284 (show 1 ≤ (V284 0 8).toInt from by first | omega | ((try (have i_t222 := Imp.go t222 (by omega))); omega))) w2079 w2081 w96 w172 w2082 rfl rfl hdV_yX12_takeSign ⟨Nat.le_of_ble_eq_true rfl, Nat.le_of_ble_eq_true rfl⟩ rfl hl.1 rfl (Nat.le_of_ble_eq_true rfl) dX12_member_190 ⟨Nat.le_of_ble_eq_true rfl, Nat.le_of_ble_eq_true rfl⟩) hP hD hK hS hA (fun u288 H locs w289 hP hD hK hS => ?_)
                        obtain ⟨V291, L292⟩ := u288
                        obtain ⟨hMV291, ajV291, axL292, t290⟩ := w289
                        have axL292 : L232 = L292 := Eq.symm axL292
                        subst axL292
                        have hP : va_P D vwCl (mw ad kk ks.1 V291 L232) H := hP
                        have hD : va_D A (mw ad kk ks.1 V291 L232) := hD
                        have hMV291 : rgd bM V291 := hMV291
                        have ajV291 : agr [(0, 7), (0, 8)] [] V284 V291 := ajV291
                        have agV291 : agr [(0, 7), (0, 8), (0, 48), (0, 50)] [27, 28, 29, 30, 31, 32, 33, 34, 35, 36, 37, 38, 45, 46, 47] V V291 := agV284.tr ajV291 (by decide) (by decide)
                        have t290 : (V291 0 8).toInt = (V284 0 8).toInt := t290
                        have r293 : 0 ≤ ((V291 0 8)).toInt ∧ ((V291 0 8)).toInt ≤ 70000 := hMV291 0 8
                        have pq294 : (V291 0 48).toInt = ((V231 0 48)).toInt := congrArg Int32.toInt ((ajV291 0 48 rfl).trans (up2_o hV284 (by decide)))
                        have rw295 : RoV 35 bq V V291 := (fun k hk => ((ajV291 35 k rfl).trans ((up2_o hV284 (by decide)).trans ((t227 k hk).trans ((t182 k hk).trans ((ajV163 35 k rfl).trans rfl))))))
                        have rw296 : RoV 37 bq V V291 := (fun k hk => ((ajV291 37 k rfl).trans ((up2_o hV284 (by decide)).trans ((t228 k hk).trans ((t183 k hk).trans ((ajV163 37 k rfl).trans rfl))))))
                        have rw297 : RoL 36 20 bq L L232 := (fun k hk => ((t229 k hk).trans ((t184 k hk).trans rfl)))
                        have rw298 : RoL 38 20 bq L L232 := (fun k hk => ((t230 k hk).trans ((t185 k hk).trans rfl)))
                        exact W.vret hx hb hr (fun t ht hW => ⟨⟨(V291, L232), rfl, ⟨hMV291, agV291, alL232, (Imp.mk (fun hp => have hp : (V291 0 8).toInt = 0 := hp; (show (V291 0 48).toInt ≤ 2 * (V291 0 7).toInt from by first | omega | ((try (have i_t222 := Imp.go t222 (by omega))); omega)))), (show (V291 0 48).toInt ≤ 8120 from by first | omega | ((try (have i_t222 := Imp.go t222 (by omega))); omega)), (Or.inr ⟨(show 1 ≤ (V291 0 8).toInt from by omega), (fun k => by rw [show (V291 0 8).toInt = (V231 0 8).toInt from by omega]; exact hb283 k)⟩), rw295, rw296, rw297, rw298⟩, by rw [ht]; exact hP, va_K.moved hW.alike hK, hD⟩, hS.F ht⟩) hS.2.2 dX12_member_193
                  · skip
                    have f299 : 0 ≤ ((V 34 (Int32.toNatClampNeg z203))).toInt := b_nlt rfl (by decide) c206
                    refine lv_aload_n hx hb dX12_member_142 rfl (lv_at hl 1 rfl) ?_
                    refine lv_dup hx hb dX12_member_143 rfl ?_
                    refine va_get (D := D) (ci := 12) (v := .int (V186 0 7)) (C := RX12) (T := TX12) (N := 100) hx hb hg inX12 hown hK hP 0 rfl rfl 7 (by decide) (hg _ w1717) (fun _ h9 => h9) rfl dX12_member_144 ?_
                    refine lv_iconst (v := 1) hx hb dX12_member_147 (by decide) ?_
                    refine lv_isub hx hb dX12_member_148 ?_
                    refine lv_topi (fun z300 ez300 => ?_)
                    have hz300 : z300.toInt = ((V186 0 7)).toInt - 1 := i_sub ez300 rfl (by decide) (by omega)
                    refine va_put (D := D) (ci := 12) (v := .int z300) (ty := tyX12 7) (C := RX12) (T := TX12) (N := 100) hx hb hg inX12 tyX12 tyX12_ok nmX12 hown hK hP hD hS 0 rfl rfl 7 (by decide) (hg _ w1717) (fun _ h9 => h9) rfl (tyX12_ok 7 (by decide)) rfl rfl (Nat.le_of_ble_eq_true rfl) dX12_member_149 (fun H locs hP hD hS => ?_)
                    obtain ⟨V301, hV301⟩ : ∃ z, z = up2 V186 0 7 z300 := ⟨_, rfl⟩
                    have hP : va_P D vwCl (mw ad kk ks.1 V301 L187) H := by rw [hV301]; exact hP
                    have hD : va_D A (mw ad kk ks.1 V301 L187) := by rw [hV301]; exact hD
                    have hMV301 : rgd bM V301 := hMV186.put hV301 (i_full _)
                    have agV301 : agr [(0, 7), (0, 8), (0, 48), (0, 50)] [27, 28, 29, 30, 31, 32, 33, 34, 35, 36, 37, 38, 45, 46, 47] V V301 := agV186.up hV301 rfl
                    have tx := MTX.told mt195 (by rw [oS]; exact ow5.mp (by omega)) (by rw [oS, oL]; exact ow.2.2.2.2.2)
                    have rl302 : RelM V301 L187 bq gn gT (nx gs 1) gl := RelM.v8 (by rw [← tx.2]; exact rl191) hV301 (by omega)
                    have fz303 := RelM.rg rl302
                    have pq304 : (V301 0 8).toInt = ((V186 0 8)).toInt := congrArg Int32.toInt (up2_k hV301 (by decide))
                    have pq305 : (V301 0 7).toInt = z300.toInt := congrArg Int32.toInt (up2_s hV301)
                    have mn3 : ∀ k, mst gT (Crun (nx gs 1) (ImethN :: k)) = fl gT (nx gs 1) 3 := fun k => mthN_3 (mth_k3 h190) tx.1 _
                    refine lv_aload_n hx hb dX12_member_152 rfl (lv_at hl 1 rfl) ?_
                    refine lv_iconst (v := 3) hx hb dX12_member_153 (by decide) ?_
                    have r306 : Int32.toInt 3 = 3 := by decide
                    refine gA_void (gA_runV (As := [.int 3]) (rest := []) (ci := 12) (q0 := 0) hx hb hml hown hg hP hD hK hS hA hnw hgk (s_wrongA l D ks H.size ad kk V301 L187 3 (bq) (gn) (gT) ((nx gs 1)) (gl) hMV301 (by decide) rl302) w2039 w2041 w86 w172 w2042 rfl rfl hdV_yX12_wrong ⟨Nat.le_of_ble_eq_true rfl, Nat.le_of_ble_eq_true rfl⟩ rfl hl.1 rfl (Nat.le_of_ble_eq_true rfl) dX12_member_154 ⟨Nat.le_of_ble_eq_true rfl, Nat.le_of_ble_eq_true rfl⟩) hP hD hK hS hA (fun u308 H locs w309 hP hD hK hS => ?_)
                    obtain ⟨V312, L313⟩ := u308
                    obtain ⟨hMV312, ajV312, axL313, t310, t311⟩ := w309
                    have axL313 : L187 = L313 := Eq.symm axL313
                    subst axL313
                    have hP : va_P D vwCl (mw ad kk ks.1 V312 L187) H := hP
                    have hD : va_D A (mw ad kk ks.1 V312 L187) := hD
                    have hMV312 : rgd bM V312 := hMV312
                    have ajV312 : agr [(0, 8)] [] V301 V312 := ajV312
                    have agV312 : agr [(0, 7), (0, 8), (0, 48), (0, 50)] [27, 28, 29, 30, 31, 32, 33, 34, 35, 36, 37, 38, 45, 46, 47] V V312 := agV301.tr ajV312 (by decide) (by decide)
                    have t310 : 1 ≤ (V312 0 8).toInt := t310
                    have t311 : (V312 0 8).toInt = (Int32.toInt 3) + 16 * (gT).2.2 (((nx gs 1)).1 0) := t311
                    have r314 : 0 ≤ ((V312 0 8)).toInt ∧ ((V312 0 8)).toInt ≤ 70000 := hMV312 0 8
                    have hb315 : ∀ k, Rc gT (Crun gs (Imember :: k)) (Cbad (V312 0 8).toInt) := fun k => Rc.go1 (hr170 k) ((mn3 _).trans (fl_eq rfl (show (V312 0 8).toInt = 3 + 16 * gT.2.2 ((nx gs 1).1 0) from by omega)))
                    refine lv_aload_n hx hb dX12_member_157 rfl (lv_at hl 1 rfl) ?_
                    refine va_get (D := D) (ci := 12) (v := .int (V312 0 8)) (C := RX12) (T := TX12) (N := 100) hx hb hg inX12 hown hK hP 0 rfl rfl 8 (by decide) (hg _ w1718) (fun _ h9 => h9) rfl dX12_member_158 ?_
                    refine lv_if_ne (tgt := 179) hx hb dX12_member_161 (by decide) (fun c316 => ?_) (fun c316 => ?_)
                    · skip
                      have f317 : ((V312 0 8)).toInt ≠ 0 := b_neq rfl (by decide) c316
                      refine lv_goto (tgt := 187) hx hb dX12_member_179 (by decide) ?_
                      refine lv_aload_n hx hb dX12_member_187 rfl (lv_at hl 1 rfl) ?_
                      refine lv_bipush (v := 59) hx hb dX12_member_188 (by decide) ?_
                      have r318 : Int32.toInt 59 = 59 := by decide
                      refine gA_void (gA_runV (As := [.int 59]) (rest := []) (ci := 12) (q0 := 0) hx hb hml hown hg hP hD hK hS hA hnw hgk (s_takeSignB l D ks H.size ad kk V312 L187 59 hMV312 (show 1 ≤ (V312 0 8).toInt from by omega)) w2079 w2081 w96 w172 w2082 rfl rfl hdV_yX12_takeSign ⟨Nat.le_of_ble_eq_true rfl, Nat.le_of_ble_eq_true rfl⟩ rfl hl.1 rfl (Nat.le_of_ble_eq_true rfl) dX12_member_190 ⟨Nat.le_of_ble_eq_true rfl, Nat.le_of_ble_eq_true rfl⟩) hP hD hK hS hA (fun u320 H locs w321 hP hD hK hS => ?_)
                      obtain ⟨V323, L324⟩ := u320
                      obtain ⟨hMV323, ajV323, axL324, t322⟩ := w321
                      have axL324 : L187 = L324 := Eq.symm axL324
                      subst axL324
                      have hP : va_P D vwCl (mw ad kk ks.1 V323 L187) H := hP
                      have hD : va_D A (mw ad kk ks.1 V323 L187) := hD
                      have hMV323 : rgd bM V323 := hMV323
                      have ajV323 : agr [(0, 7), (0, 8)] [] V312 V323 := ajV323
                      have agV323 : agr [(0, 7), (0, 8), (0, 48), (0, 50)] [27, 28, 29, 30, 31, 32, 33, 34, 35, 36, 37, 38, 45, 46, 47] V V323 := agV312.tr ajV323 (by decide) (by decide)
                      have t322 : (V323 0 8).toInt = (V312 0 8).toInt := t322
                      have r325 : 0 ≤ ((V323 0 8)).toInt ∧ ((V323 0 8)).toInt ≤ 70000 := hMV323 0 8
                      have pq326 : (V323 0 48).toInt = ((V 0 48)).toInt := congrArg Int32.toInt ((ajV323 0 48 rfl).trans ((ajV312 0 48 rfl).trans ((up2_k hV301 (by decide)).trans ((ajV186 0 48 rfl).trans (ajV163 0 48 rfl)))))
                      have rw327 : RoV 35 bq V V323 := (fun k hk => ((ajV323 35 k rfl).trans ((ajV312 35 k rfl).trans ((up2_o hV301 (by decide)).trans ((t182 k hk).trans ((ajV163 35 k rfl).trans rfl))))))
                      have rw328 : RoV 37 bq V V323 := (fun k hk => ((ajV323 37 k rfl).trans ((ajV312 37 k rfl).trans ((up2_o hV301 (by decide)).trans ((t183 k hk).trans ((ajV163 37 k rfl).trans rfl))))))
                      have rw329 : RoL 36 20 bq L L187 := (fun k hk => ((t184 k hk).trans rfl))
                      have rw330 : RoL 38 20 bq L L187 := (fun k hk => ((t185 k hk).trans rfl))
                      exact W.vret hx hb hr (fun t ht hW => ⟨⟨(V323, L187), rfl, ⟨hMV323, agV323, alL187, (Imp.mk (fun hp => have hp : (V323 0 8).toInt = 0 := hp; (show (V323 0 48).toInt ≤ 2 * (V323 0 7).toInt from by omega))), (show (V323 0 48).toInt ≤ 8120 from by omega), (Or.inr ⟨(show 1 ≤ (V323 0 8).toInt from by omega), (fun k => by rw [show (V323 0 8).toInt = (V312 0 8).toInt from by omega]; exact hb315 k)⟩), rw327, rw328, rw329, rw330⟩, by rw [ht]; exact hP, va_K.moved hW.alike hK, hD⟩, hS.F ht⟩) hS.2.2 dX12_member_193
                    · skip
                      have f331 : ((V312 0 8)).toInt = 0 := b_eq rfl (by decide) c316
                      exfalso; omega
              · skip
                have hb332 : ∀ k, Rc gT (Crun gs (Imember :: k)) (Cbad (V186 0 8).toInt) := fun k => Rc.go1 (hr170 k) (mn_b (Km_mthN h190))
                have r333 : 0 ≤ ((V186 0 8)).toInt ∧ ((V186 0 8)).toInt ≤ 70000 := hMV186 0 8
                refine lv_istore_n (lv' := [(2, .int z178), (0, .ref (ad 0)), (1, .int p0)]) hx hb dX12_member_120 rfl hl (by decide) rfl (fun ls hl => ?_)
                refine lv_aload_n hx hb dX12_member_121 rfl (lv_at hl 1 rfl) ?_
                refine va_get (D := D) (ci := 12) (v := .int (V186 0 8)) (C := RX12) (T := TX12) (N := 100) hx hb hg inX12 hown hK hP 0 rfl rfl 8 (by decide) (hg _ w1718) (fun _ h9 => h9) rfl dX12_member_122 ?_
                refine lv_if_ne (tgt := 157) hx hb dX12_member_125 (by decide) (fun c334 => ?_) (fun c334 => ?_)
                · skip
                  have f335 : ((V186 0 8)).toInt ≠ 0 := b_neq rfl (by decide) c334
                  refine lv_aload_n hx hb dX12_member_157 rfl (lv_at hl 1 rfl) ?_
                  refine va_get (D := D) (ci := 12) (v := .int (V186 0 8)) (C := RX12) (T := TX12) (N := 100) hx hb hg inX12 hown hK hP 0 rfl rfl 8 (by decide) (hg _ w1718) (fun _ h9 => h9) rfl dX12_member_158 ?_
                  refine lv_if_ne (tgt := 179) hx hb dX12_member_161 (by decide) (fun c336 => ?_) (fun c336 => ?_)
                  · skip
                    have f337 : ((V186 0 8)).toInt ≠ 0 := b_neq rfl (by decide) c336
                    refine lv_goto (tgt := 187) hx hb dX12_member_179 (by decide) ?_
                    refine lv_aload_n hx hb dX12_member_187 rfl (lv_at hl 1 rfl) ?_
                    refine lv_bipush (v := 59) hx hb dX12_member_188 (by decide) ?_
                    have r338 : Int32.toInt 59 = 59 := by decide
                    refine gA_void (gA_runV (As := [.int 59]) (rest := []) (ci := 12) (q0 := 0) hx hb hml hown hg hP hD hK hS hA hnw hgk (s_takeSignB l D ks H.size ad kk V186 L187 59 hMV186 (show 1 ≤ (V186 0 8).toInt from by omega)) w2079 w2081 w96 w172 w2082 rfl rfl hdV_yX12_takeSign ⟨Nat.le_of_ble_eq_true rfl, Nat.le_of_ble_eq_true rfl⟩ rfl hl.1 rfl (Nat.le_of_ble_eq_true rfl) dX12_member_190 ⟨Nat.le_of_ble_eq_true rfl, Nat.le_of_ble_eq_true rfl⟩) hP hD hK hS hA (fun u340 H locs w341 hP hD hK hS => ?_)
                    obtain ⟨V343, L344⟩ := u340
                    obtain ⟨hMV343, ajV343, axL344, t342⟩ := w341
                    have axL344 : L187 = L344 := Eq.symm axL344
                    subst axL344
                    have hP : va_P D vwCl (mw ad kk ks.1 V343 L187) H := hP
                    have hD : va_D A (mw ad kk ks.1 V343 L187) := hD
                    have hMV343 : rgd bM V343 := hMV343
                    have ajV343 : agr [(0, 7), (0, 8)] [] V186 V343 := ajV343
                    have agV343 : agr [(0, 7), (0, 8), (0, 48), (0, 50)] [27, 28, 29, 30, 31, 32, 33, 34, 35, 36, 37, 38, 45, 46, 47] V V343 := agV186.tr ajV343 (by decide) (by decide)
                    have t342 : (V343 0 8).toInt = (V186 0 8).toInt := t342
                    have r345 : 0 ≤ ((V343 0 8)).toInt ∧ ((V343 0 8)).toInt ≤ 70000 := hMV343 0 8
                    have pq346 : (V343 0 48).toInt = ((V 0 48)).toInt := congrArg Int32.toInt ((ajV343 0 48 rfl).trans ((ajV186 0 48 rfl).trans (ajV163 0 48 rfl)))
                    have rw347 : RoV 35 bq V V343 := (fun k hk => ((ajV343 35 k rfl).trans ((t182 k hk).trans ((ajV163 35 k rfl).trans rfl))))
                    have rw348 : RoV 37 bq V V343 := (fun k hk => ((ajV343 37 k rfl).trans ((t183 k hk).trans ((ajV163 37 k rfl).trans rfl))))
                    have rw349 : RoL 36 20 bq L L187 := (fun k hk => ((t184 k hk).trans rfl))
                    have rw350 : RoL 38 20 bq L L187 := (fun k hk => ((t185 k hk).trans rfl))
                    exact W.vret hx hb hr (fun t ht hW => ⟨⟨(V343, L187), rfl, ⟨hMV343, agV343, alL187, (Imp.mk (fun hp => have hp : (V343 0 8).toInt = 0 := hp; (show (V343 0 48).toInt ≤ 2 * (V343 0 7).toInt from by omega))), (show (V343 0 48).toInt ≤ 8120 from by omega), (Or.inr ⟨(show 1 ≤ (V343 0 8).toInt from by omega), (fun k => by rw [show (V343 0 8).toInt = (V186 0 8).toInt from by omega]; exact hb332 k)⟩), rw347, rw348, rw349, rw350⟩, by rw [ht]; exact hP, va_K.moved hW.alike hK, hD⟩, hS.F ht⟩) hS.2.2 dX12_member_193
                  · skip
                    have f351 : ((V186 0 8)).toInt = 0 := b_eq rfl (by decide) c336
                    exfalso; omega
                · skip
                  have f352 : ((V186 0 8)).toInt = 0 := b_eq rfl (by decide) c334
                  exfalso; omega
          · skip
            have kd353 : gT.1 (gs.1 0) ≠ 142 := fun h9 => h166 (h9.trans (by decide))
            have fz354 := RelM.rg rl167
            have pq355 : (V163 0 8).toInt = ((V 0 8)).toInt := congrArg Int32.toInt (ajV163 0 8 rfl)
            have r356 : 0 ≤ ((V 0 8)).toInt ∧ ((V 0 8)).toInt ≤ 70000 := hMV 0 8
            refine lv_if_eq (tgt := 182) hx hb dX12_member_105 (by decide) (fun c357 => ?_) (fun c357 => ?_)
            · skip
              have f358 : z159.toInt = 0 := b_eq rfl (by decide) c357
              refine lv_aload_n hx hb dX12_member_182 rfl (lv_at hl 0 rfl) ?_
              refine lv_iconst (v := 1) hx hb dX12_member_183 (by decide) ?_
              have r359 : Int32.toInt 1 = 1 := by decide
              refine gA_void (gA_runV (As := [.int 1]) (rest := []) (ci := 12) (q0 := 0) hx hb hml hown hg hP hD hK hS hA hnw hgk (s_wrongA l D ks H.size ad kk V163 L 1 (bq) (gn) (gT) (gs) (gl) hMV163 (by decide) rl167) w2039 w2041 w86 w172 w2042 rfl rfl hdV_yX12_wrong ⟨Nat.le_of_ble_eq_true rfl, Nat.le_of_ble_eq_true rfl⟩ rfl hl.1 rfl (Nat.le_of_ble_eq_true rfl) dX12_member_184 ⟨Nat.le_of_ble_eq_true rfl, Nat.le_of_ble_eq_true rfl⟩) hP hD hK hS hA (fun u361 H locs w362 hP hD hK hS => ?_)
              obtain ⟨V365, L366⟩ := u361
              obtain ⟨hMV365, ajV365, axL366, t363, t364⟩ := w362
              have axL366 : L = L366 := Eq.symm axL366
              subst axL366
              have hP : va_P D vwCl (mw ad kk ks.1 V365 L) H := hP
              have hD : va_D A (mw ad kk ks.1 V365 L) := hD
              have hMV365 : rgd bM V365 := hMV365
              have ajV365 : agr [(0, 8)] [] V163 V365 := ajV365
              have agV365 : agr [(0, 7), (0, 8), (0, 48), (0, 50)] [27, 28, 29, 30, 31, 32, 33, 34, 35, 36, 37, 38, 45, 46, 47] V V365 := agV163.tr ajV365 (by decide) (by decide)
              have t363 : 1 ≤ (V365 0 8).toInt := t363
              have t364 : (V365 0 8).toInt = (Int32.toInt 1) + 16 * (gT).2.2 ((gs).1 0) := t364
              have r367 : 0 ≤ ((V365 0 8)).toInt ∧ ((V365 0 8)).toInt ≤ 70000 := hMV365 0 8
              have hr368 : ∀ k, Rc gT (Crun gs (Imember :: k)) (Crun gs (Imember :: k)) := fun k => Rc.rf
              have hb369 : ∀ k, Rc gT (Crun gs (Imember :: k)) (Cbad (V365 0 8).toInt) := fun k => Rc.go1 (hr368 k) ((mb_f kn125 kd151 (Or.inr (by by_cases q9 : gs.1 2 = 1; exact q9; exact absurd (ow.2.1.mpr q9) (by omega))) (Or.inr (by by_cases q9 : gs.1 3 = 1; exact q9; exact absurd (ow.2.2.1.mpr q9) (by omega))) kd353).trans (fl_eq rfl (show (V365 0 8).toInt = 1 + 16 * gT.2.2 (gs.1 0) from by omega)))
              refine lv_aload_n hx hb dX12_member_187 rfl (lv_at hl 0 rfl) ?_
              refine lv_bipush (v := 59) hx hb dX12_member_188 (by decide) ?_
              have r370 : Int32.toInt 59 = 59 := by decide
              refine gA_void (gA_runV (As := [.int 59]) (rest := []) (ci := 12) (q0 := 0) hx hb hml hown hg hP hD hK hS hA hnw hgk (s_takeSignB l D ks H.size ad kk V365 L 59 hMV365 (show 1 ≤ (V365 0 8).toInt from by omega)) w2079 w2081 w96 w172 w2082 rfl rfl hdV_yX12_takeSign ⟨Nat.le_of_ble_eq_true rfl, Nat.le_of_ble_eq_true rfl⟩ rfl hl.1 rfl (Nat.le_of_ble_eq_true rfl) dX12_member_190 ⟨Nat.le_of_ble_eq_true rfl, Nat.le_of_ble_eq_true rfl⟩) hP hD hK hS hA (fun u372 H locs w373 hP hD hK hS => ?_)
              obtain ⟨V375, L376⟩ := u372
              obtain ⟨hMV375, ajV375, axL376, t374⟩ := w373
              have axL376 : L = L376 := Eq.symm axL376
              subst axL376
              have hP : va_P D vwCl (mw ad kk ks.1 V375 L) H := hP
              have hD : va_D A (mw ad kk ks.1 V375 L) := hD
              have hMV375 : rgd bM V375 := hMV375
              have ajV375 : agr [(0, 7), (0, 8)] [] V365 V375 := ajV375
              have agV375 : agr [(0, 7), (0, 8), (0, 48), (0, 50)] [27, 28, 29, 30, 31, 32, 33, 34, 35, 36, 37, 38, 45, 46, 47] V V375 := agV365.tr ajV375 (by decide) (by decide)
              have t374 : (V375 0 8).toInt = (V365 0 8).toInt := t374
              have r377 : 0 ≤ ((V375 0 8)).toInt ∧ ((V375 0 8)).toInt ≤ 70000 := hMV375 0 8
              have pq378 : (V375 0 48).toInt = ((V 0 48)).toInt := congrArg Int32.toInt ((ajV375 0 48 rfl).trans ((ajV365 0 48 rfl).trans (ajV163 0 48 rfl)))
              have rw379 : RoV 35 bq V V375 := (fun k hk => ((ajV375 35 k rfl).trans ((ajV365 35 k rfl).trans ((ajV163 35 k rfl).trans rfl))))
              have rw380 : RoV 37 bq V V375 := (fun k hk => ((ajV375 37 k rfl).trans ((ajV365 37 k rfl).trans ((ajV163 37 k rfl).trans rfl))))
              have rw381 : RoL 36 20 bq L L := (fun k hk => rfl)
              have rw382 : RoL 38 20 bq L L := (fun k hk => rfl)
              exact W.vret hx hb hr (fun t ht hW => ⟨⟨(V375, L), rfl, ⟨hMV375, agV375, alL, (Imp.mk (fun hp => have hp : (V375 0 8).toInt = 0 := hp; (show (V375 0 48).toInt ≤ 2 * (V375 0 7).toInt from by omega))), (show (V375 0 48).toInt ≤ 8120 from by omega), (Or.inr ⟨(show 1 ≤ (V375 0 8).toInt from by omega), (fun k => by rw [show (V375 0 8).toInt = (V365 0 8).toInt from by omega]; exact hb369 k)⟩), rw379, rw380, rw381, rw382⟩, by rw [ht]; exact hP, va_K.moved hW.alike hK, hD⟩, hS.F ht⟩) hS.2.2 dX12_member_193
            · skip
              have f383 : z159.toInt ≠ 0 := b_neq rfl (by decide) c357
              exfalso; omega
        · skip
          have f384 : ((V 33 (Int32.toNatClampNeg p0))).toInt < 0 := b_nle (by decide) rfl c156
          refine lv_aload_n hx hb dX12_member_77 rfl (lv_at hl 0 rfl) ?_
          refine lv_bipush (v := 13) hx hb dX12_member_78 (by decide) ?_
          have r385 : Int32.toInt 13 = 13 := by decide
          refine gA_int (gA_runV (As := [.int 13]) (rest := []) (ci := 12) (q0 := 0) hx hb hml hown hg hP hD hK hS hA hnw hgk (s_hasWordA l D ks H.size ad kk V L 13 (bq) (gn) (gT) (gs) (gl) hMV (by decide) rel) w2055 w2057 w90 w172 w2058 rfl rfl hdV_yX12_hasWord ⟨Nat.le_of_ble_eq_true rfl, Nat.le_of_ble_eq_true rfl⟩ rfl hl.1 rfl (Nat.le_of_ble_eq_true rfl) dX12_member_80 ⟨Nat.le_of_ble_eq_true rfl, Nat.le_of_ble_eq_true rfl⟩) hP hD hK hS hA (fun z386 u387 H locs w388 hP hD hK hS => ?_)
          obtain ⟨V390, L391⟩ := u387
          obtain ⟨hMV390, ajV390, axL391, rgz386, t389⟩ := w388
          have axL391 : L = L391 := Eq.symm axL391
          subst axL391
          have hP : va_P D vwCl (mw ad kk ks.1 V390 L) H := hP
          have hD : va_D A (mw ad kk ks.1 V390 L) := hD
          have hMV390 : rgd bM V390 := hMV390
          have ajV390 : agr [(0, 7)] [] V V390 := ajV390
          have agV390 : agr [(0, 7), (0, 8), (0, 48), (0, 50)] [27, 28, 29, 30, 31, 32, 33, 34, 35, 36, 37, 38, 45, 46, 47] V V390 := agV.tr ajV390 (by decide) (by decide)
          have rgz386 : 0 ≤ z386.toInt ∧ z386.toInt ≤ 1 := rgz386
          have t389 : (z386.toInt = 1 ∧ (gT).1 ((gs).1 0) = 128 + (Int32.toInt 13) ∧ RelM V390 L (bq) (gn) (gT) (nx (gs) 1) (gl)) ∨ (z386.toInt = 0 ∧ (gT).1 ((gs).1 0) ≠ 128 + (Int32.toInt 13) ∧ RelM V390 L (bq) (gn) (gT) (gs) (gl)) := t389
          rcases t389 with ⟨q392, h393, rl394⟩ | ⟨q392, h393, rl394⟩
          · skip
            have kd395 : gT.1 (gs.1 0) = 141 := h393.trans (by decide)
            have hr396 : ∀ k, Rc gT (Crun gs (Imember :: k)) (Crun gs (Imember :: k)) := fun k => Rc.rf
            have hr397 : ∀ k, Rc gT (Crun gs (Imember :: k)) (Crun (nx (sN gs 3 1) 1) (Iexpr 0 :: Itake 59 :: Imember :: k)) := fun k => Rc.go1 (hr396 k) (mb_141 kd395 (ow.2.2.1.mp (by omega)))
            have ps398 : (sN gs 3 1).1 0 = gs.1 0 := rfl
            have ps399 : (nx gs 1).1 0 = gs.1 0 + 1 := rfl
            have fz400 := RelM.rg rl394
            have pq401 : (V390 0 8).toInt = ((V 0 8)).toInt := congrArg Int32.toInt (ajV390 0 8 rfl)
            have r402 : 0 ≤ ((V 0 8)).toInt ∧ ((V 0 8)).toInt ≤ 70000 := hMV 0 8
            refine lv_if_eq (tgt := 99) hx hb dX12_member_83 (by decide) (fun c403 => ?_) (fun c403 => ?_)
            · skip
              have f404 : z386.toInt = 0 := b_eq rfl (by decide) c403
              exfalso; omega
            · skip
              have f405 : z386.toInt ≠ 0 := b_neq rfl (by decide) c403
              have rl406 : RelM V390 L bq gn gT (nx (sN gs 3 1) 1) gl := rl394
              refine lv_aload_n hx hb dX12_member_86 rfl (lv_at hl 0 rfl) ?_
              refine va_get (D := D) (ci := 12) (v := .ref (ad 33)) (C := RX12) (T := TX12) (N := 100) hx hb hg inX12 hown hK hP 0 rfl rfl 33 (by decide) (hg _ w1743) (fun _ h9 => h9) rfl dX12_member_87 ?_
              refine lv_iload_n hx hb dX12_member_90 rfl (lv_at hl 1 rfl) ?_
              refine lv_aload_n hx hb dX12_member_91 rfl (lv_at hl 0 rfl) ?_
              have pq407 : (V390 0 48).toInt = ((V 0 48)).toInt := congrArg Int32.toInt (ajV390 0 48 rfl)
              have pq408 : (V390 0 51).toInt = ((V 0 51)).toInt := congrArg Int32.toInt (ajV390 0 51 rfl)
              have pq409 : (V390 0 52).toInt = ((V 0 52)).toInt := congrArg Int32.toInt (ajV390 0 52 rfl)
              refine gA_int (gA_runV (As := []) (rest := [.int p0, .ref (ad 33)]) (ci := 12) (q0 := 0) hx hb hml hown hg hP hD hK hS hA hnw hgk (s_codeA l D ks H.size ad kk V390 L (bq) (gn) (gT) ((nx (sN gs 3 1) 1)) (gl) hMV390 rl406 (show (V390 0 48).toInt ≤ 2 * (V390 0 7).toInt from by omega) (EM.o2 (o := gc) (show (V390 27 gc).toInt = (((nx (sN gs 3 1) 1).1 1 : Nat) : Int) from by rw [(by rw [(funext (fun q => ajV390 27 q rfl) : V390 27 = V 27)] : V390 27 = V 27)]; exact ow.1) (show (nx (sN gs 3 1) 1).1 4 = 0 from ow.2.2.2.1) (by omega) (by omega))) w2116 w2118 w105 w172 w2119 rfl rfl hdV_yX12_code ⟨Nat.le_of_ble_eq_true rfl, Nat.le_of_ble_eq_true rfl⟩ rfl hl.1 rfl (Nat.le_of_ble_eq_true rfl) dX12_member_92 ⟨Nat.le_of_ble_eq_true rfl, Nat.le_of_ble_eq_true rfl⟩) hP hD hK hS hA (fun z410 u411 H locs w412 hP hD hK hS => ?_)
              obtain ⟨V422, L423⟩ := u411
              obtain ⟨hMV422, ajV422, axL423, rgz410, t413, t414, t415, t416, t417, t418, t419, t420, t421⟩ := w412
              have alL423 : agL [27, 28, 29, 30, 31, 32, 33, 34, 35, 36, 37, 38, 45, 46, 47] L L423 := agL.tr alL axL423 (by decide)
              have hP : va_P D vwCl (mw ad kk ks.1 V422 L423) H := hP
              have hD : va_D A (mw ad kk ks.1 V422 L423) := hD
              have hMV422 : rgd bM V422 := hMV422
              have ajV422 : agr [(0, 7), (0, 8), (0, 48), (0, 50)] [35, 36, 37, 38, 45, 46, 47] V390 V422 := ajV422
              have agV422 : agr [(0, 7), (0, 8), (0, 48), (0, 50)] [27, 28, 29, 30, 31, 32, 33, 34, 35, 36, 37, 38, 45, 46, 47] V V422 := agV390.tr ajV422 (by decide) (by decide)
              have rgz410 : 0 ≤ z410.toInt ∧ z410.toInt ≤ 20000 := rgz410
              have t413 : Imp ((V422 0 8).toInt = 0) ((V422 0 48).toInt - (V390 0 48).toInt ≤ 2 * ((V422 0 7).toInt - (V390 0 7).toInt) + 1) := t413
              have t414 : (V422 0 48).toInt ≤ 8060 := t414
              have t415 : (V390 0 48).toInt ≤ (V422 0 48).toInt := t415
              have t416 : z410.toInt = (V390 0 49).toInt + (V390 0 48).toInt := t416
              have t417 : RdM (gT) ((nx (sN gs 3 1) 1)) (fun k => Iexpr 0 :: k) (fun k => k) (V422 0 8).toInt (fun s9 => RelM V422 L423 (bq) (gn) (gT) s9 (gl) ∧ keepS ((nx (sN gs 3 1) 1)) 1 s9) := t417
              have t418 : RoV 35 (bq) V390 V422 := t418
              have t419 : RoV 37 (bq) V390 V422 := t419
              have t420 : RoL 36 20 (bq) L L423 := t420
              have t421 : RoL 38 20 (bq) L L423 := t421
              have r424 : 0 ≤ ((V422 0 48)).toInt ∧ ((V422 0 48)).toInt ≤ 10000 := hMV422 0 48
              have r425 : 0 ≤ ((V422 0 8)).toInt ∧ ((V422 0 8)).toInt ≤ 70000 := hMV422 0 8
              have pq426 : (V390 0 49).toInt = ((V 0 49)).toInt := congrArg Int32.toInt (ajV390 0 49 rfl)
              have r427 : 0 ≤ ((V 0 49)).toInt ∧ ((V 0 49)).toInt ≤ 10000 := hMV 0 49
              rcases t417 with ⟨q428, sx429, h430, rl431, kp432⟩ | ⟨q428, h430⟩
              · skip
                have hr433 : ∀ k, Rc gT (Crun gs (Imember :: k)) (Crun sx429 (Itake 59 :: Imember :: k)) := fun k => (hr397 k).tr (h430 (Itake 59 :: Imember :: k))
                have fz434 := RelM.rg rl431
                have ps435 := (kp432).1
                refine va_iast (D := D) (i := p0) (x := z410) hx hb hK hP hD hS 26 25 rfl rfl (i_in (a := p0.toInt) rfl (by first | omega | ((try (have i_t413 := Imp.go t413 (by omega))); omega))) dX12_member_95 (fun H locs hP hD hS => ?_)
                obtain ⟨V436, hV436⟩ : ∃ z, z = up2 V422 33 (Int32.toNatClampNeg p0) z410 := ⟨_, rfl⟩
                have hP : va_P D vwCl (mw ad kk ks.1 V436 L423) H := by rw [hV436]; exact hP
                have hD : va_D A (mw ad kk ks.1 V436 L423) := by rw [hV436]; exact hD
                have hMV436 : rgd bM V436 := hMV422.put hV436 (i_full _)
                have agV436 : agr [(0, 7), (0, 8), (0, 48), (0, 50)] [27, 28, 29, 30, 31, 32, 33, 34, 35, 36, 37, 38, 45, 46, 47] V V436 := agV422.up hV436 rfl
                refine lv_goto (tgt := 187) hx hb dX12_member_96 (by decide) ?_
                refine lv_aload_n hx hb dX12_member_187 rfl (lv_at hl 0 rfl) ?_
                refine lv_bipush (v := 59) hx hb dX12_member_188 (by decide) ?_
                have rl437 : RelM V436 L423 bq gn gT sx429 gl := RelM.ag rl431 (show agr [] [33] V422 V436 from (agr.up agr.rf hV436 rfl)) (by decide) (show agL [] L423 L423 from agL.rf) (by decide)
                have r438 : Int32.toInt 59 = 59 := by decide
                refine gA_void (gA_runV (As := [.int 59]) (rest := []) (ci := 12) (q0 := 0) hx hb hml hown hg hP hD hK hS hA hnw hgk (s_takeSignA l D ks H.size ad kk V436 L423 59 (bq) (gn) (gT) (sx429) (gl) hMV436 rl437 (sg_yes (j := 59) (by decide) (by decide) (by decide))) w2079 w2081 w96 w172 w2082 rfl rfl hdV_yX12_takeSign ⟨Nat.le_of_ble_eq_true rfl, Nat.le_of_ble_eq_true rfl⟩ rfl hl.1 rfl (Nat.le_of_ble_eq_true rfl) dX12_member_190 ⟨Nat.le_of_ble_eq_true rfl, Nat.le_of_ble_eq_true rfl⟩) hP hD hK hS hA (fun u440 H locs w441 hP hD hK hS => ?_)
                obtain ⟨V443, L444⟩ := u440
                obtain ⟨hMV443, ajV443, axL444, t442⟩ := w441
                have axL444 : L423 = L444 := Eq.symm axL444
                subst axL444
                have hP : va_P D vwCl (mw ad kk ks.1 V443 L423) H := hP
                have hD : va_D A (mw ad kk ks.1 V443 L423) := hD
                have hMV443 : rgd bM V443 := hMV443
                have ajV443 : agr [(0, 7), (0, 8)] [] V436 V443 := ajV443
                have agV443 : agr [(0, 7), (0, 8), (0, 48), (0, 50)] [27, 28, 29, 30, 31, 32, 33, 34, 35, 36, 37, 38, 45, 46, 47] V V443 := agV436.tr ajV443 (by decide) (by decide)
                have t442 : ((V443 0 8).toInt = 0 ∧ (gT).1 ((sx429).1 0) = (Int32.toInt 59) ∧ RelM V443 L423 (bq) (gn) (gT) (nx (sx429) 1) (gl)) ∨ (1 ≤ (V443 0 8).toInt ∧ (gT).1 ((sx429).1 0) ≠ (Int32.toInt 59) ∧ (V443 0 8).toInt = 1 + 16 * (gT).2.2 ((sx429).1 0)) := t442
                rcases t442 with ⟨q445, h446, rl447⟩ | ⟨q445, h446, rl447⟩
                · skip
                  have kd448 : gT.1 (sx429.1 0) = 59 := h446.trans (by decide)
                  have hr449 : ∀ k, Rc gT (Crun gs (Imember :: k)) (Crun (nx sx429 1) (Imember :: k)) := fun k => Rc.go1 (hr433 k) (tk_y kd448)
                  have ps450 : (nx sx429 1).1 0 = sx429.1 0 + 1 := rfl
                  have fz451 := RelM.rg rl447
                  have r452 : 0 ≤ ((V443 0 8)).toInt ∧ ((V443 0 8)).toInt ≤ 70000 := hMV443 0 8
                  have pq453 : (V443 0 48).toInt = ((V422 0 48)).toInt := congrArg Int32.toInt ((ajV443 0 48 rfl).trans (up2_o hV436 (by decide)))
                  have ps454 : gs.1 0 + 1 ≤ (nx gs 1).1 0 := ((keepS.n1 1)).1
                  have ps455 : (nx (sN gs 3 1) 1).1 0 = (nx gs 1).1 0 := rfl
                  have ps456 : (nx (sN gs 3 1) 1).1 0 + 1 ≤ sx429.1 0 := (kp432).1
                  have ps457 : sx429.1 0 + 1 ≤ (nx sx429 1).1 0 := ((keepS.n1 1)).1
                  have cs458 : 0 ≤ (V443 33 gc).toInt := by have h9 : V443 33 (Int32.toNatClampNeg p0) = z410 := ((ajV443 33 (Int32.toNatClampNeg p0) rfl).trans (up2_s hV436)); rw [kgc] at h9; rw [h9]; omega
                  have cn459 : CNm V443 bq gs := CNm.ag cnm (show agr [(0, 7), (0, 8), (0, 48), (0, 50)] [33, 35, 36, 37, 38, 45, 46, 47] V V443 from (agr.tr (agr.up (agr.tr (agr.tr agr.rf ajV390 (by decide) (by decide)) ajV422 (by decide) (by decide)) hV436 rfl) ajV443 (by decide) (by decide))) (by decide) keepC.rf
                  have cn460 : CNm V443 bq (nx sx429 1) := CNm.mv cn459 (fun _ _ _ => rfl) (keepC.tr (keepC.tr (keepC.tr (keepC.tr (keepC.rf : keepC gs gs) (keepS.c (keepS.n1 1))) (keepC.tn (by decide) : keepC (nx gs 1) (nx (sN gs 3 1) 1))) (keepS.c kp432)) (keepS.c (keepS.n1 1)))
                  have rw461 : RoV 35 bq V V443 := (fun k hk => ((ajV443 35 k rfl).trans ((up2_o hV436 (by decide)).trans ((t418 k hk).trans ((ajV390 35 k rfl).trans rfl)))))
                  have rw462 : RoV 37 bq V V443 := (fun k hk => ((ajV443 37 k rfl).trans ((up2_o hV436 (by decide)).trans ((t419 k hk).trans ((ajV390 37 k rfl).trans rfl)))))
                  have rw463 : RoL 36 20 bq L L423 := (fun k hk => ((t420 k hk).trans rfl))
                  have rw464 : RoL 38 20 bq L L423 := (fun k hk => ((t421 k hk).trans rfl))
                  exact W.vret hx hb hr (fun t ht hW => ⟨⟨(V443, L423), rfl, ⟨hMV443, agV443, alL423, (Imp.mk (fun hp => have hp : (V443 0 8).toInt = 0 := hp; (show (V443 0 48).toInt ≤ 2 * (V443 0 7).toInt from by first | omega | ((try (have i_t413 := Imp.go t413 (by omega))); omega)))), (show (V443 0 48).toInt ≤ 8120 from by first | omega | ((try (have i_t413 := Imp.go t413 (by omega))); omega)), (Or.inl ⟨W0 rl447, (nx sx429 1), hr449, rl447, (by omega), (OWm.cl ow (keepS.tr (keepS.tr (keepS.rf : keepS (nx (sN gs 3 1) 1) 0 (nx (sN gs 3 1) 1)) kp432) (keepS.n1 1)) (Rc.ml (hr449 [])) (show V443 27 gc = V 27 gc from ((ajV443 27 _ rfl).trans ((up2_o hV436 (by decide)).trans ((ajV422 27 _ rfl).trans ((ajV390 27 _ rfl).trans rfl))))) (show V443 32 gc = V 32 gc from ((ajV443 32 _ rfl).trans ((up2_o hV436 (by decide)).trans ((ajV422 32 _ rfl).trans ((ajV390 32 _ rfl).trans rfl))))) cs458 (fun f hf => ((show agr [(0, 7), (0, 8), (0, 48), (0, 50)] [33, 35, 36, 37, 38, 45, 46, 47] V V443 from (agr.tr (agr.up (agr.tr (agr.tr agr.rf ajV390 (by decide) (by decide)) ajV422 (by decide) (by decide)) hV436 rfl) ajV443 (by decide) (by decide))) 34 _ rfl))), ((((keepS.n1 1)).2.2.1 2 (by decide)).trans (((kp432).2.2.1 2 (by decide)).trans ((rfl : (nx (sN gs 3 1) 1).2.1 2 = (nx gs 1).2.1 2).trans ((((keepS.n1 1)).2.2.1 2 (by decide)).trans (rfl : gs.2.1 2 = gs.2.1 2))))), ((congrArg (fun q9 => q9.1) ((keepS.n1 1)).2.2.2).trans ((congrArg (fun q9 => q9.1) (kp432).2.2.2).trans ((rfl : (nx (sN gs 3 1) 1).2.2.1 = (nx gs 1).2.2.1).trans ((congrArg (fun q9 => q9.1) ((keepS.n1 1)).2.2.2).trans (rfl : gs.2.2.1 = gs.2.2.1))))), cn460⟩), rw461, rw462, rw463, rw464⟩, by rw [ht]; exact hP, va_K.moved hW.alike hK, hD⟩, hS.F ht⟩) hS.2.2 dX12_member_193
                · skip
                  have kd465 : gT.1 (sx429.1 0) ≠ 59 := fun h9 => h446 (h9.trans (by decide))
                  have hb466 : ∀ k, Rc gT (Crun gs (Imember :: k)) (Cbad (V443 0 8).toInt) := fun k => Rc.go1 (hr433 k) ((tk_n kd465).trans (fl_eq rfl rl447))
                  have r467 : 0 ≤ ((V443 0 8)).toInt ∧ ((V443 0 8)).toInt ≤ 70000 := hMV443 0 8
                  have pq468 : (V443 0 48).toInt = ((V422 0 48)).toInt := congrArg Int32.toInt ((ajV443 0 48 rfl).trans (up2_o hV436 (by decide)))
                  have rw469 : RoV 35 bq V V443 := (fun k hk => ((ajV443 35 k rfl).trans ((up2_o hV436 (by decide)).trans ((t418 k hk).trans ((ajV390 35 k rfl).trans rfl)))))
                  have rw470 : RoV 37 bq V V443 := (fun k hk => ((ajV443 37 k rfl).trans ((up2_o hV436 (by decide)).trans ((t419 k hk).trans ((ajV390 37 k rfl).trans rfl)))))
                  have rw471 : RoL 36 20 bq L L423 := (fun k hk => ((t420 k hk).trans rfl))
                  have rw472 : RoL 38 20 bq L L423 := (fun k hk => ((t421 k hk).trans rfl))
                  exact W.vret hx hb hr (fun t ht hW => ⟨⟨(V443, L423), rfl, ⟨hMV443, agV443, alL423, (Imp.mk (fun hp => have hp : (V443 0 8).toInt = 0 := hp; (show (V443 0 48).toInt ≤ 2 * (V443 0 7).toInt from by first | omega | ((try (have i_t413 := Imp.go t413 (by omega))); omega)))), (show (V443 0 48).toInt ≤ 8120 from by first | omega | ((try (have i_t413 := Imp.go t413 (by omega))); omega)), (Or.inr ⟨(show 1 ≤ (V443 0 8).toInt from by omega), hb466⟩), rw469, rw470, rw471, rw472⟩, by rw [ht]; exact hP, va_K.moved hW.alike hK, hD⟩, hS.F ht⟩) hS.2.2 dX12_member_193
              · skip
                have hb473 : ∀ k, Rc gT (Crun gs (Imember :: k)) (Cbad (V422 0 8).toInt) := fun k => (hr397 k).tr (h430 (Itake 59 :: Imember :: k))
                refine va_iast (D := D) (i := p0) (x := z410) hx hb hK hP hD hS 26 25 rfl rfl (i_in (a := p0.toInt) rfl (by first | omega | ((try (have i_t413 := Imp.go t413 (by omega))); omega))) dX12_member_95 (fun H locs hP hD hS => ?_)
                obtain ⟨V474, hV474⟩ : ∃ z, z = up2 V422 33 (Int32.toNatClampNeg p0) z410 := ⟨_, rfl⟩
                have hP : va_P D vwCl (mw ad kk ks.1 V474 L423) H := by rw [hV474]; exact hP
                have hD : va_D A (mw ad kk ks.1 V474 L423) := by rw [hV474]; exact hD
                have hMV474 : rgd bM V474 := hMV422.put hV474 (i_full _)
                have agV474 : agr [(0, 7), (0, 8), (0, 48), (0, 50)] [27, 28, 29, 30, 31, 32, 33, 34, 35, 36, 37, 38, 45, 46, 47] V V474 := agV422.up hV474 rfl
                refine lv_goto (tgt := 187) hx hb dX12_member_96 (by decide) ?_
                refine lv_aload_n hx hb dX12_member_187 rfl (lv_at hl 0 rfl) ?_
                refine lv_bipush (v := 59) hx hb dX12_member_188 (by decide) ?_
                have r475 : Int32.toInt 59 = 59 := by decide
                have pq476 : (V474 0 8).toInt = ((V422 0 8)).toInt := congrArg Int32.toInt (up2_o hV474 (by decide))
                refine gA_void (gA_runV (As := [.int 59]) (rest := []) (ci := 12) (q0 := 0) hx hb hml hown hg hP hD hK hS hA hnw hgk (s_takeSignB l D ks H.size ad kk V474 L423 59 hMV474 (show 1 ≤ (V474 0 8).toInt from by first | omega | ((try (have i_t413 := Imp.go t413 (by omega))); omega))) w2079 w2081 w96 w172 w2082 rfl rfl hdV_yX12_takeSign ⟨Nat.le_of_ble_eq_true rfl, Nat.le_of_ble_eq_true rfl⟩ rfl hl.1 rfl (Nat.le_of_ble_eq_true rfl) dX12_member_190 ⟨Nat.le_of_ble_eq_true rfl, Nat.le_of_ble_eq_true rfl⟩) hP hD hK hS hA (fun u478 H locs w479 hP hD hK hS => ?_)
                obtain ⟨V481, L482⟩ := u478
                obtain ⟨hMV481, ajV481, axL482, t480⟩ := w479
                have axL482 : L423 = L482 := Eq.symm axL482
                subst axL482
                have hP : va_P D vwCl (mw ad kk ks.1 V481 L423) H := hP
                have hD : va_D A (mw ad kk ks.1 V481 L423) := hD
                have hMV481 : rgd bM V481 := hMV481
                have ajV481 : agr [(0, 7), (0, 8)] [] V474 V481 := ajV481
                have agV481 : agr [(0, 7), (0, 8), (0, 48), (0, 50)] [27, 28, 29, 30, 31, 32, 33, 34, 35, 36, 37, 38, 45, 46, 47] V V481 := agV474.tr ajV481 (by decide) (by decide)
                have t480 : (V481 0 8).toInt = (V474 0 8).toInt := t480
                have r483 : 0 ≤ ((V481 0 8)).toInt ∧ ((V481 0 8)).toInt ≤ 70000 := hMV481 0 8
                have pq484 : (V481 0 48).toInt = ((V422 0 48)).toInt := congrArg Int32.toInt ((ajV481 0 48 rfl).trans (up2_o hV474 (by decide)))
                have rw485 : RoV 35 bq V V481 := (fun k hk => ((ajV481 35 k rfl).trans ((up2_o hV474 (by decide)).trans ((t418 k hk).trans ((ajV390 35 k rfl).trans rfl)))))
                have rw486 : RoV 37 bq V V481 := (fun k hk => ((ajV481 37 k rfl).trans ((up2_o hV474 (by decide)).trans ((t419 k hk).trans ((ajV390 37 k rfl).trans rfl)))))
                have rw487 : RoL 36 20 bq L L423 := (fun k hk => ((t420 k hk).trans rfl))
                have rw488 : RoL 38 20 bq L L423 := (fun k hk => ((t421 k hk).trans rfl))
                exact W.vret hx hb hr (fun t ht hW => ⟨⟨(V481, L423), rfl, ⟨hMV481, agV481, alL423, (Imp.mk (fun hp => have hp : (V481 0 8).toInt = 0 := hp; (show (V481 0 48).toInt ≤ 2 * (V481 0 7).toInt from by first | omega | ((try (have i_t413 := Imp.go t413 (by omega))); omega)))), (show (V481 0 48).toInt ≤ 8120 from by first | omega | ((try (have i_t413 := Imp.go t413 (by omega))); omega)), (Or.inr ⟨(show 1 ≤ (V481 0 8).toInt from by omega), (fun k => by rw [show (V481 0 8).toInt = (V422 0 8).toInt from by omega]; exact hb473 k)⟩), rw485, rw486, rw487, rw488⟩, by rw [ht]; exact hP, va_K.moved hW.alike hK, hD⟩, hS.F ht⟩) hS.2.2 dX12_member_193
          · skip
            have kd489 : gT.1 (gs.1 0) ≠ 141 := fun h9 => h393 (h9.trans (by decide))
            have fz490 := RelM.rg rl394
            have pq491 : (V390 0 8).toInt = ((V 0 8)).toInt := congrArg Int32.toInt (ajV390 0 8 rfl)
            have r492 : 0 ≤ ((V 0 8)).toInt ∧ ((V 0 8)).toInt ≤ 70000 := hMV 0 8
            refine lv_if_eq (tgt := 99) hx hb dX12_member_83 (by decide) (fun c493 => ?_) (fun c493 => ?_)
            · skip
              have f494 : z386.toInt = 0 := b_eq rfl (by decide) c493
              refine lv_aload_n hx hb dX12_member_99 rfl (lv_at hl 0 rfl) ?_
              refine lv_bipush (v := 14) hx hb dX12_member_100 (by decide) ?_
              have r495 : Int32.toInt 14 = 14 := by decide
              refine gA_int (gA_runV (As := [.int 14]) (rest := []) (ci := 12) (q0 := 0) hx hb hml hown hg hP hD hK hS hA hnw hgk (s_hasWordA l D ks H.size ad kk V390 L 14 (bq) (gn) (gT) (gs) (gl) hMV390 (by decide) rl394) w2055 w2057 w90 w172 w2058 rfl rfl hdV_yX12_hasWord ⟨Nat.le_of_ble_eq_true rfl, Nat.le_of_ble_eq_true rfl⟩ rfl hl.1 rfl (Nat.le_of_ble_eq_true rfl) dX12_member_102 ⟨Nat.le_of_ble_eq_true rfl, Nat.le_of_ble_eq_true rfl⟩) hP hD hK hS hA (fun z496 u497 H locs w498 hP hD hK hS => ?_)
              obtain ⟨V500, L501⟩ := u497
              obtain ⟨hMV500, ajV500, axL501, rgz496, t499⟩ := w498
              have axL501 : L = L501 := Eq.symm axL501
              subst axL501
              have hP : va_P D vwCl (mw ad kk ks.1 V500 L) H := hP
              have hD : va_D A (mw ad kk ks.1 V500 L) := hD
              have hMV500 : rgd bM V500 := hMV500
              have ajV500 : agr [(0, 7)] [] V390 V500 := ajV500
              have agV500 : agr [(0, 7), (0, 8), (0, 48), (0, 50)] [27, 28, 29, 30, 31, 32, 33, 34, 35, 36, 37, 38, 45, 46, 47] V V500 := agV390.tr ajV500 (by decide) (by decide)
              have rgz496 : 0 ≤ z496.toInt ∧ z496.toInt ≤ 1 := rgz496
              have t499 : (z496.toInt = 1 ∧ (gT).1 ((gs).1 0) = 128 + (Int32.toInt 14) ∧ RelM V500 L (bq) (gn) (gT) (nx (gs) 1) (gl)) ∨ (z496.toInt = 0 ∧ (gT).1 ((gs).1 0) ≠ 128 + (Int32.toInt 14) ∧ RelM V500 L (bq) (gn) (gT) (gs) (gl)) := t499
              rcases t499 with ⟨q502, h503, rl504⟩ | ⟨q502, h503, rl504⟩
              · skip
                have kd505 : gT.1 (gs.1 0) = 142 := h503.trans (by decide)
                have hr506 : ∀ k, Rc gT (Crun gs (Imember :: k)) (Crun gs (Imember :: k)) := fun k => Rc.rf
                have hr507 : ∀ k, Rc gT (Crun gs (Imember :: k)) (Crun (nx gs 1) (ImethN :: Iexpr 0 :: Itake 59 :: Imember :: k)) := fun k => Rc.go1 (hr506 k) (mb_142 kd505)
                have ps508 : (nx gs 1).1 0 = gs.1 0 + 1 := rfl
                have fz509 := RelM.rg rl504
                have pq510 : (V500 0 8).toInt = ((V 0 8)).toInt := congrArg Int32.toInt ((ajV500 0 8 rfl).trans (ajV390 0 8 rfl))
                refine lv_if_eq (tgt := 182) hx hb dX12_member_105 (by decide) (fun c511 => ?_) (fun c511 => ?_)
                · skip
                  have f512 : z496.toInt = 0 := b_eq rfl (by decide) c511
                  exfalso; omega
                · skip
                  have f513 : z496.toInt ≠ 0 := b_neq rfl (by decide) c511
                  refine lv_aload_n hx hb dX12_member_108 rfl (lv_at hl 0 rfl) ?_
                  refine lv_aload_n hx hb dX12_member_109 rfl (lv_at hl 0 rfl) ?_
                  refine va_get (D := D) (ci := 12) (v := .ref (ad 36)) (C := RX12) (T := TX12) (N := 100) hx hb hg inX12 hown hK hP 0 rfl rfl 36 (by decide) (hg _ w1746) (fun _ h9 => h9) rfl dX12_member_110 ?_
                  refine lv_aload_n hx hb dX12_member_113 rfl (lv_at hl 0 rfl) ?_
                  refine va_get (D := D) (ci := 12) (v := .ref (ad 35)) (C := RX12) (T := TX12) (N := 100) hx hb hg inX12 hown hK hP 0 rfl rfl 35 (by decide) (hg _ w1745) (fun _ h9 => h9) rfl dX12_member_114 ?_
                  refine gA_int (gA_runV (As := [.ref (ad 36), .ref (ad 35)]) (rest := []) (ci := 12) (q0 := 0) hx hb hml hown hg hP hD hK hS hA hnw hgk (s_takeWordOf3 l D ks H.size ad kk V500 L (bq) (gn) (gT) ((nx gs 1)) (gl) hMV500 rl504) w2104 w2106 w102 w172 w2107 rfl rfl hdV_yX12_takeWordOf ⟨Nat.le_of_ble_eq_true rfl, Nat.le_of_ble_eq_true rfl⟩ rfl hl.1 rfl (Nat.le_of_ble_eq_true rfl) dX12_member_117 ⟨Nat.le_of_ble_eq_true rfl, Nat.le_of_ble_eq_true rfl⟩) hP hD hK hS hA (fun z514 u515 H locs w516 hP hD hK hS => ?_)
                  obtain ⟨V522, L523⟩ := u515
                  obtain ⟨hMV522, ajV522, axL523, rgz514, t517, t518, t519, t520, t521⟩ := w516
                  have alL523 : agL [27, 28, 29, 30, 31, 32, 33, 34, 35, 36, 37, 38, 45, 46, 47] L L523 := agL.tr alL axL523 (by decide)
                  have hP : va_P D vwCl (mw ad kk ks.1 V522 L523) H := hP
                  have hD : va_D A (mw ad kk ks.1 V522 L523) := hD
                  have hMV522 : rgd bM V522 := hMV522
                  have ajV522 : agr [(0, 7), (0, 8)] [35, 36, 37, 38] V500 V522 := ajV522
                  have agV522 : agr [(0, 7), (0, 8), (0, 48), (0, 50)] [27, 28, 29, 30, 31, 32, 33, 34, 35, 36, 37, 38, 45, 46, 47] V V522 := agV500.tr ajV522 (by decide) (by decide)
                  have rgz514 : (-1) ≤ z514.toInt ∧ z514.toInt ≤ 19 := rgz514
                  have t517 : KmS (mthW (gT) ((nx gs 1)) 3) (V522 0 8).toInt (fun x9 => RelM V522 L523 (bq) (gn) (gT) x9.2 (gl) ∧ z514.toInt = ((x9.1 : Nat) : Int) ∧ x9.1 < 20 ∧ keepS ((nx gs 1)) 1 x9.2 ∧ MTX (gT) ((nx gs 1)) 3 x9) := t517
                  have t518 : RoV 35 (bq) V500 V522 := t518
                  have t519 : RoV 37 (bq) V500 V522 := t519
                  have t520 : RoL 36 20 (bq) L L523 := t520
                  have t521 : RoL 38 20 (bq) L L523 := t521
                  rcases t517 with ⟨q524, mx525, h526, rl527, hf528, hb529, kp530, mt531⟩ | ⟨q524, h526⟩
                  · skip
                    have ps532 := kp530.1
                    have fz533 := RelM.rg rl527
                    have r534 : 0 ≤ ((V522 0 8)).toInt ∧ ((V522 0 8)).toInt ≤ 70000 := hMV522 0 8
                    refine lv_istore_n (lv' := [(2, .int z514), (0, .ref (ad 0)), (1, .int p0)]) hx hb dX12_member_120 rfl hl (by decide) rfl (fun ls hl => ?_)
                    refine lv_aload_n hx hb dX12_member_121 rfl (lv_at hl 1 rfl) ?_
                    refine va_get (D := D) (ci := 12) (v := .int (V522 0 8)) (C := RX12) (T := TX12) (N := 100) hx hb hg inX12 hown hK hP 0 rfl rfl 8 (by decide) (hg _ w1718) (fun _ h9 => h9) rfl dX12_member_122 ?_
                    refine lv_if_ne (tgt := 157) hx hb dX12_member_125 (by decide) (fun c535 => ?_) (fun c535 => ?_)
                    · skip
                      have f536 : ((V522 0 8)).toInt ≠ 0 := b_neq rfl (by decide) c535
                      exfalso; omega
                    · skip
                      have f537 : ((V522 0 8)).toInt = 0 := b_eq rfl (by decide) c535
                      refine lv_aload_n hx hb dX12_member_128 rfl (lv_at hl 1 rfl) ?_
                      refine va_get (D := D) (ci := 12) (v := .ref (ad 34)) (C := RX12) (T := TX12) (N := 100) hx hb hg inX12 hown hK hP 0 rfl rfl 34 (by decide) (hg _ w1744) (fun _ h9 => h9) rfl dX12_member_129 ?_
                      refine lv_bipush (v := 20) hx hb dX12_member_132 (by decide) ?_
                      refine lv_iload_n hx hb dX12_member_134 rfl (lv_at hl 2 rfl) ?_
                      refine lv_imul hx hb dX12_member_135 ?_
                      refine lv_topi (fun z538 ez538 => ?_)
                      have hz538 : z538.toInt = 20 * p0.toInt := i_mul ez538 (by decide) rfl (by omega)
                      refine lv_iload_n hx hb dX12_member_136 rfl (lv_at hl 0 rfl) ?_
                      refine lv_iadd hx hb dX12_member_137 ?_
                      refine lv_topi (fun z539 ez539 => ?_)
                      have hz539 : z539.toInt = z538.toInt + z514.toInt := i_add ez539 rfl rfl (by omega)
                      refine va_iald (D := D) (i := z539) hx hb hK hP 27 26 rfl rfl (i_in (a := z539.toInt) rfl (by omega)) dX12_member_138 ?_
                      refine g_top (v := (V 34 (Int32.toNatClampNeg z539))) ((ajV522 34 (Int32.toNatClampNeg z539) rfl).trans ((ajV500 34 (Int32.toNatClampNeg z539) rfl).trans (ajV390 34 (Int32.toNatClampNeg z539) rfl))) ?_
                      have kc541 : Int32.toNatClampNeg z539 = 20 * gc + mx525.1 := by have h9 := i_clamp (x := z539) rfl (by omega); omega
                      have ma540 : (V 34 (Int32.toNatClampNeg z539)).toInt = (V 34 (20 * gc + mx525.1)).toInt := by rw [kc541]
                      have ow5 := ow.2.2.2.2.1 mx525.1 hb529
                      have oS : (nx gs 1).2.2.2 = gs.2.2.2 := congrArg (fun q9 => q9.2) ((keepS.tr (keepS.rf : keepS gs 0 gs) (keepS.n1 1))).2.2.2
                      have oL : (nx gs 1).2.1 3 = gs.2.1 3 := rfl
                      refine lv_if_lt (tgt := 157) hx hb dX12_member_139 (by decide) (fun c542 => ?_) (fun c542 => ?_)
                      · skip
                        have f543 : ((V 34 (Int32.toNatClampNeg z539))).toInt < 0 := b_lt rfl (by decide) c542
                        refine lv_aload_n hx hb dX12_member_157 rfl (lv_at hl 1 rfl) ?_
                        refine va_get (D := D) (ci := 12) (v := .int (V522 0 8)) (C := RX12) (T := TX12) (N := 100) hx hb hg inX12 hown hK hP 0 rfl rfl 8 (by decide) (hg _ w1718) (fun _ h9 => h9) rfl dX12_member_158 ?_
                        refine lv_if_ne (tgt := 179) hx hb dX12_member_161 (by decide) (fun c544 => ?_) (fun c544 => ?_)
                        · skip
                          have f545 : ((V522 0 8)).toInt ≠ 0 := b_neq rfl (by decide) c544
                          exfalso; omega
                        · skip
                          have f546 : ((V522 0 8)).toInt = 0 := b_eq rfl (by decide) c544
                          have nt9 : mx525.1 ∉ (nx gs 1).2.2.2 := by rw [oS]; exact fun q9 => absurd (ow5.mpr q9) (by omega)
                          have hr547 : ∀ k, Rc gT (Crun gs (Imember :: k)) (Crun (sT mx525.2 (mx525.1 :: (nx gs 1).2.2.2)) (Iexpr 0 :: Itake 59 :: Imember :: k)) := fun k => Rc.go1 (hr507 k) (mn_y (MTX.new mt531 h526 nt9))
                          have ps548 : (sT mx525.2 (mx525.1 :: (nx gs 1).2.2.2)).1 0 = mx525.2.1 0 := rfl
                          have rl549 : RelM V522 L523 bq gn gT (sT mx525.2 (mx525.1 :: (nx gs 1).2.2.2)) gl := RelM.tl rl527
                          refine lv_aload_n hx hb dX12_member_164 rfl (lv_at hl 1 rfl) ?_
                          refine va_get (D := D) (ci := 12) (v := .ref (ad 34)) (C := RX12) (T := TX12) (N := 100) hx hb hg inX12 hown hK hP 0 rfl rfl 34 (by decide) (hg _ w1744) (fun _ h9 => h9) rfl dX12_member_165 ?_
                          refine lv_bipush (v := 20) hx hb dX12_member_168 (by decide) ?_
                          refine lv_iload_n hx hb dX12_member_170 rfl (lv_at hl 2 rfl) ?_
                          refine lv_imul hx hb dX12_member_171 ?_
                          refine lv_topi (fun z550 ez550 => ?_)
                          have hz550 : z550.toInt = 20 * p0.toInt := i_mul ez550 (by decide) rfl (by omega)
                          refine lv_iload_n hx hb dX12_member_172 rfl (lv_at hl 0 rfl) ?_
                          refine lv_iadd hx hb dX12_member_173 ?_
                          refine lv_topi (fun z551 ez551 => ?_)
                          have hz551 : z551.toInt = z550.toInt + z514.toInt := i_add ez551 rfl rfl (by omega)
                          refine lv_aload_n hx hb dX12_member_174 rfl (lv_at hl 1 rfl) ?_
                          have pq552 : (V522 0 48).toInt = ((V 0 48)).toInt := congrArg Int32.toInt ((ajV522 0 48 rfl).trans ((ajV500 0 48 rfl).trans (ajV390 0 48 rfl)))
                          have pq553 : (V522 0 51).toInt = ((V 0 51)).toInt := congrArg Int32.toInt ((ajV522 0 51 rfl).trans ((ajV500 0 51 rfl).trans (ajV390 0 51 rfl)))
                          have pq554 : (V522 0 52).toInt = ((V 0 52)).toInt := congrArg Int32.toInt ((ajV522 0 52 rfl).trans ((ajV500 0 52 rfl).trans (ajV390 0 52 rfl)))
                          refine gA_int (gA_runV (As := []) (rest := [.int z551, .ref (ad 34)]) (ci := 12) (q0 := 0) hx hb hml hown hg hP hD hK hS hA hnw hgk (s_codeA l D ks H.size ad kk V522 L523 (bq) (gn) (gT) ((sT mx525.2 (mx525.1 :: (nx gs 1).2.2.2))) (gl) hMV522 rl549 (show (V522 0 48).toInt ≤ 2 * (V522 0 7).toInt from by omega) (EM.o2 (o := gc) (show (V522 27 gc).toInt = ((mx525.2.1 1 : Nat) : Int) from by rw [(by rw [(funext (fun q => ajV522 27 q rfl) : V522 27 = V500 27), (funext (fun q => ajV500 27 q rfl) : V500 27 = V390 27), (funext (fun q => ajV390 27 q rfl) : V390 27 = V 27)] : V522 27 = V 27)]; exact (by rw [((keepS.tr (keepS.tr (keepS.rf : keepS gs 0 gs) (keepS.n1 1)) kp530)).2.1 1 (by decide)]; exact ow.1)) (show mx525.2.1 4 = 0 from (by rw [((keepS.tr (keepS.tr (keepS.rf : keepS gs 0 gs) (keepS.n1 1)) kp530)).2.1 4 (by decide)]; exact ow.2.2.2.1)) (by omega) (by omega))) w2116 w2118 w105 w172 w2119 rfl rfl hdV_yX12_code ⟨Nat.le_of_ble_eq_true rfl, Nat.le_of_ble_eq_true rfl⟩ rfl hl.1 rfl (Nat.le_of_ble_eq_true rfl) dX12_member_175 ⟨Nat.le_of_ble_eq_true rfl, Nat.le_of_ble_eq_true rfl⟩) hP hD hK hS hA (fun z555 u556 H locs w557 hP hD hK hS => ?_)
                          obtain ⟨V567, L568⟩ := u556
                          obtain ⟨hMV567, ajV567, axL568, rgz555, t558, t559, t560, t561, t562, t563, t564, t565, t566⟩ := w557
                          have alL568 : agL [27, 28, 29, 30, 31, 32, 33, 34, 35, 36, 37, 38, 45, 46, 47] L L568 := agL.tr alL523 axL568 (by decide)
                          have hP : va_P D vwCl (mw ad kk ks.1 V567 L568) H := hP
                          have hD : va_D A (mw ad kk ks.1 V567 L568) := hD
                          have hMV567 : rgd bM V567 := hMV567
                          have ajV567 : agr [(0, 7), (0, 8), (0, 48), (0, 50)] [35, 36, 37, 38, 45, 46, 47] V522 V567 := ajV567
                          have agV567 : agr [(0, 7), (0, 8), (0, 48), (0, 50)] [27, 28, 29, 30, 31, 32, 33, 34, 35, 36, 37, 38, 45, 46, 47] V V567 := agV522.tr ajV567 (by decide) (by decide)
                          have rgz555 : 0 ≤ z555.toInt ∧ z555.toInt ≤ 20000 := rgz555
                          have t558 : Imp ((V567 0 8).toInt = 0) ((V567 0 48).toInt - (V522 0 48).toInt ≤ 2 * ((V567 0 7).toInt - (V522 0 7).toInt) + 1) := t558
                          have t559 : (V567 0 48).toInt ≤ 8060 := t559
                          have t560 : (V522 0 48).toInt ≤ (V567 0 48).toInt := t560
                          have t561 : z555.toInt = (V522 0 49).toInt + (V522 0 48).toInt := t561
                          have t562 : RdM (gT) ((sT mx525.2 (mx525.1 :: (nx gs 1).2.2.2))) (fun k => Iexpr 0 :: k) (fun k => k) (V567 0 8).toInt (fun s9 => RelM V567 L568 (bq) (gn) (gT) s9 (gl) ∧ keepS ((sT mx525.2 (mx525.1 :: (nx gs 1).2.2.2))) 1 s9) := t562
                          have t563 : RoV 35 (bq) V522 V567 := t563
                          have t564 : RoV 37 (bq) V522 V567 := t564
                          have t565 : RoL 36 20 (bq) L523 L568 := t565
                          have t566 : RoL 38 20 (bq) L523 L568 := t566
                          have r569 : 0 ≤ ((V567 0 48)).toInt ∧ ((V567 0 48)).toInt ≤ 10000 := hMV567 0 48
                          have r570 : 0 ≤ ((V567 0 8)).toInt ∧ ((V567 0 8)).toInt ≤ 70000 := hMV567 0 8
                          have pq571 : (V522 0 49).toInt = ((V 0 49)).toInt := congrArg Int32.toInt ((ajV522 0 49 rfl).trans ((ajV500 0 49 rfl).trans (ajV390 0 49 rfl)))
                          have r572 : 0 ≤ ((V 0 49)).toInt ∧ ((V 0 49)).toInt ≤ 10000 := hMV 0 49
                          rcases t562 with ⟨q573, sx574, h575, rl576, kp577⟩ | ⟨q573, h575⟩
                          · skip
                            have hr578 : ∀ k, Rc gT (Crun gs (Imember :: k)) (Crun sx574 (Itake 59 :: Imember :: k)) := fun k => (hr547 k).tr (h575 (Itake 59 :: Imember :: k))
                            have fz579 := RelM.rg rl576
                            have ps580 := (kp577).1
                            refine va_iast (D := D) (i := z551) (x := z555) hx hb hK hP hD hS 27 26 rfl rfl (i_in (a := z551.toInt) rfl (by first | omega | ((try (have i_t558 := Imp.go t558 (by omega))); omega))) dX12_member_178 (fun H locs hP hD hS => ?_)
                            obtain ⟨V581, hV581⟩ : ∃ z, z = up2 V567 34 (Int32.toNatClampNeg z551) z555 := ⟨_, rfl⟩
                            have hP : va_P D vwCl (mw ad kk ks.1 V581 L568) H := by rw [hV581]; exact hP
                            have hD : va_D A (mw ad kk ks.1 V581 L568) := by rw [hV581]; exact hD
                            have hMV581 : rgd bM V581 := hMV567.put hV581 (i_full _)
                            have agV581 : agr [(0, 7), (0, 8), (0, 48), (0, 50)] [27, 28, 29, 30, 31, 32, 33, 34, 35, 36, 37, 38, 45, 46, 47] V V581 := agV567.up hV581 rfl
                            refine lv_goto (tgt := 187) hx hb dX12_member_179 (by decide) ?_
                            refine lv_aload_n hx hb dX12_member_187 rfl (lv_at hl 1 rfl) ?_
                            refine lv_bipush (v := 59) hx hb dX12_member_188 (by decide) ?_
                            have rl582 : RelM V581 L568 bq gn gT sx574 gl := RelM.ag rl576 (show agr [] [34] V567 V581 from (agr.up agr.rf hV581 rfl)) (by decide) (show agL [] L568 L568 from agL.rf) (by decide)
                            have r583 : Int32.toInt 59 = 59 := by decide
                            refine gA_void (gA_runV (As := [.int 59]) (rest := []) (ci := 12) (q0 := 0) hx hb hml hown hg hP hD hK hS hA hnw hgk (s_takeSignA l D ks H.size ad kk V581 L568 59 (bq) (gn) (gT) (sx574) (gl) hMV581 rl582 (sg_yes (j := 59) (by decide) (by decide) (by decide))) w2079 w2081 w96 w172 w2082 rfl rfl hdV_yX12_takeSign ⟨Nat.le_of_ble_eq_true rfl, Nat.le_of_ble_eq_true rfl⟩ rfl hl.1 rfl (Nat.le_of_ble_eq_true rfl) dX12_member_190 ⟨Nat.le_of_ble_eq_true rfl, Nat.le_of_ble_eq_true rfl⟩) hP hD hK hS hA (fun u585 H locs w586 hP hD hK hS => ?_)
                            obtain ⟨V588, L589⟩ := u585
                            obtain ⟨hMV588, ajV588, axL589, t587⟩ := w586
                            have axL589 : L568 = L589 := Eq.symm axL589
                            subst axL589
                            have hP : va_P D vwCl (mw ad kk ks.1 V588 L568) H := hP
                            have hD : va_D A (mw ad kk ks.1 V588 L568) := hD
                            have hMV588 : rgd bM V588 := hMV588
                            have ajV588 : agr [(0, 7), (0, 8)] [] V581 V588 := ajV588
                            have agV588 : agr [(0, 7), (0, 8), (0, 48), (0, 50)] [27, 28, 29, 30, 31, 32, 33, 34, 35, 36, 37, 38, 45, 46, 47] V V588 := agV581.tr ajV588 (by decide) (by decide)
                            have t587 : ((V588 0 8).toInt = 0 ∧ (gT).1 ((sx574).1 0) = (Int32.toInt 59) ∧ RelM V588 L568 (bq) (gn) (gT) (nx (sx574) 1) (gl)) ∨ (1 ≤ (V588 0 8).toInt ∧ (gT).1 ((sx574).1 0) ≠ (Int32.toInt 59) ∧ (V588 0 8).toInt = 1 + 16 * (gT).2.2 ((sx574).1 0)) := t587
                            rcases t587 with ⟨q590, h591, rl592⟩ | ⟨q590, h591, rl592⟩
                            · skip
                              have kd593 : gT.1 (sx574.1 0) = 59 := h591.trans (by decide)
                              have hr594 : ∀ k, Rc gT (Crun gs (Imember :: k)) (Crun (nx sx574 1) (Imember :: k)) := fun k => Rc.go1 (hr578 k) (tk_y kd593)
                              have ps595 : (nx sx574 1).1 0 = sx574.1 0 + 1 := rfl
                              have fz596 := RelM.rg rl592
                              have r597 : 0 ≤ ((V588 0 8)).toInt ∧ ((V588 0 8)).toInt ≤ 70000 := hMV588 0 8
                              have pq598 : (V588 0 48).toInt = ((V567 0 48)).toInt := congrArg Int32.toInt ((ajV588 0 48 rfl).trans (up2_o hV581 (by decide)))
                              have ps599 : gs.1 0 + 1 ≤ (nx gs 1).1 0 := ((keepS.n1 1)).1
                              have ps600 : (nx gs 1).1 0 + 1 ≤ mx525.2.1 0 := (kp530).1
                              have ps601 : (sT mx525.2 (mx525.1 :: (nx gs 1).2.2.2)).1 0 = mx525.2.1 0 := rfl
                              have ps602 : (sT mx525.2 (mx525.1 :: (nx gs 1).2.2.2)).1 0 + 1 ≤ sx574.1 0 := (kp577).1
                              have ps603 : sx574.1 0 + 1 ≤ (nx sx574 1).1 0 := ((keepS.n1 1)).1
                              have k34 : (Int32.toNatClampNeg z551) = 20 * gc + mx525.1 := by have h9 := i_clamp (x := z551) rfl (by omega); omega
                              have cs604 : 0 ≤ (V588 34 (20 * gc + mx525.1)).toInt := by have h9 : V588 34 (Int32.toNatClampNeg z551) = z555 := ((ajV588 34 (Int32.toNatClampNeg z551) rfl).trans (up2_s hV581)); rw [k34] at h9; rw [h9]; omega
                              have cn605 : CNm V588 bq gs := CNm.ag cnm (show agr [(0, 7), (0, 8), (0, 48), (0, 50)] [34, 35, 36, 37, 38, 45, 46, 47] V V588 from (agr.tr (agr.up (agr.tr (agr.tr (agr.tr (agr.tr agr.rf ajV390 (by decide) (by decide)) ajV500 (by decide) (by decide)) ajV522 (by decide) (by decide)) ajV567 (by decide) (by decide)) hV581 rfl) ajV588 (by decide) (by decide))) (by decide) keepC.rf
                              have cn606 : CNm V588 bq (nx sx574 1) := CNm.mv cn605 (fun _ _ _ => rfl) (keepC.tr (keepC.tr (keepC.tr (keepC.tr (keepC.tr (keepC.rf : keepC gs gs) (keepS.c (keepS.n1 1))) (keepS.c kp530)) (keepC.st : keepC mx525.2 (sT mx525.2 (mx525.1 :: (nx gs 1).2.2.2)))) (keepS.c kp577)) (keepS.c (keepS.n1 1)))
                              have rw607 : RoV 35 bq V V588 := (fun k hk => ((ajV588 35 k rfl).trans ((up2_o hV581 (by decide)).trans ((t563 k hk).trans ((t518 k hk).trans ((ajV500 35 k rfl).trans ((ajV390 35 k rfl).trans rfl)))))))
                              have rw608 : RoV 37 bq V V588 := (fun k hk => ((ajV588 37 k rfl).trans ((up2_o hV581 (by decide)).trans ((t564 k hk).trans ((t519 k hk).trans ((ajV500 37 k rfl).trans ((ajV390 37 k rfl).trans rfl)))))))
                              have rw609 : RoL 36 20 bq L L568 := (fun k hk => ((t565 k hk).trans ((t520 k hk).trans rfl)))
                              have rw610 : RoL 38 20 bq L L568 := (fun k hk => ((t566 k hk).trans ((t521 k hk).trans rfl)))
                              exact W.vret hx hb hr (fun t ht hW => ⟨⟨(V588, L568), rfl, ⟨hMV588, agV588, alL568, (Imp.mk (fun hp => have hp : (V588 0 8).toInt = 0 := hp; (show (V588 0 48).toInt ≤ 2 * (V588 0 7).toInt from by first | omega | ((try (have i_t558 := Imp.go t558 (by omega))); omega)))), (show (V588 0 48).toInt ≤ 8120 from by first | omega | ((try (have i_t558 := Imp.go t558 (by omega))); omega)), (Or.inl ⟨W0 rl592, (nx sx574 1), hr594, rl592, (by omega), (OWm.mt (m := 1) ow (keepS.le (keepS.tr (keepS.rf : keepS gs 0 gs) (keepS.n1 1)) (by decide)) (Nat.le_refl _) kp530 (MTX.le mt531).1 (MTX.le mt531).2 (keepS.le (keepS.tr (keepS.tr (keepS.rf : keepS (sT mx525.2 (mx525.1 :: (nx gs 1).2.2.2)) 0 (sT mx525.2 (mx525.1 :: (nx gs 1).2.2.2))) kp577) (keepS.n1 1)) (by decide)) (show (mx525.2.2.1 3).length ≤ ((nx sx574 1).2.1 3).length from by have h9 := Rc.ml (h575 []); exact h9) (show V588 27 gc = V 27 gc from ((ajV588 27 _ rfl).trans ((up2_o hV581 (by decide)).trans ((ajV567 27 _ rfl).trans ((ajV522 27 _ rfl).trans ((ajV500 27 _ rfl).trans ((ajV390 27 _ rfl).trans rfl))))))) (show V588 32 gc = V 32 gc from ((ajV588 32 _ rfl).trans ((up2_o hV581 (by decide)).trans ((ajV567 32 _ rfl).trans ((ajV522 32 _ rfl).trans ((ajV500 32 _ rfl).trans ((ajV390 32 _ rfl).trans rfl))))))) (show V588 33 gc = V 33 gc from ((ajV588 33 _ rfl).trans ((up2_o hV581 (by decide)).trans ((ajV567 33 _ rfl).trans ((ajV522 33 _ rfl).trans ((ajV500 33 _ rfl).trans ((ajV390 33 _ rfl).trans rfl))))))) cs604 (fun f hf hne => ((ajV588 34 _ rfl).trans ((up2_k hV581 (by omega)).trans ((ajV567 34 _ rfl).trans ((ajV522 34 _ rfl).trans ((ajV500 34 _ rfl).trans ((ajV390 34 _ rfl).trans rfl)))))))), ((((keepS.n1 1)).2.2.1 2 (by decide)).trans (((kp577).2.2.1 2 (by decide)).trans ((rfl : (sT mx525.2 (mx525.1 :: (nx gs 1).2.2.2)).2.1 2 = mx525.2.2.1 2).trans (((kp530).2.2.1 2 (by decide)).trans ((((keepS.n1 1)).2.2.1 2 (by decide)).trans (rfl : gs.2.1 2 = gs.2.1 2)))))), ((congrArg (fun q9 => q9.1) ((keepS.n1 1)).2.2.2).trans ((congrArg (fun q9 => q9.1) (kp577).2.2.2).trans ((rfl : (sT mx525.2 (mx525.1 :: (nx gs 1).2.2.2)).2.2.1 = mx525.2.2.2.1).trans ((congrArg (fun q9 => q9.1) (kp530).2.2.2).trans ((congrArg (fun q9 => q9.1) ((keepS.n1 1)).2.2.2).trans (rfl : gs.2.2.1 = gs.2.2.1)))))), cn606⟩), rw607, rw608, rw609, rw610⟩, by rw [ht]; exact hP, va_K.moved hW.alike hK, hD⟩, hS.F ht⟩) hS.2.2 dX12_member_193
                            · skip
                              have kd611 : gT.1 (sx574.1 0) ≠ 59 := fun h9 => h591 (h9.trans (by decide))
                              have hb612 : ∀ k, Rc gT (Crun gs (Imember :: k)) (Cbad (V588 0 8).toInt) := fun k => Rc.go1 (hr578 k) ((tk_n kd611).trans (fl_eq rfl rl592))
                              have r613 : 0 ≤ ((V588 0 8)).toInt ∧ ((V588 0 8)).toInt ≤ 70000 := hMV588 0 8
                              have pq614 : (V588 0 48).toInt = ((V567 0 48)).toInt := congrArg Int32.toInt ((ajV588 0 48 rfl).trans (up2_o hV581 (by decide)))
                              have rw615 : RoV 35 bq V V588 := (fun k hk => ((ajV588 35 k rfl).trans ((up2_o hV581 (by decide)).trans ((t563 k hk).trans ((t518 k hk).trans ((ajV500 35 k rfl).trans ((ajV390 35 k rfl).trans rfl)))))))
                              have rw616 : RoV 37 bq V V588 := (fun k hk => ((ajV588 37 k rfl).trans ((up2_o hV581 (by decide)).trans ((t564 k hk).trans ((t519 k hk).trans ((ajV500 37 k rfl).trans ((ajV390 37 k rfl).trans rfl)))))))
                              have rw617 : RoL 36 20 bq L L568 := (fun k hk => ((t565 k hk).trans ((t520 k hk).trans rfl)))
                              have rw618 : RoL 38 20 bq L L568 := (fun k hk => ((t566 k hk).trans ((t521 k hk).trans rfl)))
                              exact W.vret hx hb hr (fun t ht hW => ⟨⟨(V588, L568), rfl, ⟨hMV588, agV588, alL568, (Imp.mk (fun hp => have hp : (V588 0 8).toInt = 0 := hp; (show (V588 0 48).toInt ≤ 2 * (V588 0 7).toInt from by first | omega | ((try (have i_t558 := Imp.go t558 (by omega))); omega)))), (show (V588 0 48).toInt ≤ 8120 from by first | omega | ((try (have i_t558 := Imp.go t558 (by omega))); omega)), (Or.inr ⟨(show 1 ≤ (V588 0 8).toInt from by omega), hb612⟩), rw615, rw616, rw617, rw618⟩, by rw [ht]; exact hP, va_K.moved hW.alike hK, hD⟩, hS.F ht⟩) hS.2.2 dX12_member_193
                          · skip
                            have hb619 : ∀ k, Rc gT (Crun gs (Imember :: k)) (Cbad (V567 0 8).toInt) := fun k => (hr547 k).tr (h575 (Itake 59 :: Imember :: k))
                            refine va_iast (D := D) (i := z551) (x := z555) hx hb hK hP hD hS 27 26 rfl rfl (i_in (a := z551.toInt) rfl (by first | omega | ((try (have i_t558 := Imp.go t558 (by omega))); omega))) dX12_member_178 (fun H locs hP hD hS => ?_)
                            obtain ⟨V620, hV620⟩ : ∃ z, z = up2 V567 34 (Int32.toNatClampNeg z551) z555 := ⟨_, rfl⟩
                            have hP : va_P D vwCl (mw ad kk ks.1 V620 L568) H := by rw [hV620]; exact hP
                            have hD : va_D A (mw ad kk ks.1 V620 L568) := by rw [hV620]; exact hD
                            have hMV620 : rgd bM V620 := hMV567.put hV620 (i_full _)
                            have agV620 : agr [(0, 7), (0, 8), (0, 48), (0, 50)] [27, 28, 29, 30, 31, 32, 33, 34, 35, 36, 37, 38, 45, 46, 47] V V620 := agV567.up hV620 rfl
                            refine lv_goto (tgt := 187) hx hb dX12_member_179 (by decide) ?_
                            refine lv_aload_n hx hb dX12_member_187 rfl (lv_at hl 1 rfl) ?_
                            refine lv_bipush (v := 59) hx hb dX12_member_188 (by decide) ?_
                            have r621 : Int32.toInt 59 = 59 := by decide
                            have pq622 : (V620 0 8).toInt = ((V567 0 8)).toInt := congrArg Int32.toInt (up2_o hV620 (by decide))
                            refine gA_void (gA_runV (As := [.int 59]) (rest := []) (ci := 12) (q0 := 0) hx hb hml hown hg hP hD hK hS hA hnw hgk (s_takeSignB l D ks H.size ad kk V620 L568 59 hMV620 (show 1 ≤ (V620 0 8).toInt from by first | omega | ((try (have i_t558 := Imp.go t558 (by omega))); omega))) w2079 w2081 w96 w172 w2082 rfl rfl hdV_yX12_takeSign ⟨Nat.le_of_ble_eq_true rfl, Nat.le_of_ble_eq_true rfl⟩ rfl hl.1 rfl (Nat.le_of_ble_eq_true rfl) dX12_member_190 ⟨Nat.le_of_ble_eq_true rfl, Nat.le_of_ble_eq_true rfl⟩) hP hD hK hS hA (fun u624 H locs w625 hP hD hK hS => ?_)
                            obtain ⟨V627, L628⟩ := u624
                            obtain ⟨hMV627, ajV627, axL628, t626⟩ := w625
                            have axL628 : L568 = L628 := Eq.symm axL628
                            subst axL628
                            have hP : va_P D vwCl (mw ad kk ks.1 V627 L568) H := hP
                            have hD : va_D A (mw ad kk ks.1 V627 L568) := hD
                            have hMV627 : rgd bM V627 := hMV627
                            have ajV627 : agr [(0, 7), (0, 8)] [] V620 V627 := ajV627
                            have agV627 : agr [(0, 7), (0, 8), (0, 48), (0, 50)] [27, 28, 29, 30, 31, 32, 33, 34, 35, 36, 37, 38, 45, 46, 47] V V627 := agV620.tr ajV627 (by decide) (by decide)
                            have t626 : (V627 0 8).toInt = (V620 0 8).toInt := t626
                            have r629 : 0 ≤ ((V627 0 8)).toInt ∧ ((V627 0 8)).toInt ≤ 70000 := hMV627 0 8
                            have pq630 : (V627 0 48).toInt = ((V567 0 48)).toInt := congrArg Int32.toInt ((ajV627 0 48 rfl).trans (up2_o hV620 (by decide)))
                            have rw631 : RoV 35 bq V V627 := (fun k hk => ((ajV627 35 k rfl).trans ((up2_o hV620 (by decide)).trans ((t563 k hk).trans ((t518 k hk).trans ((ajV500 35 k rfl).trans ((ajV390 35 k rfl).trans rfl)))))))
                            have rw632 : RoV 37 bq V V627 := (fun k hk => ((ajV627 37 k rfl).trans ((up2_o hV620 (by decide)).trans ((t564 k hk).trans ((t519 k hk).trans ((ajV500 37 k rfl).trans ((ajV390 37 k rfl).trans rfl)))))))
                            have rw633 : RoL 36 20 bq L L568 := (fun k hk => ((t565 k hk).trans ((t520 k hk).trans rfl)))
                            have rw634 : RoL 38 20 bq L L568 := (fun k hk => ((t566 k hk).trans ((t521 k hk).trans rfl)))
                            exact W.vret hx hb hr (fun t ht hW => ⟨⟨(V627, L568), rfl, ⟨hMV627, agV627, alL568, (Imp.mk (fun hp => have hp : (V627 0 8).toInt = 0 := hp; (show (V627 0 48).toInt ≤ 2 * (V627 0 7).toInt from by first | omega | ((try (have i_t558 := Imp.go t558 (by omega))); omega)))), (show (V627 0 48).toInt ≤ 8120 from by first | omega | ((try (have i_t558 := Imp.go t558 (by omega))); omega)), (Or.inr ⟨(show 1 ≤ (V627 0 8).toInt from by omega), (fun k => by rw [show (V627 0 8).toInt = (V567 0 8).toInt from by omega]; exact hb619 k)⟩), rw631, rw632, rw633, rw634⟩, by rw [ht]; exact hP, va_K.moved hW.alike hK, hD⟩, hS.F ht⟩) hS.2.2 dX12_member_193
                      · skip
                        have f635 : 0 ≤ ((V 34 (Int32.toNatClampNeg z539))).toInt := b_nlt rfl (by decide) c542
                        refine lv_aload_n hx hb dX12_member_142 rfl (lv_at hl 1 rfl) ?_
                        refine lv_dup hx hb dX12_member_143 rfl ?_
                        refine va_get (D := D) (ci := 12) (v := .int (V522 0 7)) (C := RX12) (T := TX12) (N := 100) hx hb hg inX12 hown hK hP 0 rfl rfl 7 (by decide) (hg _ w1717) (fun _ h9 => h9) rfl dX12_member_144 ?_
                        refine lv_iconst (v := 1) hx hb dX12_member_147 (by decide) ?_
                        refine lv_isub hx hb dX12_member_148 ?_
                        refine lv_topi (fun z636 ez636 => ?_)
                        have hz636 : z636.toInt = ((V522 0 7)).toInt - 1 := i_sub ez636 rfl (by decide) (by omega)
                        refine va_put (D := D) (ci := 12) (v := .int z636) (ty := tyX12 7) (C := RX12) (T := TX12) (N := 100) hx hb hg inX12 tyX12 tyX12_ok nmX12 hown hK hP hD hS 0 rfl rfl 7 (by decide) (hg _ w1717) (fun _ h9 => h9) rfl (tyX12_ok 7 (by decide)) rfl rfl (Nat.le_of_ble_eq_true rfl) dX12_member_149 (fun H locs hP hD hS => ?_)
                        obtain ⟨V637, hV637⟩ : ∃ z, z = up2 V522 0 7 z636 := ⟨_, rfl⟩
                        have hP : va_P D vwCl (mw ad kk ks.1 V637 L523) H := by rw [hV637]; exact hP
                        have hD : va_D A (mw ad kk ks.1 V637 L523) := by rw [hV637]; exact hD
                        have hMV637 : rgd bM V637 := hMV522.put hV637 (i_full _)
                        have agV637 : agr [(0, 7), (0, 8), (0, 48), (0, 50)] [27, 28, 29, 30, 31, 32, 33, 34, 35, 36, 37, 38, 45, 46, 47] V V637 := agV522.up hV637 rfl
                        have tx := MTX.told mt531 (by rw [oS]; exact ow5.mp (by omega)) (by rw [oS, oL]; exact ow.2.2.2.2.2)
                        have rl638 : RelM V637 L523 bq gn gT (nx gs 1) gl := RelM.v8 (by rw [← tx.2]; exact rl527) hV637 (by omega)
                        have fz639 := RelM.rg rl638
                        have pq640 : (V637 0 8).toInt = ((V522 0 8)).toInt := congrArg Int32.toInt (up2_k hV637 (by decide))
                        have pq641 : (V637 0 7).toInt = z636.toInt := congrArg Int32.toInt (up2_s hV637)
                        have mn3 : ∀ k, mst gT (Crun (nx gs 1) (ImethN :: k)) = fl gT (nx gs 1) 3 := fun k => mthN_3 (mth_k3 h526) tx.1 _
                        refine lv_aload_n hx hb dX12_member_152 rfl (lv_at hl 1 rfl) ?_
                        refine lv_iconst (v := 3) hx hb dX12_member_153 (by decide) ?_
                        have r642 : Int32.toInt 3 = 3 := by decide
                        refine gA_void (gA_runV (As := [.int 3]) (rest := []) (ci := 12) (q0 := 0) hx hb hml hown hg hP hD hK hS hA hnw hgk (s_wrongA l D ks H.size ad kk V637 L523 3 (bq) (gn) (gT) ((nx gs 1)) (gl) hMV637 (by decide) rl638) w2039 w2041 w86 w172 w2042 rfl rfl hdV_yX12_wrong ⟨Nat.le_of_ble_eq_true rfl, Nat.le_of_ble_eq_true rfl⟩ rfl hl.1 rfl (Nat.le_of_ble_eq_true rfl) dX12_member_154 ⟨Nat.le_of_ble_eq_true rfl, Nat.le_of_ble_eq_true rfl⟩) hP hD hK hS hA (fun u644 H locs w645 hP hD hK hS => ?_)
                        obtain ⟨V648, L649⟩ := u644
                        obtain ⟨hMV648, ajV648, axL649, t646, t647⟩ := w645
                        have axL649 : L523 = L649 := Eq.symm axL649
                        subst axL649
                        have hP : va_P D vwCl (mw ad kk ks.1 V648 L523) H := hP
                        have hD : va_D A (mw ad kk ks.1 V648 L523) := hD
                        have hMV648 : rgd bM V648 := hMV648
                        have ajV648 : agr [(0, 8)] [] V637 V648 := ajV648
                        have agV648 : agr [(0, 7), (0, 8), (0, 48), (0, 50)] [27, 28, 29, 30, 31, 32, 33, 34, 35, 36, 37, 38, 45, 46, 47] V V648 := agV637.tr ajV648 (by decide) (by decide)
                        have t646 : 1 ≤ (V648 0 8).toInt := t646
                        have t647 : (V648 0 8).toInt = (Int32.toInt 3) + 16 * (gT).2.2 (((nx gs 1)).1 0) := t647
                        have r650 : 0 ≤ ((V648 0 8)).toInt ∧ ((V648 0 8)).toInt ≤ 70000 := hMV648 0 8
                        have hb651 : ∀ k, Rc gT (Crun gs (Imember :: k)) (Cbad (V648 0 8).toInt) := fun k => Rc.go1 (hr507 k) ((mn3 _).trans (fl_eq rfl (show (V648 0 8).toInt = 3 + 16 * gT.2.2 ((nx gs 1).1 0) from by omega)))
                        refine lv_aload_n hx hb dX12_member_157 rfl (lv_at hl 1 rfl) ?_
                        refine va_get (D := D) (ci := 12) (v := .int (V648 0 8)) (C := RX12) (T := TX12) (N := 100) hx hb hg inX12 hown hK hP 0 rfl rfl 8 (by decide) (hg _ w1718) (fun _ h9 => h9) rfl dX12_member_158 ?_
                        refine lv_if_ne (tgt := 179) hx hb dX12_member_161 (by decide) (fun c652 => ?_) (fun c652 => ?_)
                        · skip
                          have f653 : ((V648 0 8)).toInt ≠ 0 := b_neq rfl (by decide) c652
                          refine lv_goto (tgt := 187) hx hb dX12_member_179 (by decide) ?_
                          refine lv_aload_n hx hb dX12_member_187 rfl (lv_at hl 1 rfl) ?_
                          refine lv_bipush (v := 59) hx hb dX12_member_188 (by decide) ?_
                          have r654 : Int32.toInt 59 = 59 := by decide
                          refine gA_void (gA_runV (As := [.int 59]) (rest := []) (ci := 12) (q0 := 0) hx hb hml hown hg hP hD hK hS hA hnw hgk (s_takeSignB l D ks H.size ad kk V648 L523 59 hMV648 (show 1 ≤ (V648 0 8).toInt from by omega)) w2079 w2081 w96 w172 w2082 rfl rfl hdV_yX12_takeSign ⟨Nat.le_of_ble_eq_true rfl, Nat.le_of_ble_eq_true rfl⟩ rfl hl.1 rfl (Nat.le_of_ble_eq_true rfl) dX12_member_190 ⟨Nat.le_of_ble_eq_true rfl, Nat.le_of_ble_eq_true rfl⟩) hP hD hK hS hA (fun u656 H locs w657 hP hD hK hS => ?_)
                          obtain ⟨V659, L660⟩ := u656
                          obtain ⟨hMV659, ajV659, axL660, t658⟩ := w657
                          have axL660 : L523 = L660 := Eq.symm axL660
                          subst axL660
                          have hP : va_P D vwCl (mw ad kk ks.1 V659 L523) H := hP
                          have hD : va_D A (mw ad kk ks.1 V659 L523) := hD
                          have hMV659 : rgd bM V659 := hMV659
                          have ajV659 : agr [(0, 7), (0, 8)] [] V648 V659 := ajV659
                          have agV659 : agr [(0, 7), (0, 8), (0, 48), (0, 50)] [27, 28, 29, 30, 31, 32, 33, 34, 35, 36, 37, 38, 45, 46, 47] V V659 := agV648.tr ajV659 (by decide) (by decide)
                          have t658 : (V659 0 8).toInt = (V648 0 8).toInt := t658
                          have r661 : 0 ≤ ((V659 0 8)).toInt ∧ ((V659 0 8)).toInt ≤ 70000 := hMV659 0 8
                          have pq662 : (V659 0 48).toInt = ((V 0 48)).toInt := congrArg Int32.toInt ((ajV659 0 48 rfl).trans ((ajV648 0 48 rfl).trans ((up2_k hV637 (by decide)).trans ((ajV522 0 48 rfl).trans ((ajV500 0 48 rfl).trans (ajV390 0 48 rfl))))))
                          have rw663 : RoV 35 bq V V659 := (fun k hk => ((ajV659 35 k rfl).trans ((ajV648 35 k rfl).trans ((up2_o hV637 (by decide)).trans ((t518 k hk).trans ((ajV500 35 k rfl).trans ((ajV390 35 k rfl).trans rfl)))))))
                          have rw664 : RoV 37 bq V V659 := (fun k hk => ((ajV659 37 k rfl).trans ((ajV648 37 k rfl).trans ((up2_o hV637 (by decide)).trans ((t519 k hk).trans ((ajV500 37 k rfl).trans ((ajV390 37 k rfl).trans rfl)))))))
                          have rw665 : RoL 36 20 bq L L523 := (fun k hk => ((t520 k hk).trans rfl))
                          have rw666 : RoL 38 20 bq L L523 := (fun k hk => ((t521 k hk).trans rfl))
                          exact W.vret hx hb hr (fun t ht hW => ⟨⟨(V659, L523), rfl, ⟨hMV659, agV659, alL523, (Imp.mk (fun hp => have hp : (V659 0 8).toInt = 0 := hp; (show (V659 0 48).toInt ≤ 2 * (V659 0 7).toInt from by omega))), (show (V659 0 48).toInt ≤ 8120 from by omega), (Or.inr ⟨(show 1 ≤ (V659 0 8).toInt from by omega), (fun k => by rw [show (V659 0 8).toInt = (V648 0 8).toInt from by omega]; exact hb651 k)⟩), rw663, rw664, rw665, rw666⟩, by rw [ht]; exact hP, va_K.moved hW.alike hK, hD⟩, hS.F ht⟩) hS.2.2 dX12_member_193
                        · skip
                          have f667 : ((V648 0 8)).toInt = 0 := b_eq rfl (by decide) c652
                          exfalso; omega
                  · skip
                    have hb668 : ∀ k, Rc gT (Crun gs (Imember :: k)) (Cbad (V522 0 8).toInt) := fun k => Rc.go1 (hr507 k) (mn_b (Km_mthN h526))
                    have r669 : 0 ≤ ((V522 0 8)).toInt ∧ ((V522 0 8)).toInt ≤ 70000 := hMV522 0 8
                    refine lv_istore_n (lv' := [(2, .int z514), (0, .ref (ad 0)), (1, .int p0)]) hx hb dX12_member_120 rfl hl (by decide) rfl (fun ls hl => ?_)
                    refine lv_aload_n hx hb dX12_member_121 rfl (lv_at hl 1 rfl) ?_
                    refine va_get (D := D) (ci := 12) (v := .int (V522 0 8)) (C := RX12) (T := TX12) (N := 100) hx hb hg inX12 hown hK hP 0 rfl rfl 8 (by decide) (hg _ w1718) (fun _ h9 => h9) rfl dX12_member_122 ?_
                    refine lv_if_ne (tgt := 157) hx hb dX12_member_125 (by decide) (fun c670 => ?_) (fun c670 => ?_)
                    · skip
                      have f671 : ((V522 0 8)).toInt ≠ 0 := b_neq rfl (by decide) c670
                      refine lv_aload_n hx hb dX12_member_157 rfl (lv_at hl 1 rfl) ?_
                      refine va_get (D := D) (ci := 12) (v := .int (V522 0 8)) (C := RX12) (T := TX12) (N := 100) hx hb hg inX12 hown hK hP 0 rfl rfl 8 (by decide) (hg _ w1718) (fun _ h9 => h9) rfl dX12_member_158 ?_
                      refine lv_if_ne (tgt := 179) hx hb dX12_member_161 (by decide) (fun c672 => ?_) (fun c672 => ?_)
                      · skip
                        have f673 : ((V522 0 8)).toInt ≠ 0 := b_neq rfl (by decide) c672
                        refine lv_goto (tgt := 187) hx hb dX12_member_179 (by decide) ?_
                        refine lv_aload_n hx hb dX12_member_187 rfl (lv_at hl 1 rfl) ?_
                        refine lv_bipush (v := 59) hx hb dX12_member_188 (by decide) ?_
                        have r674 : Int32.toInt 59 = 59 := by decide
                        refine gA_void (gA_runV (As := [.int 59]) (rest := []) (ci := 12) (q0 := 0) hx hb hml hown hg hP hD hK hS hA hnw hgk (s_takeSignB l D ks H.size ad kk V522 L523 59 hMV522 (show 1 ≤ (V522 0 8).toInt from by omega)) w2079 w2081 w96 w172 w2082 rfl rfl hdV_yX12_takeSign ⟨Nat.le_of_ble_eq_true rfl, Nat.le_of_ble_eq_true rfl⟩ rfl hl.1 rfl (Nat.le_of_ble_eq_true rfl) dX12_member_190 ⟨Nat.le_of_ble_eq_true rfl, Nat.le_of_ble_eq_true rfl⟩) hP hD hK hS hA (fun u676 H locs w677 hP hD hK hS => ?_)
                        obtain ⟨V679, L680⟩ := u676
                        obtain ⟨hMV679, ajV679, axL680, t678⟩ := w677
                        have axL680 : L523 = L680 := Eq.symm axL680
                        subst axL680
                        have hP : va_P D vwCl (mw ad kk ks.1 V679 L523) H := hP
                        have hD : va_D A (mw ad kk ks.1 V679 L523) := hD
                        have hMV679 : rgd bM V679 := hMV679
                        have ajV679 : agr [(0, 7), (0, 8)] [] V522 V679 := ajV679
                        have agV679 : agr [(0, 7), (0, 8), (0, 48), (0, 50)] [27, 28, 29, 30, 31, 32, 33, 34, 35, 36, 37, 38, 45, 46, 47] V V679 := agV522.tr ajV679 (by decide) (by decide)
                        have t678 : (V679 0 8).toInt = (V522 0 8).toInt := t678
                        have r681 : 0 ≤ ((V679 0 8)).toInt ∧ ((V679 0 8)).toInt ≤ 70000 := hMV679 0 8
                        have pq682 : (V679 0 48).toInt = ((V 0 48)).toInt := congrArg Int32.toInt ((ajV679 0 48 rfl).trans ((ajV522 0 48 rfl).trans ((ajV500 0 48 rfl).trans (ajV390 0 48 rfl))))
                        have rw683 : RoV 35 bq V V679 := (fun k hk => ((ajV679 35 k rfl).trans ((t518 k hk).trans ((ajV500 35 k rfl).trans ((ajV390 35 k rfl).trans rfl)))))
                        have rw684 : RoV 37 bq V V679 := (fun k hk => ((ajV679 37 k rfl).trans ((t519 k hk).trans ((ajV500 37 k rfl).trans ((ajV390 37 k rfl).trans rfl)))))
                        have rw685 : RoL 36 20 bq L L523 := (fun k hk => ((t520 k hk).trans rfl))
                        have rw686 : RoL 38 20 bq L L523 := (fun k hk => ((t521 k hk).trans rfl))
                        exact W.vret hx hb hr (fun t ht hW => ⟨⟨(V679, L523), rfl, ⟨hMV679, agV679, alL523, (Imp.mk (fun hp => have hp : (V679 0 8).toInt = 0 := hp; (show (V679 0 48).toInt ≤ 2 * (V679 0 7).toInt from by omega))), (show (V679 0 48).toInt ≤ 8120 from by omega), (Or.inr ⟨(show 1 ≤ (V679 0 8).toInt from by omega), (fun k => by rw [show (V679 0 8).toInt = (V522 0 8).toInt from by omega]; exact hb668 k)⟩), rw683, rw684, rw685, rw686⟩, by rw [ht]; exact hP, va_K.moved hW.alike hK, hD⟩, hS.F ht⟩) hS.2.2 dX12_member_193
                      · skip
                        have f687 : ((V522 0 8)).toInt = 0 := b_eq rfl (by decide) c672
                        exfalso; omega
                    · skip
                      have f688 : ((V522 0 8)).toInt = 0 := b_eq rfl (by decide) c670
                      exfalso; omega
              · skip
                have kd689 : gT.1 (gs.1 0) ≠ 142 := fun h9 => h503 (h9.trans (by decide))
                have fz690 := RelM.rg rl504
                have pq691 : (V500 0 8).toInt = ((V 0 8)).toInt := congrArg Int32.toInt ((ajV500 0 8 rfl).trans (ajV390 0 8 rfl))
                refine lv_if_eq (tgt := 182) hx hb dX12_member_105 (by decide) (fun c692 => ?_) (fun c692 => ?_)
                · skip
                  have f693 : z496.toInt = 0 := b_eq rfl (by decide) c692
                  refine lv_aload_n hx hb dX12_member_182 rfl (lv_at hl 0 rfl) ?_
                  refine lv_iconst (v := 1) hx hb dX12_member_183 (by decide) ?_
                  have r694 : Int32.toInt 1 = 1 := by decide
                  refine gA_void (gA_runV (As := [.int 1]) (rest := []) (ci := 12) (q0 := 0) hx hb hml hown hg hP hD hK hS hA hnw hgk (s_wrongA l D ks H.size ad kk V500 L 1 (bq) (gn) (gT) (gs) (gl) hMV500 (by decide) rl504) w2039 w2041 w86 w172 w2042 rfl rfl hdV_yX12_wrong ⟨Nat.le_of_ble_eq_true rfl, Nat.le_of_ble_eq_true rfl⟩ rfl hl.1 rfl (Nat.le_of_ble_eq_true rfl) dX12_member_184 ⟨Nat.le_of_ble_eq_true rfl, Nat.le_of_ble_eq_true rfl⟩) hP hD hK hS hA (fun u696 H locs w697 hP hD hK hS => ?_)
                  obtain ⟨V700, L701⟩ := u696
                  obtain ⟨hMV700, ajV700, axL701, t698, t699⟩ := w697
                  have axL701 : L = L701 := Eq.symm axL701
                  subst axL701
                  have hP : va_P D vwCl (mw ad kk ks.1 V700 L) H := hP
                  have hD : va_D A (mw ad kk ks.1 V700 L) := hD
                  have hMV700 : rgd bM V700 := hMV700
                  have ajV700 : agr [(0, 8)] [] V500 V700 := ajV700
                  have agV700 : agr [(0, 7), (0, 8), (0, 48), (0, 50)] [27, 28, 29, 30, 31, 32, 33, 34, 35, 36, 37, 38, 45, 46, 47] V V700 := agV500.tr ajV700 (by decide) (by decide)
                  have t698 : 1 ≤ (V700 0 8).toInt := t698
                  have t699 : (V700 0 8).toInt = (Int32.toInt 1) + 16 * (gT).2.2 ((gs).1 0) := t699
                  have r702 : 0 ≤ ((V700 0 8)).toInt ∧ ((V700 0 8)).toInt ≤ 70000 := hMV700 0 8
                  have hr703 : ∀ k, Rc gT (Crun gs (Imember :: k)) (Crun gs (Imember :: k)) := fun k => Rc.rf
                  have hb704 : ∀ k, Rc gT (Crun gs (Imember :: k)) (Cbad (V700 0 8).toInt) := fun k => Rc.go1 (hr703 k) ((mb_f kn125 kd151 (Or.inr (by by_cases q9 : gs.1 2 = 1; exact q9; exact absurd (ow.2.1.mpr q9) (by omega))) (Or.inl kd489) kd689).trans (fl_eq rfl (show (V700 0 8).toInt = 1 + 16 * gT.2.2 (gs.1 0) from by omega)))
                  refine lv_aload_n hx hb dX12_member_187 rfl (lv_at hl 0 rfl) ?_
                  refine lv_bipush (v := 59) hx hb dX12_member_188 (by decide) ?_
                  have r705 : Int32.toInt 59 = 59 := by decide
                  refine gA_void (gA_runV (As := [.int 59]) (rest := []) (ci := 12) (q0 := 0) hx hb hml hown hg hP hD hK hS hA hnw hgk (s_takeSignB l D ks H.size ad kk V700 L 59 hMV700 (show 1 ≤ (V700 0 8).toInt from by omega)) w2079 w2081 w96 w172 w2082 rfl rfl hdV_yX12_takeSign ⟨Nat.le_of_ble_eq_true rfl, Nat.le_of_ble_eq_true rfl⟩ rfl hl.1 rfl (Nat.le_of_ble_eq_true rfl) dX12_member_190 ⟨Nat.le_of_ble_eq_true rfl, Nat.le_of_ble_eq_true rfl⟩) hP hD hK hS hA (fun u707 H locs w708 hP hD hK hS => ?_)
                  obtain ⟨V710, L711⟩ := u707
                  obtain ⟨hMV710, ajV710, axL711, t709⟩ := w708
                  have axL711 : L = L711 := Eq.symm axL711
                  subst axL711
                  have hP : va_P D vwCl (mw ad kk ks.1 V710 L) H := hP
                  have hD : va_D A (mw ad kk ks.1 V710 L) := hD
                  have hMV710 : rgd bM V710 := hMV710
                  have ajV710 : agr [(0, 7), (0, 8)] [] V700 V710 := ajV710
                  have agV710 : agr [(0, 7), (0, 8), (0, 48), (0, 50)] [27, 28, 29, 30, 31, 32, 33, 34, 35, 36, 37, 38, 45, 46, 47] V V710 := agV700.tr ajV710 (by decide) (by decide)
                  have t709 : (V710 0 8).toInt = (V700 0 8).toInt := t709
                  have r712 : 0 ≤ ((V710 0 8)).toInt ∧ ((V710 0 8)).toInt ≤ 70000 := hMV710 0 8
                  have pq713 : (V710 0 48).toInt = ((V 0 48)).toInt := congrArg Int32.toInt ((ajV710 0 48 rfl).trans ((ajV700 0 48 rfl).trans ((ajV500 0 48 rfl).trans (ajV390 0 48 rfl))))
                  have rw714 : RoV 35 bq V V710 := (fun k hk => ((ajV710 35 k rfl).trans ((ajV700 35 k rfl).trans ((ajV500 35 k rfl).trans ((ajV390 35 k rfl).trans rfl)))))
                  have rw715 : RoV 37 bq V V710 := (fun k hk => ((ajV710 37 k rfl).trans ((ajV700 37 k rfl).trans ((ajV500 37 k rfl).trans ((ajV390 37 k rfl).trans rfl)))))
                  have rw716 : RoL 36 20 bq L L := (fun k hk => rfl)
                  have rw717 : RoL 38 20 bq L L := (fun k hk => rfl)
                  exact W.vret hx hb hr (fun t ht hW => ⟨⟨(V710, L), rfl, ⟨hMV710, agV710, alL, (Imp.mk (fun hp => have hp : (V710 0 8).toInt = 0 := hp; (show (V710 0 48).toInt ≤ 2 * (V710 0 7).toInt from by omega))), (show (V710 0 48).toInt ≤ 8120 from by omega), (Or.inr ⟨(show 1 ≤ (V710 0 8).toInt from by omega), (fun k => by rw [show (V710 0 8).toInt = (V700 0 8).toInt from by omega]; exact hb704 k)⟩), rw714, rw715, rw716, rw717⟩, by rw [ht]; exact hP, va_K.moved hW.alike hK, hD⟩, hS.F ht⟩) hS.2.2 dX12_member_193
                · skip
                  have f718 : z496.toInt ≠ 0 := b_neq rfl (by decide) c692
                  exfalso; omega
            · skip
              have f719 : z386.toInt ≠ 0 := b_neq rfl (by decide) c493
              exfalso; omega
      · skip
        have f720 : ((V 32 (Int32.toNatClampNeg p0))).toInt < 0 := b_nle (by decide) rfl c154
        refine lv_aload_n hx hb dX12_member_46 rfl (lv_at hl 0 rfl) ?_
        refine lv_bipush (v := 12) hx hb dX12_member_47 (by decide) ?_
        have r721 : Int32.toInt 12 = 12 := by decide
        refine gA_int (gA_runV (As := [.int 12]) (rest := []) (ci := 12) (q0 := 0) hx hb hml hown hg hP hD hK hS hA hnw hgk (s_hasWordA l D ks H.size ad kk V L 12 (bq) (gn) (gT) (gs) (gl) hMV (by decide) rel) w2055 w2057 w90 w172 w2058 rfl rfl hdV_yX12_hasWord ⟨Nat.le_of_ble_eq_true rfl, Nat.le_of_ble_eq_true rfl⟩ rfl hl.1 rfl (Nat.le_of_ble_eq_true rfl) dX12_member_49 ⟨Nat.le_of_ble_eq_true rfl, Nat.le_of_ble_eq_true rfl⟩) hP hD hK hS hA (fun z722 u723 H locs w724 hP hD hK hS => ?_)
        obtain ⟨V726, L727⟩ := u723
        obtain ⟨hMV726, ajV726, axL727, rgz722, t725⟩ := w724
        have axL727 : L = L727 := Eq.symm axL727
        subst axL727
        have hP : va_P D vwCl (mw ad kk ks.1 V726 L) H := hP
        have hD : va_D A (mw ad kk ks.1 V726 L) := hD
        have hMV726 : rgd bM V726 := hMV726
        have ajV726 : agr [(0, 7)] [] V V726 := ajV726
        have agV726 : agr [(0, 7), (0, 8), (0, 48), (0, 50)] [27, 28, 29, 30, 31, 32, 33, 34, 35, 36, 37, 38, 45, 46, 47] V V726 := agV.tr ajV726 (by decide) (by decide)
        have rgz722 : 0 ≤ z722.toInt ∧ z722.toInt ≤ 1 := rgz722
        have t725 : (z722.toInt = 1 ∧ (gT).1 ((gs).1 0) = 128 + (Int32.toInt 12) ∧ RelM V726 L (bq) (gn) (gT) (nx (gs) 1) (gl)) ∨ (z722.toInt = 0 ∧ (gT).1 ((gs).1 0) ≠ 128 + (Int32.toInt 12) ∧ RelM V726 L (bq) (gn) (gT) (gs) (gl)) := t725
        rcases t725 with ⟨q728, h729, rl730⟩ | ⟨q728, h729, rl730⟩
        · skip
          have kd731 : gT.1 (gs.1 0) = 140 := h729.trans (by decide)
          have hr732 : ∀ k, Rc gT (Crun gs (Imember :: k)) (Crun gs (Imember :: k)) := fun k => Rc.rf
          have hr733 : ∀ k, Rc gT (Crun gs (Imember :: k)) (Crun (nx (sN gs 2 1) 1) (Iexpr 0 :: Itake 59 :: Imember :: k)) := fun k => Rc.go1 (hr732 k) (mb_140 kd731 (ow.2.1.mp (by omega)))
          have ps734 : (sN gs 2 1).1 0 = gs.1 0 := rfl
          have ps735 : (nx gs 1).1 0 = gs.1 0 + 1 := rfl
          have fz736 := RelM.rg rl730
          have pq737 : (V726 0 8).toInt = ((V 0 8)).toInt := congrArg Int32.toInt (ajV726 0 8 rfl)
          have r738 : 0 ≤ ((V 0 8)).toInt ∧ ((V 0 8)).toInt ≤ 70000 := hMV 0 8
          refine lv_if_eq (tgt := 68) hx hb dX12_member_52 (by decide) (fun c739 => ?_) (fun c739 => ?_)
          · skip
            have f740 : z722.toInt = 0 := b_eq rfl (by decide) c739
            exfalso; omega
          · skip
            have f741 : z722.toInt ≠ 0 := b_neq rfl (by decide) c739
            have rl742 : RelM V726 L bq gn gT (nx (sN gs 2 1) 1) gl := rl730
            refine lv_aload_n hx hb dX12_member_55 rfl (lv_at hl 0 rfl) ?_
            refine va_get (D := D) (ci := 12) (v := .ref (ad 32)) (C := RX12) (T := TX12) (N := 100) hx hb hg inX12 hown hK hP 0 rfl rfl 32 (by decide) (hg _ w1742) (fun _ h9 => h9) rfl dX12_member_56 ?_
            refine lv_iload_n hx hb dX12_member_59 rfl (lv_at hl 1 rfl) ?_
            refine lv_aload_n hx hb dX12_member_60 rfl (lv_at hl 0 rfl) ?_
            have pq743 : (V726 0 48).toInt = ((V 0 48)).toInt := congrArg Int32.toInt (ajV726 0 48 rfl)
            have pq744 : (V726 0 51).toInt = ((V 0 51)).toInt := congrArg Int32.toInt (ajV726 0 51 rfl)
            have pq745 : (V726 0 52).toInt = ((V 0 52)).toInt := congrArg Int32.toInt (ajV726 0 52 rfl)
            refine gA_int (gA_runV (As := []) (rest := [.int p0, .ref (ad 32)]) (ci := 12) (q0 := 0) hx hb hml hown hg hP hD hK hS hA hnw hgk (s_codeA l D ks H.size ad kk V726 L (bq) (gn) (gT) ((nx (sN gs 2 1) 1)) (gl) hMV726 rl742 (show (V726 0 48).toInt ≤ 2 * (V726 0 7).toInt from by omega) (EM.o2 (o := gc) (show (V726 27 gc).toInt = (((nx (sN gs 2 1) 1).1 1 : Nat) : Int) from by rw [(by rw [(funext (fun q => ajV726 27 q rfl) : V726 27 = V 27)] : V726 27 = V 27)]; exact ow.1) (show (nx (sN gs 2 1) 1).1 4 = 0 from ow.2.2.2.1) (by omega) (by omega))) w2116 w2118 w105 w172 w2119 rfl rfl hdV_yX12_code ⟨Nat.le_of_ble_eq_true rfl, Nat.le_of_ble_eq_true rfl⟩ rfl hl.1 rfl (Nat.le_of_ble_eq_true rfl) dX12_member_61 ⟨Nat.le_of_ble_eq_true rfl, Nat.le_of_ble_eq_true rfl⟩) hP hD hK hS hA (fun z746 u747 H locs w748 hP hD hK hS => ?_)
            obtain ⟨V758, L759⟩ := u747
            obtain ⟨hMV758, ajV758, axL759, rgz746, t749, t750, t751, t752, t753, t754, t755, t756, t757⟩ := w748
            have alL759 : agL [27, 28, 29, 30, 31, 32, 33, 34, 35, 36, 37, 38, 45, 46, 47] L L759 := agL.tr alL axL759 (by decide)
            have hP : va_P D vwCl (mw ad kk ks.1 V758 L759) H := hP
            have hD : va_D A (mw ad kk ks.1 V758 L759) := hD
            have hMV758 : rgd bM V758 := hMV758
            have ajV758 : agr [(0, 7), (0, 8), (0, 48), (0, 50)] [35, 36, 37, 38, 45, 46, 47] V726 V758 := ajV758
            have agV758 : agr [(0, 7), (0, 8), (0, 48), (0, 50)] [27, 28, 29, 30, 31, 32, 33, 34, 35, 36, 37, 38, 45, 46, 47] V V758 := agV726.tr ajV758 (by decide) (by decide)
            have rgz746 : 0 ≤ z746.toInt ∧ z746.toInt ≤ 20000 := rgz746
            have t749 : Imp ((V758 0 8).toInt = 0) ((V758 0 48).toInt - (V726 0 48).toInt ≤ 2 * ((V758 0 7).toInt - (V726 0 7).toInt) + 1) := t749
            have t750 : (V758 0 48).toInt ≤ 8060 := t750
            have t751 : (V726 0 48).toInt ≤ (V758 0 48).toInt := t751
            have t752 : z746.toInt = (V726 0 49).toInt + (V726 0 48).toInt := t752
            have t753 : RdM (gT) ((nx (sN gs 2 1) 1)) (fun k => Iexpr 0 :: k) (fun k => k) (V758 0 8).toInt (fun s9 => RelM V758 L759 (bq) (gn) (gT) s9 (gl) ∧ keepS ((nx (sN gs 2 1) 1)) 1 s9) := t753
            have t754 : RoV 35 (bq) V726 V758 := t754
            have t755 : RoV 37 (bq) V726 V758 := t755
            have t756 : RoL 36 20 (bq) L L759 := t756
            have t757 : RoL 38 20 (bq) L L759 := t757
            have r760 : 0 ≤ ((V758 0 48)).toInt ∧ ((V758 0 48)).toInt ≤ 10000 := hMV758 0 48
            have r761 : 0 ≤ ((V758 0 8)).toInt ∧ ((V758 0 8)).toInt ≤ 70000 := hMV758 0 8
            have pq762 : (V726 0 49).toInt = ((V 0 49)).toInt := congrArg Int32.toInt (ajV726 0 49 rfl)
            have r763 : 0 ≤ ((V 0 49)).toInt ∧ ((V 0 49)).toInt ≤ 10000 := hMV 0 49
            rcases t753 with ⟨q764, sx765, h766, rl767, kp768⟩ | ⟨q764, h766⟩
            · skip
              have hr769 : ∀ k, Rc gT (Crun gs (Imember :: k)) (Crun sx765 (Itake 59 :: Imember :: k)) := fun k => (hr733 k).tr (h766 (Itake 59 :: Imember :: k))
              have fz770 := RelM.rg rl767
              have ps771 := (kp768).1
              refine va_iast (D := D) (i := p0) (x := z746) hx hb hK hP hD hS 25 24 rfl rfl (i_in (a := p0.toInt) rfl (by first | omega | ((try (have i_t749 := Imp.go t749 (by omega))); omega))) dX12_member_64 (fun H locs hP hD hS => ?_)
              obtain ⟨V772, hV772⟩ : ∃ z, z = up2 V758 32 (Int32.toNatClampNeg p0) z746 := ⟨_, rfl⟩
              have hP : va_P D vwCl (mw ad kk ks.1 V772 L759) H := by rw [hV772]; exact hP
              have hD : va_D A (mw ad kk ks.1 V772 L759) := by rw [hV772]; exact hD
              have hMV772 : rgd bM V772 := hMV758.put hV772 (i_full _)
              have agV772 : agr [(0, 7), (0, 8), (0, 48), (0, 50)] [27, 28, 29, 30, 31, 32, 33, 34, 35, 36, 37, 38, 45, 46, 47] V V772 := agV758.up hV772 rfl
              refine lv_goto (tgt := 187) hx hb dX12_member_65 (by decide) ?_
              refine lv_aload_n hx hb dX12_member_187 rfl (lv_at hl 0 rfl) ?_
              refine lv_bipush (v := 59) hx hb dX12_member_188 (by decide) ?_
              have rl773 : RelM V772 L759 bq gn gT sx765 gl := RelM.ag rl767 (show agr [] [32] V758 V772 from (agr.up agr.rf hV772 rfl)) (by decide) (show agL [] L759 L759 from agL.rf) (by decide)
              have r774 : Int32.toInt 59 = 59 := by decide
              refine gA_void (gA_runV (As := [.int 59]) (rest := []) (ci := 12) (q0 := 0) hx hb hml hown hg hP hD hK hS hA hnw hgk (s_takeSignA l D ks H.size ad kk V772 L759 59 (bq) (gn) (gT) (sx765) (gl) hMV772 rl773 (sg_yes (j := 59) (by decide) (by decide) (by decide))) w2079 w2081 w96 w172 w2082 rfl rfl hdV_yX12_takeSign ⟨Nat.le_of_ble_eq_true rfl, Nat.le_of_ble_eq_true rfl⟩ rfl hl.1 rfl (Nat.le_of_ble_eq_true rfl) dX12_member_190 ⟨Nat.le_of_ble_eq_true rfl, Nat.le_of_ble_eq_true rfl⟩) hP hD hK hS hA (fun u776 H locs w777 hP hD hK hS => ?_)
              obtain ⟨V779, L780⟩ := u776
              obtain ⟨hMV779, ajV779, axL780, t778⟩ := w777
              have axL780 : L759 = L780 := Eq.symm axL780
              subst axL780
              have hP : va_P D vwCl (mw ad kk ks.1 V779 L759) H := hP
              have hD : va_D A (mw ad kk ks.1 V779 L759) := hD
              have hMV779 : rgd bM V779 := hMV779
              have ajV779 : agr [(0, 7), (0, 8)] [] V772 V779 := ajV779
              have agV779 : agr [(0, 7), (0, 8), (0, 48), (0, 50)] [27, 28, 29, 30, 31, 32, 33, 34, 35, 36, 37, 38, 45, 46, 47] V V779 := agV772.tr ajV779 (by decide) (by decide)
              have t778 : ((V779 0 8).toInt = 0 ∧ (gT).1 ((sx765).1 0) = (Int32.toInt 59) ∧ RelM V779 L759 (bq) (gn) (gT) (nx (sx765) 1) (gl)) ∨ (1 ≤ (V779 0 8).toInt ∧ (gT).1 ((sx765).1 0) ≠ (Int32.toInt 59) ∧ (V779 0 8).toInt = 1 + 16 * (gT).2.2 ((sx765).1 0)) := t778
              rcases t778 with ⟨q781, h782, rl783⟩ | ⟨q781, h782, rl783⟩
              · skip
                have kd784 : gT.1 (sx765.1 0) = 59 := h782.trans (by decide)
                have hr785 : ∀ k, Rc gT (Crun gs (Imember :: k)) (Crun (nx sx765 1) (Imember :: k)) := fun k => Rc.go1 (hr769 k) (tk_y kd784)
                have ps786 : (nx sx765 1).1 0 = sx765.1 0 + 1 := rfl
                have fz787 := RelM.rg rl783
                have r788 : 0 ≤ ((V779 0 8)).toInt ∧ ((V779 0 8)).toInt ≤ 70000 := hMV779 0 8
                have pq789 : (V779 0 48).toInt = ((V758 0 48)).toInt := congrArg Int32.toInt ((ajV779 0 48 rfl).trans (up2_o hV772 (by decide)))
                have ps790 : gs.1 0 + 1 ≤ (nx gs 1).1 0 := ((keepS.n1 1)).1
                have ps791 : (nx (sN gs 2 1) 1).1 0 = (nx gs 1).1 0 := rfl
                have ps792 : (nx (sN gs 2 1) 1).1 0 + 1 ≤ sx765.1 0 := (kp768).1
                have ps793 : sx765.1 0 + 1 ≤ (nx sx765 1).1 0 := ((keepS.n1 1)).1
                have cs794 : 0 ≤ (V779 32 gc).toInt := by have h9 : V779 32 (Int32.toNatClampNeg p0) = z746 := ((ajV779 32 (Int32.toNatClampNeg p0) rfl).trans (up2_s hV772)); rw [kgc] at h9; rw [h9]; omega
                have cn795 : CNm V779 bq gs := CNm.ag cnm (show agr [(0, 7), (0, 8), (0, 48), (0, 50)] [32, 35, 36, 37, 38, 45, 46, 47] V V779 from (agr.tr (agr.up (agr.tr (agr.tr agr.rf ajV726 (by decide) (by decide)) ajV758 (by decide) (by decide)) hV772 rfl) ajV779 (by decide) (by decide))) (by decide) keepC.rf
                have cn796 : CNm V779 bq (nx sx765 1) := CNm.mv cn795 (fun _ _ _ => rfl) (keepC.tr (keepC.tr (keepC.tr (keepC.tr (keepC.rf : keepC gs gs) (keepS.c (keepS.n1 1))) (keepC.tn (by decide) : keepC (nx gs 1) (nx (sN gs 2 1) 1))) (keepS.c kp768)) (keepS.c (keepS.n1 1)))
                have rw797 : RoV 35 bq V V779 := (fun k hk => ((ajV779 35 k rfl).trans ((up2_o hV772 (by decide)).trans ((t754 k hk).trans ((ajV726 35 k rfl).trans rfl)))))
                have rw798 : RoV 37 bq V V779 := (fun k hk => ((ajV779 37 k rfl).trans ((up2_o hV772 (by decide)).trans ((t755 k hk).trans ((ajV726 37 k rfl).trans rfl)))))
                have rw799 : RoL 36 20 bq L L759 := (fun k hk => ((t756 k hk).trans rfl))
                have rw800 : RoL 38 20 bq L L759 := (fun k hk => ((t757 k hk).trans rfl))
                exact W.vret hx hb hr (fun t ht hW => ⟨⟨(V779, L759), rfl, ⟨hMV779, agV779, alL759, (Imp.mk (fun hp => have hp : (V779 0 8).toInt = 0 := hp; (show (V779 0 48).toInt ≤ 2 * (V779 0 7).toInt from by first | omega | ((try (have i_t749 := Imp.go t749 (by omega))); omega)))), (show (V779 0 48).toInt ≤ 8120 from by first | omega | ((try (have i_t749 := Imp.go t749 (by omega))); omega)), (Or.inl ⟨W0 rl783, (nx sx765 1), hr785, rl783, (by omega), (OWm.op ow (keepS.tr (keepS.tr (keepS.rf : keepS (nx (sN gs 2 1) 1) 0 (nx (sN gs 2 1) 1)) kp768) (keepS.n1 1)) (Rc.ml (hr785 [])) (show V779 27 gc = V 27 gc from ((ajV779 27 _ rfl).trans ((up2_o hV772 (by decide)).trans ((ajV758 27 _ rfl).trans ((ajV726 27 _ rfl).trans rfl))))) cs794 (show V779 33 gc = V 33 gc from ((ajV779 33 _ rfl).trans ((up2_o hV772 (by decide)).trans ((ajV758 33 _ rfl).trans ((ajV726 33 _ rfl).trans rfl))))) (fun f hf => ((show agr [(0, 7), (0, 8), (0, 48), (0, 50)] [32, 35, 36, 37, 38, 45, 46, 47] V V779 from (agr.tr (agr.up (agr.tr (agr.tr agr.rf ajV726 (by decide) (by decide)) ajV758 (by decide) (by decide)) hV772 rfl) ajV779 (by decide) (by decide))) 34 _ rfl))), ((((keepS.n1 1)).2.2.1 2 (by decide)).trans (((kp768).2.2.1 2 (by decide)).trans ((rfl : (nx (sN gs 2 1) 1).2.1 2 = (nx gs 1).2.1 2).trans ((((keepS.n1 1)).2.2.1 2 (by decide)).trans (rfl : gs.2.1 2 = gs.2.1 2))))), ((congrArg (fun q9 => q9.1) ((keepS.n1 1)).2.2.2).trans ((congrArg (fun q9 => q9.1) (kp768).2.2.2).trans ((rfl : (nx (sN gs 2 1) 1).2.2.1 = (nx gs 1).2.2.1).trans ((congrArg (fun q9 => q9.1) ((keepS.n1 1)).2.2.2).trans (rfl : gs.2.2.1 = gs.2.2.1))))), cn796⟩), rw797, rw798, rw799, rw800⟩, by rw [ht]; exact hP, va_K.moved hW.alike hK, hD⟩, hS.F ht⟩) hS.2.2 dX12_member_193
              · skip
                have kd801 : gT.1 (sx765.1 0) ≠ 59 := fun h9 => h782 (h9.trans (by decide))
                have hb802 : ∀ k, Rc gT (Crun gs (Imember :: k)) (Cbad (V779 0 8).toInt) := fun k => Rc.go1 (hr769 k) ((tk_n kd801).trans (fl_eq rfl rl783))
                have r803 : 0 ≤ ((V779 0 8)).toInt ∧ ((V779 0 8)).toInt ≤ 70000 := hMV779 0 8
                have pq804 : (V779 0 48).toInt = ((V758 0 48)).toInt := congrArg Int32.toInt ((ajV779 0 48 rfl).trans (up2_o hV772 (by decide)))
                have rw805 : RoV 35 bq V V779 := (fun k hk => ((ajV779 35 k rfl).trans ((up2_o hV772 (by decide)).trans ((t754 k hk).trans ((ajV726 35 k rfl).trans rfl)))))
                have rw806 : RoV 37 bq V V779 := (fun k hk => ((ajV779 37 k rfl).trans ((up2_o hV772 (by decide)).trans ((t755 k hk).trans ((ajV726 37 k rfl).trans rfl)))))
                have rw807 : RoL 36 20 bq L L759 := (fun k hk => ((t756 k hk).trans rfl))
                have rw808 : RoL 38 20 bq L L759 := (fun k hk => ((t757 k hk).trans rfl))
                exact W.vret hx hb hr (fun t ht hW => ⟨⟨(V779, L759), rfl, ⟨hMV779, agV779, alL759, (Imp.mk (fun hp => have hp : (V779 0 8).toInt = 0 := hp; (show (V779 0 48).toInt ≤ 2 * (V779 0 7).toInt from by first | omega | ((try (have i_t749 := Imp.go t749 (by omega))); omega)))), (show (V779 0 48).toInt ≤ 8120 from by first | omega | ((try (have i_t749 := Imp.go t749 (by omega))); omega)), (Or.inr ⟨(show 1 ≤ (V779 0 8).toInt from by omega), hb802⟩), rw805, rw806, rw807, rw808⟩, by rw [ht]; exact hP, va_K.moved hW.alike hK, hD⟩, hS.F ht⟩) hS.2.2 dX12_member_193
            · skip
              have hb809 : ∀ k, Rc gT (Crun gs (Imember :: k)) (Cbad (V758 0 8).toInt) := fun k => (hr733 k).tr (h766 (Itake 59 :: Imember :: k))
              refine va_iast (D := D) (i := p0) (x := z746) hx hb hK hP hD hS 25 24 rfl rfl (i_in (a := p0.toInt) rfl (by first | omega | ((try (have i_t749 := Imp.go t749 (by omega))); omega))) dX12_member_64 (fun H locs hP hD hS => ?_)
              obtain ⟨V810, hV810⟩ : ∃ z, z = up2 V758 32 (Int32.toNatClampNeg p0) z746 := ⟨_, rfl⟩
              have hP : va_P D vwCl (mw ad kk ks.1 V810 L759) H := by rw [hV810]; exact hP
              have hD : va_D A (mw ad kk ks.1 V810 L759) := by rw [hV810]; exact hD
              have hMV810 : rgd bM V810 := hMV758.put hV810 (i_full _)
              have agV810 : agr [(0, 7), (0, 8), (0, 48), (0, 50)] [27, 28, 29, 30, 31, 32, 33, 34, 35, 36, 37, 38, 45, 46, 47] V V810 := agV758.up hV810 rfl
              refine lv_goto (tgt := 187) hx hb dX12_member_65 (by decide) ?_
              refine lv_aload_n hx hb dX12_member_187 rfl (lv_at hl 0 rfl) ?_
              refine lv_bipush (v := 59) hx hb dX12_member_188 (by decide) ?_
              have r811 : Int32.toInt 59 = 59 := by decide
              have pq812 : (V810 0 8).toInt = ((V758 0 8)).toInt := congrArg Int32.toInt (up2_o hV810 (by decide))
              refine gA_void (gA_runV (As := [.int 59]) (rest := []) (ci := 12) (q0 := 0) hx hb hml hown hg hP hD hK hS hA hnw hgk (s_takeSignB l D ks H.size ad kk V810 L759 59 hMV810 (show 1 ≤ (V810 0 8).toInt from by first | omega | ((try (have i_t749 := Imp.go t749 (by omega))); omega))) w2079 w2081 w96 w172 w2082 rfl rfl hdV_yX12_takeSign ⟨Nat.le_of_ble_eq_true rfl, Nat.le_of_ble_eq_true rfl⟩ rfl hl.1 rfl (Nat.le_of_ble_eq_true rfl) dX12_member_190 ⟨Nat.le_of_ble_eq_true rfl, Nat.le_of_ble_eq_true rfl⟩) hP hD hK hS hA (fun u814 H locs w815 hP hD hK hS => ?_)
              obtain ⟨V817, L818⟩ := u814
              obtain ⟨hMV817, ajV817, axL818, t816⟩ := w815
              have axL818 : L759 = L818 := Eq.symm axL818
              subst axL818
              have hP : va_P D vwCl (mw ad kk ks.1 V817 L759) H := hP
              have hD : va_D A (mw ad kk ks.1 V817 L759) := hD
              have hMV817 : rgd bM V817 := hMV817
              have ajV817 : agr [(0, 7), (0, 8)] [] V810 V817 := ajV817
              have agV817 : agr [(0, 7), (0, 8), (0, 48), (0, 50)] [27, 28, 29, 30, 31, 32, 33, 34, 35, 36, 37, 38, 45, 46, 47] V V817 := agV810.tr ajV817 (by decide) (by decide)
              have t816 : (V817 0 8).toInt = (V810 0 8).toInt := t816
              have r819 : 0 ≤ ((V817 0 8)).toInt ∧ ((V817 0 8)).toInt ≤ 70000 := hMV817 0 8
              have pq820 : (V817 0 48).toInt = ((V758 0 48)).toInt := congrArg Int32.toInt ((ajV817 0 48 rfl).trans (up2_o hV810 (by decide)))
              have rw821 : RoV 35 bq V V817 := (fun k hk => ((ajV817 35 k rfl).trans ((up2_o hV810 (by decide)).trans ((t754 k hk).trans ((ajV726 35 k rfl).trans rfl)))))
              have rw822 : RoV 37 bq V V817 := (fun k hk => ((ajV817 37 k rfl).trans ((up2_o hV810 (by decide)).trans ((t755 k hk).trans ((ajV726 37 k rfl).trans rfl)))))
              have rw823 : RoL 36 20 bq L L759 := (fun k hk => ((t756 k hk).trans rfl))
              have rw824 : RoL 38 20 bq L L759 := (fun k hk => ((t757 k hk).trans rfl))
              exact W.vret hx hb hr (fun t ht hW => ⟨⟨(V817, L759), rfl, ⟨hMV817, agV817, alL759, (Imp.mk (fun hp => have hp : (V817 0 8).toInt = 0 := hp; (show (V817 0 48).toInt ≤ 2 * (V817 0 7).toInt from by first | omega | ((try (have i_t749 := Imp.go t749 (by omega))); omega)))), (show (V817 0 48).toInt ≤ 8120 from by first | omega | ((try (have i_t749 := Imp.go t749 (by omega))); omega)), (Or.inr ⟨(show 1 ≤ (V817 0 8).toInt from by omega), (fun k => by rw [show (V817 0 8).toInt = (V758 0 8).toInt from by omega]; exact hb809 k)⟩), rw821, rw822, rw823, rw824⟩, by rw [ht]; exact hP, va_K.moved hW.alike hK, hD⟩, hS.F ht⟩) hS.2.2 dX12_member_193
        · skip
          have kd825 : gT.1 (gs.1 0) ≠ 140 := fun h9 => h729 (h9.trans (by decide))
          have fz826 := RelM.rg rl730
          have pq827 : (V726 0 8).toInt = ((V 0 8)).toInt := congrArg Int32.toInt (ajV726 0 8 rfl)
          have r828 : 0 ≤ ((V 0 8)).toInt ∧ ((V 0 8)).toInt ≤ 70000 := hMV 0 8
          refine lv_if_eq (tgt := 68) hx hb dX12_member_52 (by decide) (fun c829 => ?_) (fun c829 => ?_)
          · skip
            have f830 : z722.toInt = 0 := b_eq rfl (by decide) c829
            refine lv_aload_n hx hb dX12_member_68 rfl (lv_at hl 0 rfl) ?_
            refine va_get (D := D) (ci := 12) (v := .ref (ad 33)) (C := RX12) (T := TX12) (N := 100) hx hb hg inX12 hown hK hP 0 rfl rfl 33 (by decide) (hg _ w1743) (fun _ h9 => h9) rfl dX12_member_69 ?_
            refine lv_iload_n hx hb dX12_member_72 rfl (lv_at hl 1 rfl) ?_
            refine va_iald (D := D) (i := p0) hx hb hK hP 26 25 rfl rfl (i_in (a := p0.toInt) rfl (by omega)) dX12_member_73 ?_
            refine g_top (v := (V 33 (Int32.toNatClampNeg p0))) (ajV726 33 (Int32.toNatClampNeg p0) rfl) ?_
            refine lv_if_ge (tgt := 99) hx hb dX12_member_74 (by decide) (fun c831 => ?_) (fun c831 => ?_)
            · skip
              have f832 : 0 ≤ ((V 33 (Int32.toNatClampNeg p0))).toInt := b_le (by decide) rfl c831
              refine lv_aload_n hx hb dX12_member_99 rfl (lv_at hl 0 rfl) ?_
              refine lv_bipush (v := 14) hx hb dX12_member_100 (by decide) ?_
              have r833 : Int32.toInt 14 = 14 := by decide
              refine gA_int (gA_runV (As := [.int 14]) (rest := []) (ci := 12) (q0 := 0) hx hb hml hown hg hP hD hK hS hA hnw hgk (s_hasWordA l D ks H.size ad kk V726 L 14 (bq) (gn) (gT) (gs) (gl) hMV726 (by decide) rl730) w2055 w2057 w90 w172 w2058 rfl rfl hdV_yX12_hasWord ⟨Nat.le_of_ble_eq_true rfl, Nat.le_of_ble_eq_true rfl⟩ rfl hl.1 rfl (Nat.le_of_ble_eq_true rfl) dX12_member_102 ⟨Nat.le_of_ble_eq_true rfl, Nat.le_of_ble_eq_true rfl⟩) hP hD hK hS hA (fun z834 u835 H locs w836 hP hD hK hS => ?_)
              obtain ⟨V838, L839⟩ := u835
              obtain ⟨hMV838, ajV838, axL839, rgz834, t837⟩ := w836
              have axL839 : L = L839 := Eq.symm axL839
              subst axL839
              have hP : va_P D vwCl (mw ad kk ks.1 V838 L) H := hP
              have hD : va_D A (mw ad kk ks.1 V838 L) := hD
              have hMV838 : rgd bM V838 := hMV838
              have ajV838 : agr [(0, 7)] [] V726 V838 := ajV838
              have agV838 : agr [(0, 7), (0, 8), (0, 48), (0, 50)] [27, 28, 29, 30, 31, 32, 33, 34, 35, 36, 37, 38, 45, 46, 47] V V838 := agV726.tr ajV838 (by decide) (by decide)
              have rgz834 : 0 ≤ z834.toInt ∧ z834.toInt ≤ 1 := rgz834
              have t837 : (z834.toInt = 1 ∧ (gT).1 ((gs).1 0) = 128 + (Int32.toInt 14) ∧ RelM V838 L (bq) (gn) (gT) (nx (gs) 1) (gl)) ∨ (z834.toInt = 0 ∧ (gT).1 ((gs).1 0) ≠ 128 + (Int32.toInt 14) ∧ RelM V838 L (bq) (gn) (gT) (gs) (gl)) := t837
              rcases t837 with ⟨q840, h841, rl842⟩ | ⟨q840, h841, rl842⟩
              · skip
                have kd843 : gT.1 (gs.1 0) = 142 := h841.trans (by decide)
                have hr844 : ∀ k, Rc gT (Crun gs (Imember :: k)) (Crun gs (Imember :: k)) := fun k => Rc.rf
                have hr845 : ∀ k, Rc gT (Crun gs (Imember :: k)) (Crun (nx gs 1) (ImethN :: Iexpr 0 :: Itake 59 :: Imember :: k)) := fun k => Rc.go1 (hr844 k) (mb_142 kd843)
                have ps846 : (nx gs 1).1 0 = gs.1 0 + 1 := rfl
                have fz847 := RelM.rg rl842
                have pq848 : (V838 0 8).toInt = ((V 0 8)).toInt := congrArg Int32.toInt ((ajV838 0 8 rfl).trans (ajV726 0 8 rfl))
                refine lv_if_eq (tgt := 182) hx hb dX12_member_105 (by decide) (fun c849 => ?_) (fun c849 => ?_)
                · skip
                  have f850 : z834.toInt = 0 := b_eq rfl (by decide) c849
                  exfalso; omega
                · skip
                  have f851 : z834.toInt ≠ 0 := b_neq rfl (by decide) c849
                  refine lv_aload_n hx hb dX12_member_108 rfl (lv_at hl 0 rfl) ?_
                  refine lv_aload_n hx hb dX12_member_109 rfl (lv_at hl 0 rfl) ?_
                  refine va_get (D := D) (ci := 12) (v := .ref (ad 36)) (C := RX12) (T := TX12) (N := 100) hx hb hg inX12 hown hK hP 0 rfl rfl 36 (by decide) (hg _ w1746) (fun _ h9 => h9) rfl dX12_member_110 ?_
                  refine lv_aload_n hx hb dX12_member_113 rfl (lv_at hl 0 rfl) ?_
                  refine va_get (D := D) (ci := 12) (v := .ref (ad 35)) (C := RX12) (T := TX12) (N := 100) hx hb hg inX12 hown hK hP 0 rfl rfl 35 (by decide) (hg _ w1745) (fun _ h9 => h9) rfl dX12_member_114 ?_
                  refine gA_int (gA_runV (As := [.ref (ad 36), .ref (ad 35)]) (rest := []) (ci := 12) (q0 := 0) hx hb hml hown hg hP hD hK hS hA hnw hgk (s_takeWordOf3 l D ks H.size ad kk V838 L (bq) (gn) (gT) ((nx gs 1)) (gl) hMV838 rl842) w2104 w2106 w102 w172 w2107 rfl rfl hdV_yX12_takeWordOf ⟨Nat.le_of_ble_eq_true rfl, Nat.le_of_ble_eq_true rfl⟩ rfl hl.1 rfl (Nat.le_of_ble_eq_true rfl) dX12_member_117 ⟨Nat.le_of_ble_eq_true rfl, Nat.le_of_ble_eq_true rfl⟩) hP hD hK hS hA (fun z852 u853 H locs w854 hP hD hK hS => ?_)
                  obtain ⟨V860, L861⟩ := u853
                  obtain ⟨hMV860, ajV860, axL861, rgz852, t855, t856, t857, t858, t859⟩ := w854
                  have alL861 : agL [27, 28, 29, 30, 31, 32, 33, 34, 35, 36, 37, 38, 45, 46, 47] L L861 := agL.tr alL axL861 (by decide)
                  have hP : va_P D vwCl (mw ad kk ks.1 V860 L861) H := hP
                  have hD : va_D A (mw ad kk ks.1 V860 L861) := hD
                  have hMV860 : rgd bM V860 := hMV860
                  have ajV860 : agr [(0, 7), (0, 8)] [35, 36, 37, 38] V838 V860 := ajV860
                  have agV860 : agr [(0, 7), (0, 8), (0, 48), (0, 50)] [27, 28, 29, 30, 31, 32, 33, 34, 35, 36, 37, 38, 45, 46, 47] V V860 := agV838.tr ajV860 (by decide) (by decide)
                  have rgz852 : (-1) ≤ z852.toInt ∧ z852.toInt ≤ 19 := rgz852
                  have t855 : KmS (mthW (gT) ((nx gs 1)) 3) (V860 0 8).toInt (fun x9 => RelM V860 L861 (bq) (gn) (gT) x9.2 (gl) ∧ z852.toInt = ((x9.1 : Nat) : Int) ∧ x9.1 < 20 ∧ keepS ((nx gs 1)) 1 x9.2 ∧ MTX (gT) ((nx gs 1)) 3 x9) := t855
                  have t856 : RoV 35 (bq) V838 V860 := t856
                  have t857 : RoV 37 (bq) V838 V860 := t857
                  have t858 : RoL 36 20 (bq) L L861 := t858
                  have t859 : RoL 38 20 (bq) L L861 := t859
                  rcases t855 with ⟨q862, mx863, h864, rl865, hf866, hb867, kp868, mt869⟩ | ⟨q862, h864⟩
                  · skip
                    have ps870 := kp868.1
                    have fz871 := RelM.rg rl865
                    have r872 : 0 ≤ ((V860 0 8)).toInt ∧ ((V860 0 8)).toInt ≤ 70000 := hMV860 0 8
                    refine lv_istore_n (lv' := [(2, .int z852), (0, .ref (ad 0)), (1, .int p0)]) hx hb dX12_member_120 rfl hl (by decide) rfl (fun ls hl => ?_)
                    refine lv_aload_n hx hb dX12_member_121 rfl (lv_at hl 1 rfl) ?_
                    refine va_get (D := D) (ci := 12) (v := .int (V860 0 8)) (C := RX12) (T := TX12) (N := 100) hx hb hg inX12 hown hK hP 0 rfl rfl 8 (by decide) (hg _ w1718) (fun _ h9 => h9) rfl dX12_member_122 ?_
                    refine lv_if_ne (tgt := 157) hx hb dX12_member_125 (by decide) (fun c873 => ?_) (fun c873 => ?_)
                    · skip
                      have f874 : ((V860 0 8)).toInt ≠ 0 := b_neq rfl (by decide) c873
                      exfalso; omega
                    · skip
                      have f875 : ((V860 0 8)).toInt = 0 := b_eq rfl (by decide) c873
                      refine lv_aload_n hx hb dX12_member_128 rfl (lv_at hl 1 rfl) ?_
                      refine va_get (D := D) (ci := 12) (v := .ref (ad 34)) (C := RX12) (T := TX12) (N := 100) hx hb hg inX12 hown hK hP 0 rfl rfl 34 (by decide) (hg _ w1744) (fun _ h9 => h9) rfl dX12_member_129 ?_
                      refine lv_bipush (v := 20) hx hb dX12_member_132 (by decide) ?_
                      refine lv_iload_n hx hb dX12_member_134 rfl (lv_at hl 2 rfl) ?_
                      refine lv_imul hx hb dX12_member_135 ?_
                      refine lv_topi (fun z876 ez876 => ?_)
                      have hz876 : z876.toInt = 20 * p0.toInt := i_mul ez876 (by decide) rfl (by omega)
                      refine lv_iload_n hx hb dX12_member_136 rfl (lv_at hl 0 rfl) ?_
                      refine lv_iadd hx hb dX12_member_137 ?_
                      refine lv_topi (fun z877 ez877 => ?_)
                      have hz877 : z877.toInt = z876.toInt + z852.toInt := i_add ez877 rfl rfl (by omega)
                      refine va_iald (D := D) (i := z877) hx hb hK hP 27 26 rfl rfl (i_in (a := z877.toInt) rfl (by omega)) dX12_member_138 ?_
                      refine g_top (v := (V 34 (Int32.toNatClampNeg z877))) ((ajV860 34 (Int32.toNatClampNeg z877) rfl).trans ((ajV838 34 (Int32.toNatClampNeg z877) rfl).trans (ajV726 34 (Int32.toNatClampNeg z877) rfl))) ?_
                      have kc879 : Int32.toNatClampNeg z877 = 20 * gc + mx863.1 := by have h9 := i_clamp (x := z877) rfl (by omega); omega
                      have ma878 : (V 34 (Int32.toNatClampNeg z877)).toInt = (V 34 (20 * gc + mx863.1)).toInt := by rw [kc879]
                      have ow5 := ow.2.2.2.2.1 mx863.1 hb867
                      have oS : (nx gs 1).2.2.2 = gs.2.2.2 := congrArg (fun q9 => q9.2) ((keepS.tr (keepS.rf : keepS gs 0 gs) (keepS.n1 1))).2.2.2
                      have oL : (nx gs 1).2.1 3 = gs.2.1 3 := rfl
                      refine lv_if_lt (tgt := 157) hx hb dX12_member_139 (by decide) (fun c880 => ?_) (fun c880 => ?_)
                      · skip
                        have f881 : ((V 34 (Int32.toNatClampNeg z877))).toInt < 0 := b_lt rfl (by decide) c880
                        refine lv_aload_n hx hb dX12_member_157 rfl (lv_at hl 1 rfl) ?_
                        refine va_get (D := D) (ci := 12) (v := .int (V860 0 8)) (C := RX12) (T := TX12) (N := 100) hx hb hg inX12 hown hK hP 0 rfl rfl 8 (by decide) (hg _ w1718) (fun _ h9 => h9) rfl dX12_member_158 ?_
                        refine lv_if_ne (tgt := 179) hx hb dX12_member_161 (by decide) (fun c882 => ?_) (fun c882 => ?_)
                        · skip
                          have f883 : ((V860 0 8)).toInt ≠ 0 := b_neq rfl (by decide) c882
                          exfalso; omega
                        · skip
                          have f884 : ((V860 0 8)).toInt = 0 := b_eq rfl (by decide) c882
                          have nt9 : mx863.1 ∉ (nx gs 1).2.2.2 := by rw [oS]; exact fun q9 => absurd (ow5.mpr q9) (by omega)
                          have hr885 : ∀ k, Rc gT (Crun gs (Imember :: k)) (Crun (sT mx863.2 (mx863.1 :: (nx gs 1).2.2.2)) (Iexpr 0 :: Itake 59 :: Imember :: k)) := fun k => Rc.go1 (hr845 k) (mn_y (MTX.new mt869 h864 nt9))
                          have ps886 : (sT mx863.2 (mx863.1 :: (nx gs 1).2.2.2)).1 0 = mx863.2.1 0 := rfl
                          have rl887 : RelM V860 L861 bq gn gT (sT mx863.2 (mx863.1 :: (nx gs 1).2.2.2)) gl := RelM.tl rl865
                          refine lv_aload_n hx hb dX12_member_164 rfl (lv_at hl 1 rfl) ?_
                          refine va_get (D := D) (ci := 12) (v := .ref (ad 34)) (C := RX12) (T := TX12) (N := 100) hx hb hg inX12 hown hK hP 0 rfl rfl 34 (by decide) (hg _ w1744) (fun _ h9 => h9) rfl dX12_member_165 ?_
                          refine lv_bipush (v := 20) hx hb dX12_member_168 (by decide) ?_
                          refine lv_iload_n hx hb dX12_member_170 rfl (lv_at hl 2 rfl) ?_
                          refine lv_imul hx hb dX12_member_171 ?_
                          refine lv_topi (fun z888 ez888 => ?_)
                          have hz888 : z888.toInt = 20 * p0.toInt := i_mul ez888 (by decide) rfl (by omega)
                          refine lv_iload_n hx hb dX12_member_172 rfl (lv_at hl 0 rfl) ?_
                          refine lv_iadd hx hb dX12_member_173 ?_
                          refine lv_topi (fun z889 ez889 => ?_)
                          have hz889 : z889.toInt = z888.toInt + z852.toInt := i_add ez889 rfl rfl (by omega)
                          refine lv_aload_n hx hb dX12_member_174 rfl (lv_at hl 1 rfl) ?_
                          have pq890 : (V860 0 48).toInt = ((V 0 48)).toInt := congrArg Int32.toInt ((ajV860 0 48 rfl).trans ((ajV838 0 48 rfl).trans (ajV726 0 48 rfl)))
                          have pq891 : (V860 0 51).toInt = ((V 0 51)).toInt := congrArg Int32.toInt ((ajV860 0 51 rfl).trans ((ajV838 0 51 rfl).trans (ajV726 0 51 rfl)))
                          have pq892 : (V860 0 52).toInt = ((V 0 52)).toInt := congrArg Int32.toInt ((ajV860 0 52 rfl).trans ((ajV838 0 52 rfl).trans (ajV726 0 52 rfl)))
                          refine gA_int (gA_runV (As := []) (rest := [.int z889, .ref (ad 34)]) (ci := 12) (q0 := 0) hx hb hml hown hg hP hD hK hS hA hnw hgk (s_codeA l D ks H.size ad kk V860 L861 (bq) (gn) (gT) ((sT mx863.2 (mx863.1 :: (nx gs 1).2.2.2))) (gl) hMV860 rl887 (show (V860 0 48).toInt ≤ 2 * (V860 0 7).toInt from by omega) (EM.o2 (o := gc) (show (V860 27 gc).toInt = ((mx863.2.1 1 : Nat) : Int) from by rw [(by rw [(funext (fun q => ajV860 27 q rfl) : V860 27 = V838 27), (funext (fun q => ajV838 27 q rfl) : V838 27 = V726 27), (funext (fun q => ajV726 27 q rfl) : V726 27 = V 27)] : V860 27 = V 27)]; exact (by rw [((keepS.tr (keepS.tr (keepS.rf : keepS gs 0 gs) (keepS.n1 1)) kp868)).2.1 1 (by decide)]; exact ow.1)) (show mx863.2.1 4 = 0 from (by rw [((keepS.tr (keepS.tr (keepS.rf : keepS gs 0 gs) (keepS.n1 1)) kp868)).2.1 4 (by decide)]; exact ow.2.2.2.1)) (by omega) (by omega))) w2116 w2118 w105 w172 w2119 rfl rfl hdV_yX12_code ⟨Nat.le_of_ble_eq_true rfl, Nat.le_of_ble_eq_true rfl⟩ rfl hl.1 rfl (Nat.le_of_ble_eq_true rfl) dX12_member_175 ⟨Nat.le_of_ble_eq_true rfl, Nat.le_of_ble_eq_true rfl⟩) hP hD hK hS hA (fun z893 u894 H locs w895 hP hD hK hS => ?_)
                          obtain ⟨V905, L906⟩ := u894
                          obtain ⟨hMV905, ajV905, axL906, rgz893, t896, t897, t898, t899, t900, t901, t902, t903, t904⟩ := w895
                          have alL906 : agL [27, 28, 29, 30, 31, 32, 33, 34, 35, 36, 37, 38, 45, 46, 47] L L906 := agL.tr alL861 axL906 (by decide)
                          have hP : va_P D vwCl (mw ad kk ks.1 V905 L906) H := hP
                          have hD : va_D A (mw ad kk ks.1 V905 L906) := hD
                          have hMV905 : rgd bM V905 := hMV905
                          have ajV905 : agr [(0, 7), (0, 8), (0, 48), (0, 50)] [35, 36, 37, 38, 45, 46, 47] V860 V905 := ajV905
                          have agV905 : agr [(0, 7), (0, 8), (0, 48), (0, 50)] [27, 28, 29, 30, 31, 32, 33, 34, 35, 36, 37, 38, 45, 46, 47] V V905 := agV860.tr ajV905 (by decide) (by decide)
                          have rgz893 : 0 ≤ z893.toInt ∧ z893.toInt ≤ 20000 := rgz893
                          have t896 : Imp ((V905 0 8).toInt = 0) ((V905 0 48).toInt - (V860 0 48).toInt ≤ 2 * ((V905 0 7).toInt - (V860 0 7).toInt) + 1) := t896
                          have t897 : (V905 0 48).toInt ≤ 8060 := t897
                          have t898 : (V860 0 48).toInt ≤ (V905 0 48).toInt := t898
                          have t899 : z893.toInt = (V860 0 49).toInt + (V860 0 48).toInt := t899
                          have t900 : RdM (gT) ((sT mx863.2 (mx863.1 :: (nx gs 1).2.2.2))) (fun k => Iexpr 0 :: k) (fun k => k) (V905 0 8).toInt (fun s9 => RelM V905 L906 (bq) (gn) (gT) s9 (gl) ∧ keepS ((sT mx863.2 (mx863.1 :: (nx gs 1).2.2.2))) 1 s9) := t900
                          have t901 : RoV 35 (bq) V860 V905 := t901
                          have t902 : RoV 37 (bq) V860 V905 := t902
                          have t903 : RoL 36 20 (bq) L861 L906 := t903
                          have t904 : RoL 38 20 (bq) L861 L906 := t904
                          have r907 : 0 ≤ ((V905 0 48)).toInt ∧ ((V905 0 48)).toInt ≤ 10000 := hMV905 0 48
                          have r908 : 0 ≤ ((V905 0 8)).toInt ∧ ((V905 0 8)).toInt ≤ 70000 := hMV905 0 8
                          have pq909 : (V860 0 49).toInt = ((V 0 49)).toInt := congrArg Int32.toInt ((ajV860 0 49 rfl).trans ((ajV838 0 49 rfl).trans (ajV726 0 49 rfl)))
                          have r910 : 0 ≤ ((V 0 49)).toInt ∧ ((V 0 49)).toInt ≤ 10000 := hMV 0 49
                          rcases t900 with ⟨q911, sx912, h913, rl914, kp915⟩ | ⟨q911, h913⟩
                          · skip
                            have hr916 : ∀ k, Rc gT (Crun gs (Imember :: k)) (Crun sx912 (Itake 59 :: Imember :: k)) := fun k => (hr885 k).tr (h913 (Itake 59 :: Imember :: k))
                            have fz917 := RelM.rg rl914
                            have ps918 := (kp915).1
                            refine va_iast (D := D) (i := z889) (x := z893) hx hb hK hP hD hS 27 26 rfl rfl (i_in (a := z889.toInt) rfl (by first | omega | ((try (have i_t896 := Imp.go t896 (by omega))); omega))) dX12_member_178 (fun H locs hP hD hS => ?_)
                            obtain ⟨V919, hV919⟩ : ∃ z, z = up2 V905 34 (Int32.toNatClampNeg z889) z893 := ⟨_, rfl⟩
                            have hP : va_P D vwCl (mw ad kk ks.1 V919 L906) H := by rw [hV919]; exact hP
                            have hD : va_D A (mw ad kk ks.1 V919 L906) := by rw [hV919]; exact hD
                            have hMV919 : rgd bM V919 := hMV905.put hV919 (i_full _)
                            have agV919 : agr [(0, 7), (0, 8), (0, 48), (0, 50)] [27, 28, 29, 30, 31, 32, 33, 34, 35, 36, 37, 38, 45, 46, 47] V V919 := agV905.up hV919 rfl
                            refine lv_goto (tgt := 187) hx hb dX12_member_179 (by decide) ?_
                            refine lv_aload_n hx hb dX12_member_187 rfl (lv_at hl 1 rfl) ?_
                            refine lv_bipush (v := 59) hx hb dX12_member_188 (by decide) ?_
                            have rl920 : RelM V919 L906 bq gn gT sx912 gl := RelM.ag rl914 (show agr [] [34] V905 V919 from (agr.up agr.rf hV919 rfl)) (by decide) (show agL [] L906 L906 from agL.rf) (by decide)
                            have r921 : Int32.toInt 59 = 59 := by decide
                            refine gA_void (gA_runV (As := [.int 59]) (rest := []) (ci := 12) (q0 := 0) hx hb hml hown hg hP hD hK hS hA hnw hgk (s_takeSignA l D ks H.size ad kk V919 L906 59 (bq) (gn) (gT) (sx912) (gl) hMV919 rl920 (sg_yes (j := 59) (by decide) (by decide) (by decide))) w2079 w2081 w96 w172 w2082 rfl rfl hdV_yX12_takeSign ⟨Nat.le_of_ble_eq_true rfl, Nat.le_of_ble_eq_true rfl⟩ rfl hl.1 rfl (Nat.le_of_ble_eq_true rfl) dX12_member_190 ⟨Nat.le_of_ble_eq_true rfl, Nat.le_of_ble_eq_true rfl⟩) hP hD hK hS hA (fun u923 H locs w924 hP hD hK hS => ?_)
                            obtain ⟨V926, L927⟩ := u923
                            obtain ⟨hMV926, ajV926, axL927, t925⟩ := w924
                            have axL927 : L906 = L927 := Eq.symm axL927
                            subst axL927
                            have hP : va_P D vwCl (mw ad kk ks.1 V926 L906) H := hP
                            have hD : va_D A (mw ad kk ks.1 V926 L906) := hD
                            have hMV926 : rgd bM V926 := hMV926
                            have ajV926 : agr [(0, 7), (0, 8)] [] V919 V926 := ajV926
                            have agV926 : agr [(0, 7), (0, 8), (0, 48), (0, 50)] [27, 28, 29, 30, 31, 32, 33, 34, 35, 36, 37, 38, 45, 46, 47] V V926 := agV919.tr ajV926 (by decide) (by decide)
                            have t925 : ((V926 0 8).toInt = 0 ∧ (gT).1 ((sx912).1 0) = (Int32.toInt 59) ∧ RelM V926 L906 (bq) (gn) (gT) (nx (sx912) 1) (gl)) ∨ (1 ≤ (V926 0 8).toInt ∧ (gT).1 ((sx912).1 0) ≠ (Int32.toInt 59) ∧ (V926 0 8).toInt = 1 + 16 * (gT).2.2 ((sx912).1 0)) := t925
                            rcases t925 with ⟨q928, h929, rl930⟩ | ⟨q928, h929, rl930⟩
                            · skip
                              have kd931 : gT.1 (sx912.1 0) = 59 := h929.trans (by decide)
                              have hr932 : ∀ k, Rc gT (Crun gs (Imember :: k)) (Crun (nx sx912 1) (Imember :: k)) := fun k => Rc.go1 (hr916 k) (tk_y kd931)
                              have ps933 : (nx sx912 1).1 0 = sx912.1 0 + 1 := rfl
                              have fz934 := RelM.rg rl930
                              have r935 : 0 ≤ ((V926 0 8)).toInt ∧ ((V926 0 8)).toInt ≤ 70000 := hMV926 0 8
                              have pq936 : (V926 0 48).toInt = ((V905 0 48)).toInt := congrArg Int32.toInt ((ajV926 0 48 rfl).trans (up2_o hV919 (by decide)))
                              have ps937 : gs.1 0 + 1 ≤ (nx gs 1).1 0 := ((keepS.n1 1)).1
                              have ps938 : (nx gs 1).1 0 + 1 ≤ mx863.2.1 0 := (kp868).1
                              have ps939 : (sT mx863.2 (mx863.1 :: (nx gs 1).2.2.2)).1 0 = mx863.2.1 0 := rfl
                              have ps940 : (sT mx863.2 (mx863.1 :: (nx gs 1).2.2.2)).1 0 + 1 ≤ sx912.1 0 := (kp915).1
                              have ps941 : sx912.1 0 + 1 ≤ (nx sx912 1).1 0 := ((keepS.n1 1)).1
                              have k34 : (Int32.toNatClampNeg z889) = 20 * gc + mx863.1 := by have h9 := i_clamp (x := z889) rfl (by omega); omega
                              have cs942 : 0 ≤ (V926 34 (20 * gc + mx863.1)).toInt := by have h9 : V926 34 (Int32.toNatClampNeg z889) = z893 := ((ajV926 34 (Int32.toNatClampNeg z889) rfl).trans (up2_s hV919)); rw [k34] at h9; rw [h9]; omega
                              have cn943 : CNm V926 bq gs := CNm.ag cnm (show agr [(0, 7), (0, 8), (0, 48), (0, 50)] [34, 35, 36, 37, 38, 45, 46, 47] V V926 from (agr.tr (agr.up (agr.tr (agr.tr (agr.tr (agr.tr agr.rf ajV726 (by decide) (by decide)) ajV838 (by decide) (by decide)) ajV860 (by decide) (by decide)) ajV905 (by decide) (by decide)) hV919 rfl) ajV926 (by decide) (by decide))) (by decide) keepC.rf
                              have cn944 : CNm V926 bq (nx sx912 1) := CNm.mv cn943 (fun _ _ _ => rfl) (keepC.tr (keepC.tr (keepC.tr (keepC.tr (keepC.tr (keepC.rf : keepC gs gs) (keepS.c (keepS.n1 1))) (keepS.c kp868)) (keepC.st : keepC mx863.2 (sT mx863.2 (mx863.1 :: (nx gs 1).2.2.2)))) (keepS.c kp915)) (keepS.c (keepS.n1 1)))
                              have rw945 : RoV 35 bq V V926 := (fun k hk => ((ajV926 35 k rfl).trans ((up2_o hV919 (by decide)).trans ((t901 k hk).trans ((t856 k hk).trans ((ajV838 35 k rfl).trans ((ajV726 35 k rfl).trans rfl)))))))
                              have rw946 : RoV 37 bq V V926 := (fun k hk => ((ajV926 37 k rfl).trans ((up2_o hV919 (by decide)).trans ((t902 k hk).trans ((t857 k hk).trans ((ajV838 37 k rfl).trans ((ajV726 37 k rfl).trans rfl)))))))
                              have rw947 : RoL 36 20 bq L L906 := (fun k hk => ((t903 k hk).trans ((t858 k hk).trans rfl)))
                              have rw948 : RoL 38 20 bq L L906 := (fun k hk => ((t904 k hk).trans ((t859 k hk).trans rfl)))
                              exact W.vret hx hb hr (fun t ht hW => ⟨⟨(V926, L906), rfl, ⟨hMV926, agV926, alL906, (Imp.mk (fun hp => have hp : (V926 0 8).toInt = 0 := hp; (show (V926 0 48).toInt ≤ 2 * (V926 0 7).toInt from by first | omega | ((try (have i_t896 := Imp.go t896 (by omega))); omega)))), (show (V926 0 48).toInt ≤ 8120 from by first | omega | ((try (have i_t896 := Imp.go t896 (by omega))); omega)), (Or.inl ⟨W0 rl930, (nx sx912 1), hr932, rl930, (by omega), (OWm.mt (m := 1) ow (keepS.le (keepS.tr (keepS.rf : keepS gs 0 gs) (keepS.n1 1)) (by decide)) (Nat.le_refl _) kp868 (MTX.le mt869).1 (MTX.le mt869).2 (keepS.le (keepS.tr (keepS.tr (keepS.rf : keepS (sT mx863.2 (mx863.1 :: (nx gs 1).2.2.2)) 0 (sT mx863.2 (mx863.1 :: (nx gs 1).2.2.2))) kp915) (keepS.n1 1)) (by decide)) (show (mx863.2.2.1 3).length ≤ ((nx sx912 1).2.1 3).length from by have h9 := Rc.ml (h913 []); exact h9) (show V926 27 gc = V 27 gc from ((ajV926 27 _ rfl).trans ((up2_o hV919 (by decide)).trans ((ajV905 27 _ rfl).trans ((ajV860 27 _ rfl).trans ((ajV838 27 _ rfl).trans ((ajV726 27 _ rfl).trans rfl))))))) (show V926 32 gc = V 32 gc from ((ajV926 32 _ rfl).trans ((up2_o hV919 (by decide)).trans ((ajV905 32 _ rfl).trans ((ajV860 32 _ rfl).trans ((ajV838 32 _ rfl).trans ((ajV726 32 _ rfl).trans rfl))))))) (show V926 33 gc = V 33 gc from ((ajV926 33 _ rfl).trans ((up2_o hV919 (by decide)).trans ((ajV905 33 _ rfl).trans ((ajV860 33 _ rfl).trans ((ajV838 33 _ rfl).trans ((ajV726 33 _ rfl).trans rfl))))))) cs942 (fun f hf hne => ((ajV926 34 _ rfl).trans ((up2_k hV919 (by omega)).trans ((ajV905 34 _ rfl).trans ((ajV860 34 _ rfl).trans ((ajV838 34 _ rfl).trans ((ajV726 34 _ rfl).trans rfl)))))))), ((((keepS.n1 1)).2.2.1 2 (by decide)).trans (((kp915).2.2.1 2 (by decide)).trans ((rfl : (sT mx863.2 (mx863.1 :: (nx gs 1).2.2.2)).2.1 2 = mx863.2.2.1 2).trans (((kp868).2.2.1 2 (by decide)).trans ((((keepS.n1 1)).2.2.1 2 (by decide)).trans (rfl : gs.2.1 2 = gs.2.1 2)))))), ((congrArg (fun q9 => q9.1) ((keepS.n1 1)).2.2.2).trans ((congrArg (fun q9 => q9.1) (kp915).2.2.2).trans ((rfl : (sT mx863.2 (mx863.1 :: (nx gs 1).2.2.2)).2.2.1 = mx863.2.2.2.1).trans ((congrArg (fun q9 => q9.1) (kp868).2.2.2).trans ((congrArg (fun q9 => q9.1) ((keepS.n1 1)).2.2.2).trans (rfl : gs.2.2.1 = gs.2.2.1)))))), cn944⟩), rw945, rw946, rw947, rw948⟩, by rw [ht]; exact hP, va_K.moved hW.alike hK, hD⟩, hS.F ht⟩) hS.2.2 dX12_member_193
                            · skip
                              have kd949 : gT.1 (sx912.1 0) ≠ 59 := fun h9 => h929 (h9.trans (by decide))
                              have hb950 : ∀ k, Rc gT (Crun gs (Imember :: k)) (Cbad (V926 0 8).toInt) := fun k => Rc.go1 (hr916 k) ((tk_n kd949).trans (fl_eq rfl rl930))
                              have r951 : 0 ≤ ((V926 0 8)).toInt ∧ ((V926 0 8)).toInt ≤ 70000 := hMV926 0 8
                              have pq952 : (V926 0 48).toInt = ((V905 0 48)).toInt := congrArg Int32.toInt ((ajV926 0 48 rfl).trans (up2_o hV919 (by decide)))
                              have rw953 : RoV 35 bq V V926 := (fun k hk => ((ajV926 35 k rfl).trans ((up2_o hV919 (by decide)).trans ((t901 k hk).trans ((t856 k hk).trans ((ajV838 35 k rfl).trans ((ajV726 35 k rfl).trans rfl)))))))
                              have rw954 : RoV 37 bq V V926 := (fun k hk => ((ajV926 37 k rfl).trans ((up2_o hV919 (by decide)).trans ((t902 k hk).trans ((t857 k hk).trans ((ajV838 37 k rfl).trans ((ajV726 37 k rfl).trans rfl)))))))
                              have rw955 : RoL 36 20 bq L L906 := (fun k hk => ((t903 k hk).trans ((t858 k hk).trans rfl)))
                              have rw956 : RoL 38 20 bq L L906 := (fun k hk => ((t904 k hk).trans ((t859 k hk).trans rfl)))
                              exact W.vret hx hb hr (fun t ht hW => ⟨⟨(V926, L906), rfl, ⟨hMV926, agV926, alL906, (Imp.mk (fun hp => have hp : (V926 0 8).toInt = 0 := hp; (show (V926 0 48).toInt ≤ 2 * (V926 0 7).toInt from by first | omega | ((try (have i_t896 := Imp.go t896 (by omega))); omega)))), (show (V926 0 48).toInt ≤ 8120 from by first | omega | ((try (have i_t896 := Imp.go t896 (by omega))); omega)), (Or.inr ⟨(show 1 ≤ (V926 0 8).toInt from by omega), hb950⟩), rw953, rw954, rw955, rw956⟩, by rw [ht]; exact hP, va_K.moved hW.alike hK, hD⟩, hS.F ht⟩) hS.2.2 dX12_member_193
                          · skip
                            have hb957 : ∀ k, Rc gT (Crun gs (Imember :: k)) (Cbad (V905 0 8).toInt) := fun k => (hr885 k).tr (h913 (Itake 59 :: Imember :: k))
                            refine va_iast (D := D) (i := z889) (x := z893) hx hb hK hP hD hS 27 26 rfl rfl (i_in (a := z889.toInt) rfl (by first | omega | ((try (have i_t896 := Imp.go t896 (by omega))); omega))) dX12_member_178 (fun H locs hP hD hS => ?_)
                            obtain ⟨V958, hV958⟩ : ∃ z, z = up2 V905 34 (Int32.toNatClampNeg z889) z893 := ⟨_, rfl⟩
                            have hP : va_P D vwCl (mw ad kk ks.1 V958 L906) H := by rw [hV958]; exact hP
                            have hD : va_D A (mw ad kk ks.1 V958 L906) := by rw [hV958]; exact hD
                            have hMV958 : rgd bM V958 := hMV905.put hV958 (i_full _)
                            have agV958 : agr [(0, 7), (0, 8), (0, 48), (0, 50)] [27, 28, 29, 30, 31, 32, 33, 34, 35, 36, 37, 38, 45, 46, 47] V V958 := agV905.up hV958 rfl
                            refine lv_goto (tgt := 187) hx hb dX12_member_179 (by decide) ?_
                            refine lv_aload_n hx hb dX12_member_187 rfl (lv_at hl 1 rfl) ?_
                            refine lv_bipush (v := 59) hx hb dX12_member_188 (by decide) ?_
                            have r959 : Int32.toInt 59 = 59 := by decide
                            have pq960 : (V958 0 8).toInt = ((V905 0 8)).toInt := congrArg Int32.toInt (up2_o hV958 (by decide))
                            refine gA_void (gA_runV (As := [.int 59]) (rest := []) (ci := 12) (q0 := 0) hx hb hml hown hg hP hD hK hS hA hnw hgk (s_takeSignB l D ks H.size ad kk V958 L906 59 hMV958 (show 1 ≤ (V958 0 8).toInt from by first | omega | ((try (have i_t896 := Imp.go t896 (by omega))); omega))) w2079 w2081 w96 w172 w2082 rfl rfl hdV_yX12_takeSign ⟨Nat.le_of_ble_eq_true rfl, Nat.le_of_ble_eq_true rfl⟩ rfl hl.1 rfl (Nat.le_of_ble_eq_true rfl) dX12_member_190 ⟨Nat.le_of_ble_eq_true rfl, Nat.le_of_ble_eq_true rfl⟩) hP hD hK hS hA (fun u962 H locs w963 hP hD hK hS => ?_)
                            obtain ⟨V965, L966⟩ := u962
                            obtain ⟨hMV965, ajV965, axL966, t964⟩ := w963
                            have axL966 : L906 = L966 := Eq.symm axL966
                            subst axL966
                            have hP : va_P D vwCl (mw ad kk ks.1 V965 L906) H := hP
                            have hD : va_D A (mw ad kk ks.1 V965 L906) := hD
                            have hMV965 : rgd bM V965 := hMV965
                            have ajV965 : agr [(0, 7), (0, 8)] [] V958 V965 := ajV965
                            have agV965 : agr [(0, 7), (0, 8), (0, 48), (0, 50)] [27, 28, 29, 30, 31, 32, 33, 34, 35, 36, 37, 38, 45, 46, 47] V V965 := agV958.tr ajV965 (by decide) (by decide)
                            have t964 : (V965 0 8).toInt = (V958 0 8).toInt := t964
                            have r967 : 0 ≤ ((V965 0 8)).toInt ∧ ((V965 0 8)).toInt ≤ 70000 := hMV965 0 8
                            have pq968 : (V965 0 48).toInt = ((V905 0 48)).toInt := congrArg Int32.toInt ((ajV965 0 48 rfl).trans (up2_o hV958 (by decide)))
                            have rw969 : RoV 35 bq V V965 := (fun k hk => ((ajV965 35 k rfl).trans ((up2_o hV958 (by decide)).trans ((t901 k hk).trans ((t856 k hk).trans ((ajV838 35 k rfl).trans ((ajV726 35 k rfl).trans rfl)))))))
                            have rw970 : RoV 37 bq V V965 := (fun k hk => ((ajV965 37 k rfl).trans ((up2_o hV958 (by decide)).trans ((t902 k hk).trans ((t857 k hk).trans ((ajV838 37 k rfl).trans ((ajV726 37 k rfl).trans rfl)))))))
                            have rw971 : RoL 36 20 bq L L906 := (fun k hk => ((t903 k hk).trans ((t858 k hk).trans rfl)))
                            have rw972 : RoL 38 20 bq L L906 := (fun k hk => ((t904 k hk).trans ((t859 k hk).trans rfl)))
                            exact W.vret hx hb hr (fun t ht hW => ⟨⟨(V965, L906), rfl, ⟨hMV965, agV965, alL906, (Imp.mk (fun hp => have hp : (V965 0 8).toInt = 0 := hp; (show (V965 0 48).toInt ≤ 2 * (V965 0 7).toInt from by first | omega | ((try (have i_t896 := Imp.go t896 (by omega))); omega)))), (show (V965 0 48).toInt ≤ 8120 from by first | omega | ((try (have i_t896 := Imp.go t896 (by omega))); omega)), (Or.inr ⟨(show 1 ≤ (V965 0 8).toInt from by omega), (fun k => by rw [show (V965 0 8).toInt = (V905 0 8).toInt from by omega]; exact hb957 k)⟩), rw969, rw970, rw971, rw972⟩, by rw [ht]; exact hP, va_K.moved hW.alike hK, hD⟩, hS.F ht⟩) hS.2.2 dX12_member_193
                      · skip
                        have f973 : 0 ≤ ((V 34 (Int32.toNatClampNeg z877))).toInt := b_nlt rfl (by decide) c880
                        refine lv_aload_n hx hb dX12_member_142 rfl (lv_at hl 1 rfl) ?_
                        refine lv_dup hx hb dX12_member_143 rfl ?_
                        refine va_get (D := D) (ci := 12) (v := .int (V860 0 7)) (C := RX12) (T := TX12) (N := 100) hx hb hg inX12 hown hK hP 0 rfl rfl 7 (by decide) (hg _ w1717) (fun _ h9 => h9) rfl dX12_member_144 ?_
                        refine lv_iconst (v := 1) hx hb dX12_member_147 (by decide) ?_
                        refine lv_isub hx hb dX12_member_148 ?_
                        refine lv_topi (fun z974 ez974 => ?_)
                        have hz974 : z974.toInt = ((V860 0 7)).toInt - 1 := i_sub ez974 rfl (by decide) (by omega)
                        refine va_put (D := D) (ci := 12) (v := .int z974) (ty := tyX12 7) (C := RX12) (T := TX12) (N := 100) hx hb hg inX12 tyX12 tyX12_ok nmX12 hown hK hP hD hS 0 rfl rfl 7 (by decide) (hg _ w1717) (fun _ h9 => h9) rfl (tyX12_ok 7 (by decide)) rfl rfl (Nat.le_of_ble_eq_true rfl) dX12_member_149 (fun H locs hP hD hS => ?_)
                        obtain ⟨V975, hV975⟩ : ∃ z, z = up2 V860 0 7 z974 := ⟨_, rfl⟩
                        have hP : va_P D vwCl (mw ad kk ks.1 V975 L861) H := by rw [hV975]; exact hP
                        have hD : va_D A (mw ad kk ks.1 V975 L861) := by rw [hV975]; exact hD
                        have hMV975 : rgd bM V975 := hMV860.put hV975 (i_full _)
                        have agV975 : agr [(0, 7), (0, 8), (0, 48), (0, 50)] [27, 28, 29, 30, 31, 32, 33, 34, 35, 36, 37, 38, 45, 46, 47] V V975 := agV860.up hV975 rfl
                        have tx := MTX.told mt869 (by rw [oS]; exact ow5.mp (by omega)) (by rw [oS, oL]; exact ow.2.2.2.2.2)
                        have rl976 : RelM V975 L861 bq gn gT (nx gs 1) gl := RelM.v8 (by rw [← tx.2]; exact rl865) hV975 (by omega)
                        have fz977 := RelM.rg rl976
                        have pq978 : (V975 0 8).toInt = ((V860 0 8)).toInt := congrArg Int32.toInt (up2_k hV975 (by decide))
                        have pq979 : (V975 0 7).toInt = z974.toInt := congrArg Int32.toInt (up2_s hV975)
                        have mn3 : ∀ k, mst gT (Crun (nx gs 1) (ImethN :: k)) = fl gT (nx gs 1) 3 := fun k => mthN_3 (mth_k3 h864) tx.1 _
                        refine lv_aload_n hx hb dX12_member_152 rfl (lv_at hl 1 rfl) ?_
                        refine lv_iconst (v := 3) hx hb dX12_member_153 (by decide) ?_
                        have r980 : Int32.toInt 3 = 3 := by decide
                        refine gA_void (gA_runV (As := [.int 3]) (rest := []) (ci := 12) (q0 := 0) hx hb hml hown hg hP hD hK hS hA hnw hgk (s_wrongA l D ks H.size ad kk V975 L861 3 (bq) (gn) (gT) ((nx gs 1)) (gl) hMV975 (by decide) rl976) w2039 w2041 w86 w172 w2042 rfl rfl hdV_yX12_wrong ⟨Nat.le_of_ble_eq_true rfl, Nat.le_of_ble_eq_true rfl⟩ rfl hl.1 rfl (Nat.le_of_ble_eq_true rfl) dX12_member_154 ⟨Nat.le_of_ble_eq_true rfl, Nat.le_of_ble_eq_true rfl⟩) hP hD hK hS hA (fun u982 H locs w983 hP hD hK hS => ?_)
                        obtain ⟨V986, L987⟩ := u982
                        obtain ⟨hMV986, ajV986, axL987, t984, t985⟩ := w983
                        have axL987 : L861 = L987 := Eq.symm axL987
                        subst axL987
                        have hP : va_P D vwCl (mw ad kk ks.1 V986 L861) H := hP
                        have hD : va_D A (mw ad kk ks.1 V986 L861) := hD
                        have hMV986 : rgd bM V986 := hMV986
                        have ajV986 : agr [(0, 8)] [] V975 V986 := ajV986
                        have agV986 : agr [(0, 7), (0, 8), (0, 48), (0, 50)] [27, 28, 29, 30, 31, 32, 33, 34, 35, 36, 37, 38, 45, 46, 47] V V986 := agV975.tr ajV986 (by decide) (by decide)
                        have t984 : 1 ≤ (V986 0 8).toInt := t984
                        have t985 : (V986 0 8).toInt = (Int32.toInt 3) + 16 * (gT).2.2 (((nx gs 1)).1 0) := t985
                        have r988 : 0 ≤ ((V986 0 8)).toInt ∧ ((V986 0 8)).toInt ≤ 70000 := hMV986 0 8
                        have hb989 : ∀ k, Rc gT (Crun gs (Imember :: k)) (Cbad (V986 0 8).toInt) := fun k => Rc.go1 (hr845 k) ((mn3 _).trans (fl_eq rfl (show (V986 0 8).toInt = 3 + 16 * gT.2.2 ((nx gs 1).1 0) from by omega)))
                        refine lv_aload_n hx hb dX12_member_157 rfl (lv_at hl 1 rfl) ?_
                        refine va_get (D := D) (ci := 12) (v := .int (V986 0 8)) (C := RX12) (T := TX12) (N := 100) hx hb hg inX12 hown hK hP 0 rfl rfl 8 (by decide) (hg _ w1718) (fun _ h9 => h9) rfl dX12_member_158 ?_
                        refine lv_if_ne (tgt := 179) hx hb dX12_member_161 (by decide) (fun c990 => ?_) (fun c990 => ?_)
                        · skip
                          have f991 : ((V986 0 8)).toInt ≠ 0 := b_neq rfl (by decide) c990
                          refine lv_goto (tgt := 187) hx hb dX12_member_179 (by decide) ?_
                          refine lv_aload_n hx hb dX12_member_187 rfl (lv_at hl 1 rfl) ?_
                          refine lv_bipush (v := 59) hx hb dX12_member_188 (by decide) ?_
                          have r992 : Int32.toInt 59 = 59 := by decide
                          refine gA_void (gA_runV (As := [.int 59]) (rest := []) (ci := 12) (q0 := 0) hx hb hml hown hg hP hD hK hS hA hnw hgk (s_takeSignB l D ks H.size ad kk V986 L861 59 hMV986 (show 1 ≤ (V986 0 8).toInt from by omega)) w2079 w2081 w96 w172 w2082 rfl rfl hdV_yX12_takeSign ⟨Nat.le_of_ble_eq_true rfl, Nat.le_of_ble_eq_true rfl⟩ rfl hl.1 rfl (Nat.le_of_ble_eq_true rfl) dX12_member_190 ⟨Nat.le_of_ble_eq_true rfl, Nat.le_of_ble_eq_true rfl⟩) hP hD hK hS hA (fun u994 H locs w995 hP hD hK hS => ?_)
                          obtain ⟨V997, L998⟩ := u994
                          obtain ⟨hMV997, ajV997, axL998, t996⟩ := w995
                          have axL998 : L861 = L998 := Eq.symm axL998
                          subst axL998
                          have hP : va_P D vwCl (mw ad kk ks.1 V997 L861) H := hP
                          have hD : va_D A (mw ad kk ks.1 V997 L861) := hD
                          have hMV997 : rgd bM V997 := hMV997
                          have ajV997 : agr [(0, 7), (0, 8)] [] V986 V997 := ajV997
                          have agV997 : agr [(0, 7), (0, 8), (0, 48), (0, 50)] [27, 28, 29, 30, 31, 32, 33, 34, 35, 36, 37, 38, 45, 46, 47] V V997 := agV986.tr ajV997 (by decide) (by decide)
                          have t996 : (V997 0 8).toInt = (V986 0 8).toInt := t996
                          have r999 : 0 ≤ ((V997 0 8)).toInt ∧ ((V997 0 8)).toInt ≤ 70000 := hMV997 0 8
                          have pq1000 : (V997 0 48).toInt = ((V 0 48)).toInt := congrArg Int32.toInt ((ajV997 0 48 rfl).trans ((ajV986 0 48 rfl).trans ((up2_k hV975 (by decide)).trans ((ajV860 0 48 rfl).trans ((ajV838 0 48 rfl).trans (ajV726 0 48 rfl))))))
                          have rw1001 : RoV 35 bq V V997 := (fun k hk => ((ajV997 35 k rfl).trans ((ajV986 35 k rfl).trans ((up2_o hV975 (by decide)).trans ((t856 k hk).trans ((ajV838 35 k rfl).trans ((ajV726 35 k rfl).trans rfl)))))))
                          have rw1002 : RoV 37 bq V V997 := (fun k hk => ((ajV997 37 k rfl).trans ((ajV986 37 k rfl).trans ((up2_o hV975 (by decide)).trans ((t857 k hk).trans ((ajV838 37 k rfl).trans ((ajV726 37 k rfl).trans rfl)))))))
                          have rw1003 : RoL 36 20 bq L L861 := (fun k hk => ((t858 k hk).trans rfl))
                          have rw1004 : RoL 38 20 bq L L861 := (fun k hk => ((t859 k hk).trans rfl))
                          exact W.vret hx hb hr (fun t ht hW => ⟨⟨(V997, L861), rfl, ⟨hMV997, agV997, alL861, (Imp.mk (fun hp => have hp : (V997 0 8).toInt = 0 := hp; (show (V997 0 48).toInt ≤ 2 * (V997 0 7).toInt from by omega))), (show (V997 0 48).toInt ≤ 8120 from by omega), (Or.inr ⟨(show 1 ≤ (V997 0 8).toInt from by omega), (fun k => by rw [show (V997 0 8).toInt = (V986 0 8).toInt from by omega]; exact hb989 k)⟩), rw1001, rw1002, rw1003, rw1004⟩, by rw [ht]; exact hP, va_K.moved hW.alike hK, hD⟩, hS.F ht⟩) hS.2.2 dX12_member_193
                        · skip
                          have f1005 : ((V986 0 8)).toInt = 0 := b_eq rfl (by decide) c990
                          exfalso; omega
                  · skip
                    have hb1006 : ∀ k, Rc gT (Crun gs (Imember :: k)) (Cbad (V860 0 8).toInt) := fun k => Rc.go1 (hr845 k) (mn_b (Km_mthN h864))
                    have r1007 : 0 ≤ ((V860 0 8)).toInt ∧ ((V860 0 8)).toInt ≤ 70000 := hMV860 0 8
                    refine lv_istore_n (lv' := [(2, .int z852), (0, .ref (ad 0)), (1, .int p0)]) hx hb dX12_member_120 rfl hl (by decide) rfl (fun ls hl => ?_)
                    refine lv_aload_n hx hb dX12_member_121 rfl (lv_at hl 1 rfl) ?_
                    refine va_get (D := D) (ci := 12) (v := .int (V860 0 8)) (C := RX12) (T := TX12) (N := 100) hx hb hg inX12 hown hK hP 0 rfl rfl 8 (by decide) (hg _ w1718) (fun _ h9 => h9) rfl dX12_member_122 ?_
                    refine lv_if_ne (tgt := 157) hx hb dX12_member_125 (by decide) (fun c1008 => ?_) (fun c1008 => ?_)
                    · skip
                      have f1009 : ((V860 0 8)).toInt ≠ 0 := b_neq rfl (by decide) c1008
                      refine lv_aload_n hx hb dX12_member_157 rfl (lv_at hl 1 rfl) ?_
                      refine va_get (D := D) (ci := 12) (v := .int (V860 0 8)) (C := RX12) (T := TX12) (N := 100) hx hb hg inX12 hown hK hP 0 rfl rfl 8 (by decide) (hg _ w1718) (fun _ h9 => h9) rfl dX12_member_158 ?_
                      refine lv_if_ne (tgt := 179) hx hb dX12_member_161 (by decide) (fun c1010 => ?_) (fun c1010 => ?_)
                      · skip
                        have f1011 : ((V860 0 8)).toInt ≠ 0 := b_neq rfl (by decide) c1010
                        refine lv_goto (tgt := 187) hx hb dX12_member_179 (by decide) ?_
                        refine lv_aload_n hx hb dX12_member_187 rfl (lv_at hl 1 rfl) ?_
                        refine lv_bipush (v := 59) hx hb dX12_member_188 (by decide) ?_
                        have r1012 : Int32.toInt 59 = 59 := by decide
                        refine gA_void (gA_runV (As := [.int 59]) (rest := []) (ci := 12) (q0 := 0) hx hb hml hown hg hP hD hK hS hA hnw hgk (s_takeSignB l D ks H.size ad kk V860 L861 59 hMV860 (show 1 ≤ (V860 0 8).toInt from by omega)) w2079 w2081 w96 w172 w2082 rfl rfl hdV_yX12_takeSign ⟨Nat.le_of_ble_eq_true rfl, Nat.le_of_ble_eq_true rfl⟩ rfl hl.1 rfl (Nat.le_of_ble_eq_true rfl) dX12_member_190 ⟨Nat.le_of_ble_eq_true rfl, Nat.le_of_ble_eq_true rfl⟩) hP hD hK hS hA (fun u1014 H locs w1015 hP hD hK hS => ?_)
                        obtain ⟨V1017, L1018⟩ := u1014
                        obtain ⟨hMV1017, ajV1017, axL1018, t1016⟩ := w1015
                        have axL1018 : L861 = L1018 := Eq.symm axL1018
                        subst axL1018
                        have hP : va_P D vwCl (mw ad kk ks.1 V1017 L861) H := hP
                        have hD : va_D A (mw ad kk ks.1 V1017 L861) := hD
                        have hMV1017 : rgd bM V1017 := hMV1017
                        have ajV1017 : agr [(0, 7), (0, 8)] [] V860 V1017 := ajV1017
                        have agV1017 : agr [(0, 7), (0, 8), (0, 48), (0, 50)] [27, 28, 29, 30, 31, 32, 33, 34, 35, 36, 37, 38, 45, 46, 47] V V1017 := agV860.tr ajV1017 (by decide) (by decide)
                        have t1016 : (V1017 0 8).toInt = (V860 0 8).toInt := t1016
                        have r1019 : 0 ≤ ((V1017 0 8)).toInt ∧ ((V1017 0 8)).toInt ≤ 70000 := hMV1017 0 8
                        have pq1020 : (V1017 0 48).toInt = ((V 0 48)).toInt := congrArg Int32.toInt ((ajV1017 0 48 rfl).trans ((ajV860 0 48 rfl).trans ((ajV838 0 48 rfl).trans (ajV726 0 48 rfl))))
                        have rw1021 : RoV 35 bq V V1017 := (fun k hk => ((ajV1017 35 k rfl).trans ((t856 k hk).trans ((ajV838 35 k rfl).trans ((ajV726 35 k rfl).trans rfl)))))
                        have rw1022 : RoV 37 bq V V1017 := (fun k hk => ((ajV1017 37 k rfl).trans ((t857 k hk).trans ((ajV838 37 k rfl).trans ((ajV726 37 k rfl).trans rfl)))))
                        have rw1023 : RoL 36 20 bq L L861 := (fun k hk => ((t858 k hk).trans rfl))
                        have rw1024 : RoL 38 20 bq L L861 := (fun k hk => ((t859 k hk).trans rfl))
                        exact W.vret hx hb hr (fun t ht hW => ⟨⟨(V1017, L861), rfl, ⟨hMV1017, agV1017, alL861, (Imp.mk (fun hp => have hp : (V1017 0 8).toInt = 0 := hp; (show (V1017 0 48).toInt ≤ 2 * (V1017 0 7).toInt from by omega))), (show (V1017 0 48).toInt ≤ 8120 from by omega), (Or.inr ⟨(show 1 ≤ (V1017 0 8).toInt from by omega), (fun k => by rw [show (V1017 0 8).toInt = (V860 0 8).toInt from by omega]; exact hb1006 k)⟩), rw1021, rw1022, rw1023, rw1024⟩, by rw [ht]; exact hP, va_K.moved hW.alike hK, hD⟩, hS.F ht⟩) hS.2.2 dX12_member_193
                      · skip
                        have f1025 : ((V860 0 8)).toInt = 0 := b_eq rfl (by decide) c1010
                        exfalso; omega
                    · skip
                      have f1026 : ((V860 0 8)).toInt = 0 := b_eq rfl (by decide) c1008
                      exfalso; omega
              · skip
                have kd1027 : gT.1 (gs.1 0) ≠ 142 := fun h9 => h841 (h9.trans (by decide))
                have fz1028 := RelM.rg rl842
                have pq1029 : (V838 0 8).toInt = ((V 0 8)).toInt := congrArg Int32.toInt ((ajV838 0 8 rfl).trans (ajV726 0 8 rfl))
                refine lv_if_eq (tgt := 182) hx hb dX12_member_105 (by decide) (fun c1030 => ?_) (fun c1030 => ?_)
                · skip
                  have f1031 : z834.toInt = 0 := b_eq rfl (by decide) c1030
                  refine lv_aload_n hx hb dX12_member_182 rfl (lv_at hl 0 rfl) ?_
                  refine lv_iconst (v := 1) hx hb dX12_member_183 (by decide) ?_
                  have r1032 : Int32.toInt 1 = 1 := by decide
                  refine gA_void (gA_runV (As := [.int 1]) (rest := []) (ci := 12) (q0 := 0) hx hb hml hown hg hP hD hK hS hA hnw hgk (s_wrongA l D ks H.size ad kk V838 L 1 (bq) (gn) (gT) (gs) (gl) hMV838 (by decide) rl842) w2039 w2041 w86 w172 w2042 rfl rfl hdV_yX12_wrong ⟨Nat.le_of_ble_eq_true rfl, Nat.le_of_ble_eq_true rfl⟩ rfl hl.1 rfl (Nat.le_of_ble_eq_true rfl) dX12_member_184 ⟨Nat.le_of_ble_eq_true rfl, Nat.le_of_ble_eq_true rfl⟩) hP hD hK hS hA (fun u1034 H locs w1035 hP hD hK hS => ?_)
                  obtain ⟨V1038, L1039⟩ := u1034
                  obtain ⟨hMV1038, ajV1038, axL1039, t1036, t1037⟩ := w1035
                  have axL1039 : L = L1039 := Eq.symm axL1039
                  subst axL1039
                  have hP : va_P D vwCl (mw ad kk ks.1 V1038 L) H := hP
                  have hD : va_D A (mw ad kk ks.1 V1038 L) := hD
                  have hMV1038 : rgd bM V1038 := hMV1038
                  have ajV1038 : agr [(0, 8)] [] V838 V1038 := ajV1038
                  have agV1038 : agr [(0, 7), (0, 8), (0, 48), (0, 50)] [27, 28, 29, 30, 31, 32, 33, 34, 35, 36, 37, 38, 45, 46, 47] V V1038 := agV838.tr ajV1038 (by decide) (by decide)
                  have t1036 : 1 ≤ (V1038 0 8).toInt := t1036
                  have t1037 : (V1038 0 8).toInt = (Int32.toInt 1) + 16 * (gT).2.2 ((gs).1 0) := t1037
                  have r1040 : 0 ≤ ((V1038 0 8)).toInt ∧ ((V1038 0 8)).toInt ≤ 70000 := hMV1038 0 8
                  have hr1041 : ∀ k, Rc gT (Crun gs (Imember :: k)) (Crun gs (Imember :: k)) := fun k => Rc.rf
                  have hb1042 : ∀ k, Rc gT (Crun gs (Imember :: k)) (Cbad (V1038 0 8).toInt) := fun k => Rc.go1 (hr1041 k) ((mb_f kn125 kd151 (Or.inl kd825) (Or.inr (by by_cases q9 : gs.1 3 = 1; exact q9; exact absurd (ow.2.2.1.mpr q9) (by omega))) kd1027).trans (fl_eq rfl (show (V1038 0 8).toInt = 1 + 16 * gT.2.2 (gs.1 0) from by omega)))
                  refine lv_aload_n hx hb dX12_member_187 rfl (lv_at hl 0 rfl) ?_
                  refine lv_bipush (v := 59) hx hb dX12_member_188 (by decide) ?_
                  have r1043 : Int32.toInt 59 = 59 := by decide
                  refine gA_void (gA_runV (As := [.int 59]) (rest := []) (ci := 12) (q0 := 0) hx hb hml hown hg hP hD hK hS hA hnw hgk (s_takeSignB l D ks H.size ad kk V1038 L 59 hMV1038 (show 1 ≤ (V1038 0 8).toInt from by omega)) w2079 w2081 w96 w172 w2082 rfl rfl hdV_yX12_takeSign ⟨Nat.le_of_ble_eq_true rfl, Nat.le_of_ble_eq_true rfl⟩ rfl hl.1 rfl (Nat.le_of_ble_eq_true rfl) dX12_member_190 ⟨Nat.le_of_ble_eq_true rfl, Nat.le_of_ble_eq_true rfl⟩) hP hD hK hS hA (fun u1045 H locs w1046 hP hD hK hS => ?_)
                  obtain ⟨V1048, L1049⟩ := u1045
                  obtain ⟨hMV1048, ajV1048, axL1049, t1047⟩ := w1046
                  have axL1049 : L = L1049 := Eq.symm axL1049
                  subst axL1049
                  have hP : va_P D vwCl (mw ad kk ks.1 V1048 L) H := hP
                  have hD : va_D A (mw ad kk ks.1 V1048 L) := hD
                  have hMV1048 : rgd bM V1048 := hMV1048
                  have ajV1048 : agr [(0, 7), (0, 8)] [] V1038 V1048 := ajV1048
                  have agV1048 : agr [(0, 7), (0, 8), (0, 48), (0, 50)] [27, 28, 29, 30, 31, 32, 33, 34, 35, 36, 37, 38, 45, 46, 47] V V1048 := agV1038.tr ajV1048 (by decide) (by decide)
                  have t1047 : (V1048 0 8).toInt = (V1038 0 8).toInt := t1047
                  have r1050 : 0 ≤ ((V1048 0 8)).toInt ∧ ((V1048 0 8)).toInt ≤ 70000 := hMV1048 0 8
                  have pq1051 : (V1048 0 48).toInt = ((V 0 48)).toInt := congrArg Int32.toInt ((ajV1048 0 48 rfl).trans ((ajV1038 0 48 rfl).trans ((ajV838 0 48 rfl).trans (ajV726 0 48 rfl))))
                  have rw1052 : RoV 35 bq V V1048 := (fun k hk => ((ajV1048 35 k rfl).trans ((ajV1038 35 k rfl).trans ((ajV838 35 k rfl).trans ((ajV726 35 k rfl).trans rfl)))))
                  have rw1053 : RoV 37 bq V V1048 := (fun k hk => ((ajV1048 37 k rfl).trans ((ajV1038 37 k rfl).trans ((ajV838 37 k rfl).trans ((ajV726 37 k rfl).trans rfl)))))
                  have rw1054 : RoL 36 20 bq L L := (fun k hk => rfl)
                  have rw1055 : RoL 38 20 bq L L := (fun k hk => rfl)
                  exact W.vret hx hb hr (fun t ht hW => ⟨⟨(V1048, L), rfl, ⟨hMV1048, agV1048, alL, (Imp.mk (fun hp => have hp : (V1048 0 8).toInt = 0 := hp; (show (V1048 0 48).toInt ≤ 2 * (V1048 0 7).toInt from by omega))), (show (V1048 0 48).toInt ≤ 8120 from by omega), (Or.inr ⟨(show 1 ≤ (V1048 0 8).toInt from by omega), (fun k => by rw [show (V1048 0 8).toInt = (V1038 0 8).toInt from by omega]; exact hb1042 k)⟩), rw1052, rw1053, rw1054, rw1055⟩, by rw [ht]; exact hP, va_K.moved hW.alike hK, hD⟩, hS.F ht⟩) hS.2.2 dX12_member_193
                · skip
                  have f1056 : z834.toInt ≠ 0 := b_neq rfl (by decide) c1030
                  exfalso; omega
            · skip
              have f1057 : ((V 33 (Int32.toNatClampNeg p0))).toInt < 0 := b_nle (by decide) rfl c831
              refine lv_aload_n hx hb dX12_member_77 rfl (lv_at hl 0 rfl) ?_
              refine lv_bipush (v := 13) hx hb dX12_member_78 (by decide) ?_
              have r1058 : Int32.toInt 13 = 13 := by decide
              refine gA_int (gA_runV (As := [.int 13]) (rest := []) (ci := 12) (q0 := 0) hx hb hml hown hg hP hD hK hS hA hnw hgk (s_hasWordA l D ks H.size ad kk V726 L 13 (bq) (gn) (gT) (gs) (gl) hMV726 (by decide) rl730) w2055 w2057 w90 w172 w2058 rfl rfl hdV_yX12_hasWord ⟨Nat.le_of_ble_eq_true rfl, Nat.le_of_ble_eq_true rfl⟩ rfl hl.1 rfl (Nat.le_of_ble_eq_true rfl) dX12_member_80 ⟨Nat.le_of_ble_eq_true rfl, Nat.le_of_ble_eq_true rfl⟩) hP hD hK hS hA (fun z1059 u1060 H locs w1061 hP hD hK hS => ?_)
              obtain ⟨V1063, L1064⟩ := u1060
              obtain ⟨hMV1063, ajV1063, axL1064, rgz1059, t1062⟩ := w1061
              have axL1064 : L = L1064 := Eq.symm axL1064
              subst axL1064
              have hP : va_P D vwCl (mw ad kk ks.1 V1063 L) H := hP
              have hD : va_D A (mw ad kk ks.1 V1063 L) := hD
              have hMV1063 : rgd bM V1063 := hMV1063
              have ajV1063 : agr [(0, 7)] [] V726 V1063 := ajV1063
              have agV1063 : agr [(0, 7), (0, 8), (0, 48), (0, 50)] [27, 28, 29, 30, 31, 32, 33, 34, 35, 36, 37, 38, 45, 46, 47] V V1063 := agV726.tr ajV1063 (by decide) (by decide)
              have rgz1059 : 0 ≤ z1059.toInt ∧ z1059.toInt ≤ 1 := rgz1059
              have t1062 : (z1059.toInt = 1 ∧ (gT).1 ((gs).1 0) = 128 + (Int32.toInt 13) ∧ RelM V1063 L (bq) (gn) (gT) (nx (gs) 1) (gl)) ∨ (z1059.toInt = 0 ∧ (gT).1 ((gs).1 0) ≠ 128 + (Int32.toInt 13) ∧ RelM V1063 L (bq) (gn) (gT) (gs) (gl)) := t1062
              rcases t1062 with ⟨q1065, h1066, rl1067⟩ | ⟨q1065, h1066, rl1067⟩
              · skip
                have kd1068 : gT.1 (gs.1 0) = 141 := h1066.trans (by decide)
                have hr1069 : ∀ k, Rc gT (Crun gs (Imember :: k)) (Crun gs (Imember :: k)) := fun k => Rc.rf
                have hr1070 : ∀ k, Rc gT (Crun gs (Imember :: k)) (Crun (nx (sN gs 3 1) 1) (Iexpr 0 :: Itake 59 :: Imember :: k)) := fun k => Rc.go1 (hr1069 k) (mb_141 kd1068 (ow.2.2.1.mp (by omega)))
                have ps1071 : (sN gs 3 1).1 0 = gs.1 0 := rfl
                have ps1072 : (nx gs 1).1 0 = gs.1 0 + 1 := rfl
                have fz1073 := RelM.rg rl1067
                have pq1074 : (V1063 0 8).toInt = ((V 0 8)).toInt := congrArg Int32.toInt ((ajV1063 0 8 rfl).trans (ajV726 0 8 rfl))
                refine lv_if_eq (tgt := 99) hx hb dX12_member_83 (by decide) (fun c1075 => ?_) (fun c1075 => ?_)
                · skip
                  have f1076 : z1059.toInt = 0 := b_eq rfl (by decide) c1075
                  exfalso; omega
                · skip
                  have f1077 : z1059.toInt ≠ 0 := b_neq rfl (by decide) c1075
                  have rl1078 : RelM V1063 L bq gn gT (nx (sN gs 3 1) 1) gl := rl1067
                  refine lv_aload_n hx hb dX12_member_86 rfl (lv_at hl 0 rfl) ?_
                  refine va_get (D := D) (ci := 12) (v := .ref (ad 33)) (C := RX12) (T := TX12) (N := 100) hx hb hg inX12 hown hK hP 0 rfl rfl 33 (by decide) (hg _ w1743) (fun _ h9 => h9) rfl dX12_member_87 ?_
                  refine lv_iload_n hx hb dX12_member_90 rfl (lv_at hl 1 rfl) ?_
                  refine lv_aload_n hx hb dX12_member_91 rfl (lv_at hl 0 rfl) ?_
                  have pq1079 : (V1063 0 48).toInt = ((V 0 48)).toInt := congrArg Int32.toInt ((ajV1063 0 48 rfl).trans (ajV726 0 48 rfl))
                  have pq1080 : (V1063 0 51).toInt = ((V 0 51)).toInt := congrArg Int32.toInt ((ajV1063 0 51 rfl).trans (ajV726 0 51 rfl))
                  have pq1081 : (V1063 0 52).toInt = ((V 0 52)).toInt := congrArg Int32.toInt ((ajV1063 0 52 rfl).trans (ajV726 0 52 rfl))
                  refine gA_int (gA_runV (As := []) (rest := [.int p0, .ref (ad 33)]) (ci := 12) (q0 := 0) hx hb hml hown hg hP hD hK hS hA hnw hgk (s_codeA l D ks H.size ad kk V1063 L (bq) (gn) (gT) ((nx (sN gs 3 1) 1)) (gl) hMV1063 rl1078 (show (V1063 0 48).toInt ≤ 2 * (V1063 0 7).toInt from by omega) (EM.o2 (o := gc) (show (V1063 27 gc).toInt = (((nx (sN gs 3 1) 1).1 1 : Nat) : Int) from by rw [(by rw [(funext (fun q => ajV1063 27 q rfl) : V1063 27 = V726 27), (funext (fun q => ajV726 27 q rfl) : V726 27 = V 27)] : V1063 27 = V 27)]; exact ow.1) (show (nx (sN gs 3 1) 1).1 4 = 0 from ow.2.2.2.1) (by omega) (by omega))) w2116 w2118 w105 w172 w2119 rfl rfl hdV_yX12_code ⟨Nat.le_of_ble_eq_true rfl, Nat.le_of_ble_eq_true rfl⟩ rfl hl.1 rfl (Nat.le_of_ble_eq_true rfl) dX12_member_92 ⟨Nat.le_of_ble_eq_true rfl, Nat.le_of_ble_eq_true rfl⟩) hP hD hK hS hA (fun z1082 u1083 H locs w1084 hP hD hK hS => ?_)
                  obtain ⟨V1094, L1095⟩ := u1083
                  obtain ⟨hMV1094, ajV1094, axL1095, rgz1082, t1085, t1086, t1087, t1088, t1089, t1090, t1091, t1092, t1093⟩ := w1084
                  have alL1095 : agL [27, 28, 29, 30, 31, 32, 33, 34, 35, 36, 37, 38, 45, 46, 47] L L1095 := agL.tr alL axL1095 (by decide)
                  have hP : va_P D vwCl (mw ad kk ks.1 V1094 L1095) H := hP
                  have hD : va_D A (mw ad kk ks.1 V1094 L1095) := hD
                  have hMV1094 : rgd bM V1094 := hMV1094
                  have ajV1094 : agr [(0, 7), (0, 8), (0, 48), (0, 50)] [35, 36, 37, 38, 45, 46, 47] V1063 V1094 := ajV1094
                  have agV1094 : agr [(0, 7), (0, 8), (0, 48), (0, 50)] [27, 28, 29, 30, 31, 32, 33, 34, 35, 36, 37, 38, 45, 46, 47] V V1094 := agV1063.tr ajV1094 (by decide) (by decide)
                  have rgz1082 : 0 ≤ z1082.toInt ∧ z1082.toInt ≤ 20000 := rgz1082
                  have t1085 : Imp ((V1094 0 8).toInt = 0) ((V1094 0 48).toInt - (V1063 0 48).toInt ≤ 2 * ((V1094 0 7).toInt - (V1063 0 7).toInt) + 1) := t1085
                  have t1086 : (V1094 0 48).toInt ≤ 8060 := t1086
                  have t1087 : (V1063 0 48).toInt ≤ (V1094 0 48).toInt := t1087
                  have t1088 : z1082.toInt = (V1063 0 49).toInt + (V1063 0 48).toInt := t1088
                  have t1089 : RdM (gT) ((nx (sN gs 3 1) 1)) (fun k => Iexpr 0 :: k) (fun k => k) (V1094 0 8).toInt (fun s9 => RelM V1094 L1095 (bq) (gn) (gT) s9 (gl) ∧ keepS ((nx (sN gs 3 1) 1)) 1 s9) := t1089
                  have t1090 : RoV 35 (bq) V1063 V1094 := t1090
                  have t1091 : RoV 37 (bq) V1063 V1094 := t1091
                  have t1092 : RoL 36 20 (bq) L L1095 := t1092
                  have t1093 : RoL 38 20 (bq) L L1095 := t1093
                  have r1096 : 0 ≤ ((V1094 0 48)).toInt ∧ ((V1094 0 48)).toInt ≤ 10000 := hMV1094 0 48
                  have r1097 : 0 ≤ ((V1094 0 8)).toInt ∧ ((V1094 0 8)).toInt ≤ 70000 := hMV1094 0 8
                  have pq1098 : (V1063 0 49).toInt = ((V 0 49)).toInt := congrArg Int32.toInt ((ajV1063 0 49 rfl).trans (ajV726 0 49 rfl))
                  have r1099 : 0 ≤ ((V 0 49)).toInt ∧ ((V 0 49)).toInt ≤ 10000 := hMV 0 49
                  rcases t1089 with ⟨q1100, sx1101, h1102, rl1103, kp1104⟩ | ⟨q1100, h1102⟩
                  · skip
                    have hr1105 : ∀ k, Rc gT (Crun gs (Imember :: k)) (Crun sx1101 (Itake 59 :: Imember :: k)) := fun k => (hr1070 k).tr (h1102 (Itake 59 :: Imember :: k))
                    have fz1106 := RelM.rg rl1103
                    have ps1107 := (kp1104).1
                    refine va_iast (D := D) (i := p0) (x := z1082) hx hb hK hP hD hS 26 25 rfl rfl (i_in (a := p0.toInt) rfl (by first | omega | ((try (have i_t1085 := Imp.go t1085 (by omega))); omega))) dX12_member_95 (fun H locs hP hD hS => ?_)
                    obtain ⟨V1108, hV1108⟩ : ∃ z, z = up2 V1094 33 (Int32.toNatClampNeg p0) z1082 := ⟨_, rfl⟩
                    have hP : va_P D vwCl (mw ad kk ks.1 V1108 L1095) H := by rw [hV1108]; exact hP
                    have hD : va_D A (mw ad kk ks.1 V1108 L1095) := by rw [hV1108]; exact hD
                    have hMV1108 : rgd bM V1108 := hMV1094.put hV1108 (i_full _)
                    have agV1108 : agr [(0, 7), (0, 8), (0, 48), (0, 50)] [27, 28, 29, 30, 31, 32, 33, 34, 35, 36, 37, 38, 45, 46, 47] V V1108 := agV1094.up hV1108 rfl
                    refine lv_goto (tgt := 187) hx hb dX12_member_96 (by decide) ?_
                    refine lv_aload_n hx hb dX12_member_187 rfl (lv_at hl 0 rfl) ?_
                    refine lv_bipush (v := 59) hx hb dX12_member_188 (by decide) ?_
                    have rl1109 : RelM V1108 L1095 bq gn gT sx1101 gl := RelM.ag rl1103 (show agr [] [33] V1094 V1108 from (agr.up agr.rf hV1108 rfl)) (by decide) (show agL [] L1095 L1095 from agL.rf) (by decide)
                    have r1110 : Int32.toInt 59 = 59 := by decide
                    refine gA_void (gA_runV (As := [.int 59]) (rest := []) (ci := 12) (q0 := 0) hx hb hml hown hg hP hD hK hS hA hnw hgk (s_takeSignA l D ks H.size ad kk V1108 L1095 59 (bq) (gn) (gT) (sx1101) (gl) hMV1108 rl1109 (sg_yes (j := 59) (by decide) (by decide) (by decide))) w2079 w2081 w96 w172 w2082 rfl rfl hdV_yX12_takeSign ⟨Nat.le_of_ble_eq_true rfl, Nat.le_of_ble_eq_true rfl⟩ rfl hl.1 rfl (Nat.le_of_ble_eq_true rfl) dX12_member_190 ⟨Nat.le_of_ble_eq_true rfl, Nat.le_of_ble_eq_true rfl⟩) hP hD hK hS hA (fun u1112 H locs w1113 hP hD hK hS => ?_)
                    obtain ⟨V1115, L1116⟩ := u1112
                    obtain ⟨hMV1115, ajV1115, axL1116, t1114⟩ := w1113
                    have axL1116 : L1095 = L1116 := Eq.symm axL1116
                    subst axL1116
                    have hP : va_P D vwCl (mw ad kk ks.1 V1115 L1095) H := hP
                    have hD : va_D A (mw ad kk ks.1 V1115 L1095) := hD
                    have hMV1115 : rgd bM V1115 := hMV1115
                    have ajV1115 : agr [(0, 7), (0, 8)] [] V1108 V1115 := ajV1115
                    have agV1115 : agr [(0, 7), (0, 8), (0, 48), (0, 50)] [27, 28, 29, 30, 31, 32, 33, 34, 35, 36, 37, 38, 45, 46, 47] V V1115 := agV1108.tr ajV1115 (by decide) (by decide)
                    have t1114 : ((V1115 0 8).toInt = 0 ∧ (gT).1 ((sx1101).1 0) = (Int32.toInt 59) ∧ RelM V1115 L1095 (bq) (gn) (gT) (nx (sx1101) 1) (gl)) ∨ (1 ≤ (V1115 0 8).toInt ∧ (gT).1 ((sx1101).1 0) ≠ (Int32.toInt 59) ∧ (V1115 0 8).toInt = 1 + 16 * (gT).2.2 ((sx1101).1 0)) := t1114
                    rcases t1114 with ⟨q1117, h1118, rl1119⟩ | ⟨q1117, h1118, rl1119⟩
                    · skip
                      have kd1120 : gT.1 (sx1101.1 0) = 59 := h1118.trans (by decide)
                      have hr1121 : ∀ k, Rc gT (Crun gs (Imember :: k)) (Crun (nx sx1101 1) (Imember :: k)) := fun k => Rc.go1 (hr1105 k) (tk_y kd1120)
                      have ps1122 : (nx sx1101 1).1 0 = sx1101.1 0 + 1 := rfl
                      have fz1123 := RelM.rg rl1119
                      have r1124 : 0 ≤ ((V1115 0 8)).toInt ∧ ((V1115 0 8)).toInt ≤ 70000 := hMV1115 0 8
                      have pq1125 : (V1115 0 48).toInt = ((V1094 0 48)).toInt := congrArg Int32.toInt ((ajV1115 0 48 rfl).trans (up2_o hV1108 (by decide)))
                      have ps1126 : gs.1 0 + 1 ≤ (nx gs 1).1 0 := ((keepS.n1 1)).1
                      have ps1127 : (nx (sN gs 3 1) 1).1 0 = (nx gs 1).1 0 := rfl
                      have ps1128 : (nx (sN gs 3 1) 1).1 0 + 1 ≤ sx1101.1 0 := (kp1104).1
                      have ps1129 : sx1101.1 0 + 1 ≤ (nx sx1101 1).1 0 := ((keepS.n1 1)).1
                      have cs1130 : 0 ≤ (V1115 33 gc).toInt := by have h9 : V1115 33 (Int32.toNatClampNeg p0) = z1082 := ((ajV1115 33 (Int32.toNatClampNeg p0) rfl).trans (up2_s hV1108)); rw [kgc] at h9; rw [h9]; omega
                      have cn1131 : CNm V1115 bq gs := CNm.ag cnm (show agr [(0, 7), (0, 8), (0, 48), (0, 50)] [33, 35, 36, 37, 38, 45, 46, 47] V V1115 from (agr.tr (agr.up (agr.tr (agr.tr (agr.tr agr.rf ajV726 (by decide) (by decide)) ajV1063 (by decide) (by decide)) ajV1094 (by decide) (by decide)) hV1108 rfl) ajV1115 (by decide) (by decide))) (by decide) keepC.rf
                      have cn1132 : CNm V1115 bq (nx sx1101 1) := CNm.mv cn1131 (fun _ _ _ => rfl) (keepC.tr (keepC.tr (keepC.tr (keepC.tr (keepC.rf : keepC gs gs) (keepS.c (keepS.n1 1))) (keepC.tn (by decide) : keepC (nx gs 1) (nx (sN gs 3 1) 1))) (keepS.c kp1104)) (keepS.c (keepS.n1 1)))
                      have rw1133 : RoV 35 bq V V1115 := (fun k hk => ((ajV1115 35 k rfl).trans ((up2_o hV1108 (by decide)).trans ((t1090 k hk).trans ((ajV1063 35 k rfl).trans ((ajV726 35 k rfl).trans rfl))))))
                      have rw1134 : RoV 37 bq V V1115 := (fun k hk => ((ajV1115 37 k rfl).trans ((up2_o hV1108 (by decide)).trans ((t1091 k hk).trans ((ajV1063 37 k rfl).trans ((ajV726 37 k rfl).trans rfl))))))
                      have rw1135 : RoL 36 20 bq L L1095 := (fun k hk => ((t1092 k hk).trans rfl))
                      have rw1136 : RoL 38 20 bq L L1095 := (fun k hk => ((t1093 k hk).trans rfl))
                      exact W.vret hx hb hr (fun t ht hW => ⟨⟨(V1115, L1095), rfl, ⟨hMV1115, agV1115, alL1095, (Imp.mk (fun hp => have hp : (V1115 0 8).toInt = 0 := hp; (show (V1115 0 48).toInt ≤ 2 * (V1115 0 7).toInt from by first | omega | ((try (have i_t1085 := Imp.go t1085 (by omega))); omega)))), (show (V1115 0 48).toInt ≤ 8120 from by first | omega | ((try (have i_t1085 := Imp.go t1085 (by omega))); omega)), (Or.inl ⟨W0 rl1119, (nx sx1101 1), hr1121, rl1119, (by omega), (OWm.cl ow (keepS.tr (keepS.tr (keepS.rf : keepS (nx (sN gs 3 1) 1) 0 (nx (sN gs 3 1) 1)) kp1104) (keepS.n1 1)) (Rc.ml (hr1121 [])) (show V1115 27 gc = V 27 gc from ((ajV1115 27 _ rfl).trans ((up2_o hV1108 (by decide)).trans ((ajV1094 27 _ rfl).trans ((ajV1063 27 _ rfl).trans ((ajV726 27 _ rfl).trans rfl)))))) (show V1115 32 gc = V 32 gc from ((ajV1115 32 _ rfl).trans ((up2_o hV1108 (by decide)).trans ((ajV1094 32 _ rfl).trans ((ajV1063 32 _ rfl).trans ((ajV726 32 _ rfl).trans rfl)))))) cs1130 (fun f hf => ((show agr [(0, 7), (0, 8), (0, 48), (0, 50)] [33, 35, 36, 37, 38, 45, 46, 47] V V1115 from (agr.tr (agr.up (agr.tr (agr.tr (agr.tr agr.rf ajV726 (by decide) (by decide)) ajV1063 (by decide) (by decide)) ajV1094 (by decide) (by decide)) hV1108 rfl) ajV1115 (by decide) (by decide))) 34 _ rfl))), ((((keepS.n1 1)).2.2.1 2 (by decide)).trans (((kp1104).2.2.1 2 (by decide)).trans ((rfl : (nx (sN gs 3 1) 1).2.1 2 = (nx gs 1).2.1 2).trans ((((keepS.n1 1)).2.2.1 2 (by decide)).trans (rfl : gs.2.1 2 = gs.2.1 2))))), ((congrArg (fun q9 => q9.1) ((keepS.n1 1)).2.2.2).trans ((congrArg (fun q9 => q9.1) (kp1104).2.2.2).trans ((rfl : (nx (sN gs 3 1) 1).2.2.1 = (nx gs 1).2.2.1).trans ((congrArg (fun q9 => q9.1) ((keepS.n1 1)).2.2.2).trans (rfl : gs.2.2.1 = gs.2.2.1))))), cn1132⟩), rw1133, rw1134, rw1135, rw1136⟩, by rw [ht]; exact hP, va_K.moved hW.alike hK, hD⟩, hS.F ht⟩) hS.2.2 dX12_member_193
                    · skip
                      have kd1137 : gT.1 (sx1101.1 0) ≠ 59 := fun h9 => h1118 (h9.trans (by decide))
                      have hb1138 : ∀ k, Rc gT (Crun gs (Imember :: k)) (Cbad (V1115 0 8).toInt) := fun k => Rc.go1 (hr1105 k) ((tk_n kd1137).trans (fl_eq rfl rl1119))
                      have r1139 : 0 ≤ ((V1115 0 8)).toInt ∧ ((V1115 0 8)).toInt ≤ 70000 := hMV1115 0 8
                      have pq1140 : (V1115 0 48).toInt = ((V1094 0 48)).toInt := congrArg Int32.toInt ((ajV1115 0 48 rfl).trans (up2_o hV1108 (by decide)))
                      have rw1141 : RoV 35 bq V V1115 := (fun k hk => ((ajV1115 35 k rfl).trans ((up2_o hV1108 (by decide)).trans ((t1090 k hk).trans ((ajV1063 35 k rfl).trans ((ajV726 35 k rfl).trans rfl))))))
                      have rw1142 : RoV 37 bq V V1115 := (fun k hk => ((ajV1115 37 k rfl).trans ((up2_o hV1108 (by decide)).trans ((t1091 k hk).trans ((ajV1063 37 k rfl).trans ((ajV726 37 k rfl).trans rfl))))))
                      have rw1143 : RoL 36 20 bq L L1095 := (fun k hk => ((t1092 k hk).trans rfl))
                      have rw1144 : RoL 38 20 bq L L1095 := (fun k hk => ((t1093 k hk).trans rfl))
                      exact W.vret hx hb hr (fun t ht hW => ⟨⟨(V1115, L1095), rfl, ⟨hMV1115, agV1115, alL1095, (Imp.mk (fun hp => have hp : (V1115 0 8).toInt = 0 := hp; (show (V1115 0 48).toInt ≤ 2 * (V1115 0 7).toInt from by first | omega | ((try (have i_t1085 := Imp.go t1085 (by omega))); omega)))), (show (V1115 0 48).toInt ≤ 8120 from by first | omega | ((try (have i_t1085 := Imp.go t1085 (by omega))); omega)), (Or.inr ⟨(show 1 ≤ (V1115 0 8).toInt from by omega), hb1138⟩), rw1141, rw1142, rw1143, rw1144⟩, by rw [ht]; exact hP, va_K.moved hW.alike hK, hD⟩, hS.F ht⟩) hS.2.2 dX12_member_193
                  · skip
                    have hb1145 : ∀ k, Rc gT (Crun gs (Imember :: k)) (Cbad (V1094 0 8).toInt) := fun k => (hr1070 k).tr (h1102 (Itake 59 :: Imember :: k))
                    refine va_iast (D := D) (i := p0) (x := z1082) hx hb hK hP hD hS 26 25 rfl rfl (i_in (a := p0.toInt) rfl (by first | omega | ((try (have i_t1085 := Imp.go t1085 (by omega))); omega))) dX12_member_95 (fun H locs hP hD hS => ?_)
                    obtain ⟨V1146, hV1146⟩ : ∃ z, z = up2 V1094 33 (Int32.toNatClampNeg p0) z1082 := ⟨_, rfl⟩
                    have hP : va_P D vwCl (mw ad kk ks.1 V1146 L1095) H := by rw [hV1146]; exact hP
                    have hD : va_D A (mw ad kk ks.1 V1146 L1095) := by rw [hV1146]; exact hD
                    have hMV1146 : rgd bM V1146 := hMV1094.put hV1146 (i_full _)
                    have agV1146 : agr [(0, 7), (0, 8), (0, 48), (0, 50)] [27, 28, 29, 30, 31, 32, 33, 34, 35, 36, 37, 38, 45, 46, 47] V V1146 := agV1094.up hV1146 rfl
                    refine lv_goto (tgt := 187) hx hb dX12_member_96 (by decide) ?_
                    refine lv_aload_n hx hb dX12_member_187 rfl (lv_at hl 0 rfl) ?_
                    refine lv_bipush (v := 59) hx hb dX12_member_188 (by decide) ?_
                    have r1147 : Int32.toInt 59 = 59 := by decide
                    have pq1148 : (V1146 0 8).toInt = ((V1094 0 8)).toInt := congrArg Int32.toInt (up2_o hV1146 (by decide))
                    refine gA_void (gA_runV (As := [.int 59]) (rest := []) (ci := 12) (q0 := 0) hx hb hml hown hg hP hD hK hS hA hnw hgk (s_takeSignB l D ks H.size ad kk V1146 L1095 59 hMV1146 (show 1 ≤ (V1146 0 8).toInt from by first | omega | ((try (have i_t1085 := Imp.go t1085 (by omega))); omega))) w2079 w2081 w96 w172 w2082 rfl rfl hdV_yX12_takeSign ⟨Nat.le_of_ble_eq_true rfl, Nat.le_of_ble_eq_true rfl⟩ rfl hl.1 rfl (Nat.le_of_ble_eq_true rfl) dX12_member_190 ⟨Nat.le_of_ble_eq_true rfl, Nat.le_of_ble_eq_true rfl⟩) hP hD hK hS hA (fun u1150 H locs w1151 hP hD hK hS => ?_)
                    obtain ⟨V1153, L1154⟩ := u1150
                    obtain ⟨hMV1153, ajV1153, axL1154, t1152⟩ := w1151
                    have axL1154 : L1095 = L1154 := Eq.symm axL1154
                    subst axL1154
                    have hP : va_P D vwCl (mw ad kk ks.1 V1153 L1095) H := hP
                    have hD : va_D A (mw ad kk ks.1 V1153 L1095) := hD
                    have hMV1153 : rgd bM V1153 := hMV1153
                    have ajV1153 : agr [(0, 7), (0, 8)] [] V1146 V1153 := ajV1153
                    have agV1153 : agr [(0, 7), (0, 8), (0, 48), (0, 50)] [27, 28, 29, 30, 31, 32, 33, 34, 35, 36, 37, 38, 45, 46, 47] V V1153 := agV1146.tr ajV1153 (by decide) (by decide)
                    have t1152 : (V1153 0 8).toInt = (V1146 0 8).toInt := t1152
                    have r1155 : 0 ≤ ((V1153 0 8)).toInt ∧ ((V1153 0 8)).toInt ≤ 70000 := hMV1153 0 8
                    have pq1156 : (V1153 0 48).toInt = ((V1094 0 48)).toInt := congrArg Int32.toInt ((ajV1153 0 48 rfl).trans (up2_o hV1146 (by decide)))
                    have rw1157 : RoV 35 bq V V1153 := (fun k hk => ((ajV1153 35 k rfl).trans ((up2_o hV1146 (by decide)).trans ((t1090 k hk).trans ((ajV1063 35 k rfl).trans ((ajV726 35 k rfl).trans rfl))))))
                    have rw1158 : RoV 37 bq V V1153 := (fun k hk => ((ajV1153 37 k rfl).trans ((up2_o hV1146 (by decide)).trans ((t1091 k hk).trans ((ajV1063 37 k rfl).trans ((ajV726 37 k rfl).trans rfl))))))
                    have rw1159 : RoL 36 20 bq L L1095 := (fun k hk => ((t1092 k hk).trans rfl))
                    have rw1160 : RoL 38 20 bq L L1095 := (fun k hk => ((t1093 k hk).trans rfl))
                    exact W.vret hx hb hr (fun t ht hW => ⟨⟨(V1153, L1095), rfl, ⟨hMV1153, agV1153, alL1095, (Imp.mk (fun hp => have hp : (V1153 0 8).toInt = 0 := hp; (show (V1153 0 48).toInt ≤ 2 * (V1153 0 7).toInt from by first | omega | ((try (have i_t1085 := Imp.go t1085 (by omega))); omega)))), (show (V1153 0 48).toInt ≤ 8120 from by first | omega | ((try (have i_t1085 := Imp.go t1085 (by omega))); omega)), (Or.inr ⟨(show 1 ≤ (V1153 0 8).toInt from by omega), (fun k => by rw [show (V1153 0 8).toInt = (V1094 0 8).toInt from by omega]; exact hb1145 k)⟩), rw1157, rw1158, rw1159, rw1160⟩, by rw [ht]; exact hP, va_K.moved hW.alike hK, hD⟩, hS.F ht⟩) hS.2.2 dX12_member_193
              · skip
                have kd1161 : gT.1 (gs.1 0) ≠ 141 := fun h9 => h1066 (h9.trans (by decide))
                have fz1162 := RelM.rg rl1067
                have pq1163 : (V1063 0 8).toInt = ((V 0 8)).toInt := congrArg Int32.toInt ((ajV1063 0 8 rfl).trans (ajV726 0 8 rfl))
                refine lv_if_eq (tgt := 99) hx hb dX12_member_83 (by decide) (fun c1164 => ?_) (fun c1164 => ?_)
                · skip
                  have f1165 : z1059.toInt = 0 := b_eq rfl (by decide) c1164
                  refine lv_aload_n hx hb dX12_member_99 rfl (lv_at hl 0 rfl) ?_
                  refine lv_bipush (v := 14) hx hb dX12_member_100 (by decide) ?_
                  have r1166 : Int32.toInt 14 = 14 := by decide
                  refine gA_int (gA_runV (As := [.int 14]) (rest := []) (ci := 12) (q0 := 0) hx hb hml hown hg hP hD hK hS hA hnw hgk (s_hasWordA l D ks H.size ad kk V1063 L 14 (bq) (gn) (gT) (gs) (gl) hMV1063 (by decide) rl1067) w2055 w2057 w90 w172 w2058 rfl rfl hdV_yX12_hasWord ⟨Nat.le_of_ble_eq_true rfl, Nat.le_of_ble_eq_true rfl⟩ rfl hl.1 rfl (Nat.le_of_ble_eq_true rfl) dX12_member_102 ⟨Nat.le_of_ble_eq_true rfl, Nat.le_of_ble_eq_true rfl⟩) hP hD hK hS hA (fun z1167 u1168 H locs w1169 hP hD hK hS => ?_)
                  obtain ⟨V1171, L1172⟩ := u1168
                  obtain ⟨hMV1171, ajV1171, axL1172, rgz1167, t1170⟩ := w1169
                  have axL1172 : L = L1172 := Eq.symm axL1172
                  subst axL1172
                  have hP : va_P D vwCl (mw ad kk ks.1 V1171 L) H := hP
                  have hD : va_D A (mw ad kk ks.1 V1171 L) := hD
                  have hMV1171 : rgd bM V1171 := hMV1171
                  have ajV1171 : agr [(0, 7)] [] V1063 V1171 := ajV1171
                  have agV1171 : agr [(0, 7), (0, 8), (0, 48), (0, 50)] [27, 28, 29, 30, 31, 32, 33, 34, 35, 36, 37, 38, 45, 46, 47] V V1171 := agV1063.tr ajV1171 (by decide) (by decide)
                  have rgz1167 : 0 ≤ z1167.toInt ∧ z1167.toInt ≤ 1 := rgz1167
                  have t1170 : (z1167.toInt = 1 ∧ (gT).1 ((gs).1 0) = 128 + (Int32.toInt 14) ∧ RelM V1171 L (bq) (gn) (gT) (nx (gs) 1) (gl)) ∨ (z1167.toInt = 0 ∧ (gT).1 ((gs).1 0) ≠ 128 + (Int32.toInt 14) ∧ RelM V1171 L (bq) (gn) (gT) (gs) (gl)) := t1170
                  rcases t1170 with ⟨q1173, h1174, rl1175⟩ | ⟨q1173, h1174, rl1175⟩
                  · skip
                    have kd1176 : gT.1 (gs.1 0) = 142 := h1174.trans (by decide)
                    have hr1177 : ∀ k, Rc gT (Crun gs (Imember :: k)) (Crun gs (Imember :: k)) := fun k => Rc.rf
                    have hr1178 : ∀ k, Rc gT (Crun gs (Imember :: k)) (Crun (nx gs 1) (ImethN :: Iexpr 0 :: Itake 59 :: Imember :: k)) := fun k => Rc.go1 (hr1177 k) (mb_142 kd1176)
                    have ps1179 : (nx gs 1).1 0 = gs.1 0 + 1 := rfl
                    have fz1180 := RelM.rg rl1175
                    have pq1181 : (V1171 0 8).toInt = ((V 0 8)).toInt := congrArg Int32.toInt ((ajV1171 0 8 rfl).trans ((ajV1063 0 8 rfl).trans (ajV726 0 8 rfl)))
                    refine lv_if_eq (tgt := 182) hx hb dX12_member_105 (by decide) (fun c1182 => ?_) (fun c1182 => ?_)
                    · skip
                      have f1183 : z1167.toInt = 0 := b_eq rfl (by decide) c1182
                      exfalso; omega
                    · skip
                      have f1184 : z1167.toInt ≠ 0 := b_neq rfl (by decide) c1182
                      refine lv_aload_n hx hb dX12_member_108 rfl (lv_at hl 0 rfl) ?_
                      refine lv_aload_n hx hb dX12_member_109 rfl (lv_at hl 0 rfl) ?_
                      refine va_get (D := D) (ci := 12) (v := .ref (ad 36)) (C := RX12) (T := TX12) (N := 100) hx hb hg inX12 hown hK hP 0 rfl rfl 36 (by decide) (hg _ w1746) (fun _ h9 => h9) rfl dX12_member_110 ?_
                      refine lv_aload_n hx hb dX12_member_113 rfl (lv_at hl 0 rfl) ?_
                      refine va_get (D := D) (ci := 12) (v := .ref (ad 35)) (C := RX12) (T := TX12) (N := 100) hx hb hg inX12 hown hK hP 0 rfl rfl 35 (by decide) (hg _ w1745) (fun _ h9 => h9) rfl dX12_member_114 ?_
                      refine gA_int (gA_runV (As := [.ref (ad 36), .ref (ad 35)]) (rest := []) (ci := 12) (q0 := 0) hx hb hml hown hg hP hD hK hS hA hnw hgk (s_takeWordOf3 l D ks H.size ad kk V1171 L (bq) (gn) (gT) ((nx gs 1)) (gl) hMV1171 rl1175) w2104 w2106 w102 w172 w2107 rfl rfl hdV_yX12_takeWordOf ⟨Nat.le_of_ble_eq_true rfl, Nat.le_of_ble_eq_true rfl⟩ rfl hl.1 rfl (Nat.le_of_ble_eq_true rfl) dX12_member_117 ⟨Nat.le_of_ble_eq_true rfl, Nat.le_of_ble_eq_true rfl⟩) hP hD hK hS hA (fun z1185 u1186 H locs w1187 hP hD hK hS => ?_)
                      obtain ⟨V1193, L1194⟩ := u1186
                      obtain ⟨hMV1193, ajV1193, axL1194, rgz1185, t1188, t1189, t1190, t1191, t1192⟩ := w1187
                      have alL1194 : agL [27, 28, 29, 30, 31, 32, 33, 34, 35, 36, 37, 38, 45, 46, 47] L L1194 := agL.tr alL axL1194 (by decide)
                      have hP : va_P D vwCl (mw ad kk ks.1 V1193 L1194) H := hP
                      have hD : va_D A (mw ad kk ks.1 V1193 L1194) := hD
                      have hMV1193 : rgd bM V1193 := hMV1193
                      have ajV1193 : agr [(0, 7), (0, 8)] [35, 36, 37, 38] V1171 V1193 := ajV1193
                      have agV1193 : agr [(0, 7), (0, 8), (0, 48), (0, 50)] [27, 28, 29, 30, 31, 32, 33, 34, 35, 36, 37, 38, 45, 46, 47] V V1193 := agV1171.tr ajV1193 (by decide) (by decide)
                      have rgz1185 : (-1) ≤ z1185.toInt ∧ z1185.toInt ≤ 19 := rgz1185
                      have t1188 : KmS (mthW (gT) ((nx gs 1)) 3) (V1193 0 8).toInt (fun x9 => RelM V1193 L1194 (bq) (gn) (gT) x9.2 (gl) ∧ z1185.toInt = ((x9.1 : Nat) : Int) ∧ x9.1 < 20 ∧ keepS ((nx gs 1)) 1 x9.2 ∧ MTX (gT) ((nx gs 1)) 3 x9) := t1188
                      have t1189 : RoV 35 (bq) V1171 V1193 := t1189
                      have t1190 : RoV 37 (bq) V1171 V1193 := t1190
                      have t1191 : RoL 36 20 (bq) L L1194 := t1191
                      have t1192 : RoL 38 20 (bq) L L1194 := t1192
                      rcases t1188 with ⟨q1195, mx1196, h1197, rl1198, hf1199, hb1200, kp1201, mt1202⟩ | ⟨q1195, h1197⟩
                      · skip
                        have ps1203 := kp1201.1
                        have fz1204 := RelM.rg rl1198
                        have r1205 : 0 ≤ ((V1193 0 8)).toInt ∧ ((V1193 0 8)).toInt ≤ 70000 := hMV1193 0 8
                        refine lv_istore_n (lv' := [(2, .int z1185), (0, .ref (ad 0)), (1, .int p0)]) hx hb dX12_member_120 rfl hl (by decide) rfl (fun ls hl => ?_)
                        refine lv_aload_n hx hb dX12_member_121 rfl (lv_at hl 1 rfl) ?_
                        refine va_get (D := D) (ci := 12) (v := .int (V1193 0 8)) (C := RX12) (T := TX12) (N := 100) hx hb hg inX12 hown hK hP 0 rfl rfl 8 (by decide) (hg _ w1718) (fun _ h9 => h9) rfl dX12_member_122 ?_
                        refine lv_if_ne (tgt := 157) hx hb dX12_member_125 (by decide) (fun c1206 => ?_) (fun c1206 => ?_)
                        · skip
                          have f1207 : ((V1193 0 8)).toInt ≠ 0 := b_neq rfl (by decide) c1206
                          exfalso; omega
                        · skip
                          have f1208 : ((V1193 0 8)).toInt = 0 := b_eq rfl (by decide) c1206
                          refine lv_aload_n hx hb dX12_member_128 rfl (lv_at hl 1 rfl) ?_
                          refine va_get (D := D) (ci := 12) (v := .ref (ad 34)) (C := RX12) (T := TX12) (N := 100) hx hb hg inX12 hown hK hP 0 rfl rfl 34 (by decide) (hg _ w1744) (fun _ h9 => h9) rfl dX12_member_129 ?_
                          refine lv_bipush (v := 20) hx hb dX12_member_132 (by decide) ?_
                          refine lv_iload_n hx hb dX12_member_134 rfl (lv_at hl 2 rfl) ?_
                          refine lv_imul hx hb dX12_member_135 ?_
                          refine lv_topi (fun z1209 ez1209 => ?_)
                          have hz1209 : z1209.toInt = 20 * p0.toInt := i_mul ez1209 (by decide) rfl (by omega)
                          refine lv_iload_n hx hb dX12_member_136 rfl (lv_at hl 0 rfl) ?_
                          refine lv_iadd hx hb dX12_member_137 ?_
                          refine lv_topi (fun z1210 ez1210 => ?_)
                          have hz1210 : z1210.toInt = z1209.toInt + z1185.toInt := i_add ez1210 rfl rfl (by omega)
                          refine va_iald (D := D) (i := z1210) hx hb hK hP 27 26 rfl rfl (i_in (a := z1210.toInt) rfl (by omega)) dX12_member_138 ?_
                          refine g_top (v := (V 34 (Int32.toNatClampNeg z1210))) ((ajV1193 34 (Int32.toNatClampNeg z1210) rfl).trans ((ajV1171 34 (Int32.toNatClampNeg z1210) rfl).trans ((ajV1063 34 (Int32.toNatClampNeg z1210) rfl).trans (ajV726 34 (Int32.toNatClampNeg z1210) rfl)))) ?_
                          have kc1212 : Int32.toNatClampNeg z1210 = 20 * gc + mx1196.1 := by have h9 := i_clamp (x := z1210) rfl (by omega); omega
                          have ma1211 : (V 34 (Int32.toNatClampNeg z1210)).toInt = (V 34 (20 * gc + mx1196.1)).toInt := by rw [kc1212]
                          have ow5 := ow.2.2.2.2.1 mx1196.1 hb1200
                          have oS : (nx gs 1).2.2.2 = gs.2.2.2 := congrArg (fun q9 => q9.2) ((keepS.tr (keepS.rf : keepS gs 0 gs) (keepS.n1 1))).2.2.2
                          have oL : (nx gs 1).2.1 3 = gs.2.1 3 := rfl
                          refine lv_if_lt (tgt := 157) hx hb dX12_member_139 (by decide) (fun c1213 => ?_) (fun c1213 => ?_)
                          · skip
                            have f1214 : ((V 34 (Int32.toNatClampNeg z1210))).toInt < 0 := b_lt rfl (by decide) c1213
                            refine lv_aload_n hx hb dX12_member_157 rfl (lv_at hl 1 rfl) ?_
                            refine va_get (D := D) (ci := 12) (v := .int (V1193 0 8)) (C := RX12) (T := TX12) (N := 100) hx hb hg inX12 hown hK hP 0 rfl rfl 8 (by decide) (hg _ w1718) (fun _ h9 => h9) rfl dX12_member_158 ?_
                            refine lv_if_ne (tgt := 179) hx hb dX12_member_161 (by decide) (fun c1215 => ?_) (fun c1215 => ?_)
                            · skip
                              have f1216 : ((V1193 0 8)).toInt ≠ 0 := b_neq rfl (by decide) c1215
                              exfalso; omega
                            · skip
                              have f1217 : ((V1193 0 8)).toInt = 0 := b_eq rfl (by decide) c1215
                              have nt9 : mx1196.1 ∉ (nx gs 1).2.2.2 := by rw [oS]; exact fun q9 => absurd (ow5.mpr q9) (by omega)
                              have hr1218 : ∀ k, Rc gT (Crun gs (Imember :: k)) (Crun (sT mx1196.2 (mx1196.1 :: (nx gs 1).2.2.2)) (Iexpr 0 :: Itake 59 :: Imember :: k)) := fun k => Rc.go1 (hr1178 k) (mn_y (MTX.new mt1202 h1197 nt9))
                              have ps1219 : (sT mx1196.2 (mx1196.1 :: (nx gs 1).2.2.2)).1 0 = mx1196.2.1 0 := rfl
                              have rl1220 : RelM V1193 L1194 bq gn gT (sT mx1196.2 (mx1196.1 :: (nx gs 1).2.2.2)) gl := RelM.tl rl1198
                              refine lv_aload_n hx hb dX12_member_164 rfl (lv_at hl 1 rfl) ?_
                              refine va_get (D := D) (ci := 12) (v := .ref (ad 34)) (C := RX12) (T := TX12) (N := 100) hx hb hg inX12 hown hK hP 0 rfl rfl 34 (by decide) (hg _ w1744) (fun _ h9 => h9) rfl dX12_member_165 ?_
                              refine lv_bipush (v := 20) hx hb dX12_member_168 (by decide) ?_
                              refine lv_iload_n hx hb dX12_member_170 rfl (lv_at hl 2 rfl) ?_
                              refine lv_imul hx hb dX12_member_171 ?_
                              refine lv_topi (fun z1221 ez1221 => ?_)
                              have hz1221 : z1221.toInt = 20 * p0.toInt := i_mul ez1221 (by decide) rfl (by omega)
                              refine lv_iload_n hx hb dX12_member_172 rfl (lv_at hl 0 rfl) ?_
                              refine lv_iadd hx hb dX12_member_173 ?_
                              refine lv_topi (fun z1222 ez1222 => ?_)
                              have hz1222 : z1222.toInt = z1221.toInt + z1185.toInt := i_add ez1222 rfl rfl (by omega)
                              refine lv_aload_n hx hb dX12_member_174 rfl (lv_at hl 1 rfl) ?_
                              have pq1223 : (V1193 0 48).toInt = ((V 0 48)).toInt := congrArg Int32.toInt ((ajV1193 0 48 rfl).trans ((ajV1171 0 48 rfl).trans ((ajV1063 0 48 rfl).trans (ajV726 0 48 rfl))))
                              have pq1224 : (V1193 0 51).toInt = ((V 0 51)).toInt := congrArg Int32.toInt ((ajV1193 0 51 rfl).trans ((ajV1171 0 51 rfl).trans ((ajV1063 0 51 rfl).trans (ajV726 0 51 rfl))))
                              have pq1225 : (V1193 0 52).toInt = ((V 0 52)).toInt := congrArg Int32.toInt ((ajV1193 0 52 rfl).trans ((ajV1171 0 52 rfl).trans ((ajV1063 0 52 rfl).trans (ajV726 0 52 rfl))))
                              refine gA_int (gA_runV (As := []) (rest := [.int z1222, .ref (ad 34)]) (ci := 12) (q0 := 0) hx hb hml hown hg hP hD hK hS hA hnw hgk (s_codeA l D ks H.size ad kk V1193 L1194 (bq) (gn) (gT) ((sT mx1196.2 (mx1196.1 :: (nx gs 1).2.2.2))) (gl) hMV1193 rl1220 (show (V1193 0 48).toInt ≤ 2 * (V1193 0 7).toInt from by omega) (EM.o2 (o := gc) (show (V1193 27 gc).toInt = ((mx1196.2.1 1 : Nat) : Int) from by rw [(by rw [(funext (fun q => ajV1193 27 q rfl) : V1193 27 = V1171 27), (funext (fun q => ajV1171 27 q rfl) : V1171 27 = V1063 27), (funext (fun q => ajV1063 27 q rfl) : V1063 27 = V726 27), (funext (fun q => ajV726 27 q rfl) : V726 27 = V 27)] : V1193 27 = V 27)]; exact (by rw [((keepS.tr (keepS.tr (keepS.rf : keepS gs 0 gs) (keepS.n1 1)) kp1201)).2.1 1 (by decide)]; exact ow.1)) (show mx1196.2.1 4 = 0 from (by rw [((keepS.tr (keepS.tr (keepS.rf : keepS gs 0 gs) (keepS.n1 1)) kp1201)).2.1 4 (by decide)]; exact ow.2.2.2.1)) (by omega) (by omega))) w2116 w2118 w105 w172 w2119 rfl rfl hdV_yX12_code ⟨Nat.le_of_ble_eq_true rfl, Nat.le_of_ble_eq_true rfl⟩ rfl hl.1 rfl (Nat.le_of_ble_eq_true rfl) dX12_member_175 ⟨Nat.le_of_ble_eq_true rfl, Nat.le_of_ble_eq_true rfl⟩) hP hD hK hS hA (fun z1226 u1227 H locs w1228 hP hD hK hS => ?_)
                              obtain ⟨V1238, L1239⟩ := u1227
                              obtain ⟨hMV1238, ajV1238, axL1239, rgz1226, t1229, t1230, t1231, t1232, t1233, t1234, t1235, t1236, t1237⟩ := w1228
                              have alL1239 : agL [27, 28, 29, 30, 31, 32, 33, 34, 35, 36, 37, 38, 45, 46, 47] L L1239 := agL.tr alL1194 axL1239 (by decide)
                              have hP : va_P D vwCl (mw ad kk ks.1 V1238 L1239) H := hP
                              have hD : va_D A (mw ad kk ks.1 V1238 L1239) := hD
                              have hMV1238 : rgd bM V1238 := hMV1238
                              have ajV1238 : agr [(0, 7), (0, 8), (0, 48), (0, 50)] [35, 36, 37, 38, 45, 46, 47] V1193 V1238 := ajV1238
                              have agV1238 : agr [(0, 7), (0, 8), (0, 48), (0, 50)] [27, 28, 29, 30, 31, 32, 33, 34, 35, 36, 37, 38, 45, 46, 47] V V1238 := agV1193.tr ajV1238 (by decide) (by decide)
                              have rgz1226 : 0 ≤ z1226.toInt ∧ z1226.toInt ≤ 20000 := rgz1226
                              have t1229 : Imp ((V1238 0 8).toInt = 0) ((V1238 0 48).toInt - (V1193 0 48).toInt ≤ 2 * ((V1238 0 7).toInt - (V1193 0 7).toInt) + 1) := t1229
                              have t1230 : (V1238 0 48).toInt ≤ 8060 := t1230
                              have t1231 : (V1193 0 48).toInt ≤ (V1238 0 48).toInt := t1231
                              have t1232 : z1226.toInt = (V1193 0 49).toInt + (V1193 0 48).toInt := t1232
                              have t1233 : RdM (gT) ((sT mx1196.2 (mx1196.1 :: (nx gs 1).2.2.2))) (fun k => Iexpr 0 :: k) (fun k => k) (V1238 0 8).toInt (fun s9 => RelM V1238 L1239 (bq) (gn) (gT) s9 (gl) ∧ keepS ((sT mx1196.2 (mx1196.1 :: (nx gs 1).2.2.2))) 1 s9) := t1233
                              have t1234 : RoV 35 (bq) V1193 V1238 := t1234
                              have t1235 : RoV 37 (bq) V1193 V1238 := t1235
                              have t1236 : RoL 36 20 (bq) L1194 L1239 := t1236
                              have t1237 : RoL 38 20 (bq) L1194 L1239 := t1237
                              have r1240 : 0 ≤ ((V1238 0 48)).toInt ∧ ((V1238 0 48)).toInt ≤ 10000 := hMV1238 0 48
                              have r1241 : 0 ≤ ((V1238 0 8)).toInt ∧ ((V1238 0 8)).toInt ≤ 70000 := hMV1238 0 8
                              have pq1242 : (V1193 0 49).toInt = ((V 0 49)).toInt := congrArg Int32.toInt ((ajV1193 0 49 rfl).trans ((ajV1171 0 49 rfl).trans ((ajV1063 0 49 rfl).trans (ajV726 0 49 rfl))))
                              have r1243 : 0 ≤ ((V 0 49)).toInt ∧ ((V 0 49)).toInt ≤ 10000 := hMV 0 49
                              rcases t1233 with ⟨q1244, sx1245, h1246, rl1247, kp1248⟩ | ⟨q1244, h1246⟩
                              · skip
                                have hr1249 : ∀ k, Rc gT (Crun gs (Imember :: k)) (Crun sx1245 (Itake 59 :: Imember :: k)) := fun k => (hr1218 k).tr (h1246 (Itake 59 :: Imember :: k))
                                have fz1250 := RelM.rg rl1247
                                have ps1251 := (kp1248).1
                                refine va_iast (D := D) (i := z1222) (x := z1226) hx hb hK hP hD hS 27 26 rfl rfl (i_in (a := z1222.toInt) rfl (by first | omega | ((try (have i_t1229 := Imp.go t1229 (by omega))); omega))) dX12_member_178 (fun H locs hP hD hS => ?_)
                                obtain ⟨V1252, hV1252⟩ : ∃ z, z = up2 V1238 34 (Int32.toNatClampNeg z1222) z1226 := ⟨_, rfl⟩
                                have hP : va_P D vwCl (mw ad kk ks.1 V1252 L1239) H := by rw [hV1252]; exact hP
                                have hD : va_D A (mw ad kk ks.1 V1252 L1239) := by rw [hV1252]; exact hD
                                have hMV1252 : rgd bM V1252 := hMV1238.put hV1252 (i_full _)
                                have agV1252 : agr [(0, 7), (0, 8), (0, 48), (0, 50)] [27, 28, 29, 30, 31, 32, 33, 34, 35, 36, 37, 38, 45, 46, 47] V V1252 := agV1238.up hV1252 rfl
                                refine lv_goto (tgt := 187) hx hb dX12_member_179 (by decide) ?_
                                refine lv_aload_n hx hb dX12_member_187 rfl (lv_at hl 1 rfl) ?_
                                refine lv_bipush (v := 59) hx hb dX12_member_188 (by decide) ?_
                                have rl1253 : RelM V1252 L1239 bq gn gT sx1245 gl := RelM.ag rl1247 (show agr [] [34] V1238 V1252 from (agr.up agr.rf hV1252 rfl)) (by decide) (show agL [] L1239 L1239 from agL.rf) (by decide)
                                have r1254 : Int32.toInt 59 = 59 := by decide
                                refine gA_void (gA_runV (As := [.int 59]) (rest := []) (ci := 12) (q0 := 0) hx hb hml hown hg hP hD hK hS hA hnw hgk (s_takeSignA l D ks H.size ad kk V1252 L1239 59 (bq) (gn) (gT) (sx1245) (gl) hMV1252 rl1253 (sg_yes (j := 59) (by decide) (by decide) (by decide))) w2079 w2081 w96 w172 w2082 rfl rfl hdV_yX12_takeSign ⟨Nat.le_of_ble_eq_true rfl, Nat.le_of_ble_eq_true rfl⟩ rfl hl.1 rfl (Nat.le_of_ble_eq_true rfl) dX12_member_190 ⟨Nat.le_of_ble_eq_true rfl, Nat.le_of_ble_eq_true rfl⟩) hP hD hK hS hA (fun u1256 H locs w1257 hP hD hK hS => ?_)
                                obtain ⟨V1259, L1260⟩ := u1256
                                obtain ⟨hMV1259, ajV1259, axL1260, t1258⟩ := w1257
                                have axL1260 : L1239 = L1260 := Eq.symm axL1260
                                subst axL1260
                                have hP : va_P D vwCl (mw ad kk ks.1 V1259 L1239) H := hP
                                have hD : va_D A (mw ad kk ks.1 V1259 L1239) := hD
                                have hMV1259 : rgd bM V1259 := hMV1259
                                have ajV1259 : agr [(0, 7), (0, 8)] [] V1252 V1259 := ajV1259
                                have agV1259 : agr [(0, 7), (0, 8), (0, 48), (0, 50)] [27, 28, 29, 30, 31, 32, 33, 34, 35, 36, 37, 38, 45, 46, 47] V V1259 := agV1252.tr ajV1259 (by decide) (by decide)
                                have t1258 : ((V1259 0 8).toInt = 0 ∧ (gT).1 ((sx1245).1 0) = (Int32.toInt 59) ∧ RelM V1259 L1239 (bq) (gn) (gT) (nx (sx1245) 1) (gl)) ∨ (1 ≤ (V1259 0 8).toInt ∧ (gT).1 ((sx1245).1 0) ≠ (Int32.toInt 59) ∧ (V1259 0 8).toInt = 1 + 16 * (gT).2.2 ((sx1245).1 0)) := t1258
                                rcases t1258 with ⟨q1261, h1262, rl1263⟩ | ⟨q1261, h1262, rl1263⟩
                                · skip
                                  have kd1264 : gT.1 (sx1245.1 0) = 59 := h1262.trans (by decide)
                                  have hr1265 : ∀ k, Rc gT (Crun gs (Imember :: k)) (Crun (nx sx1245 1) (Imember :: k)) := fun k => Rc.go1 (hr1249 k) (tk_y kd1264)
                                  have ps1266 : (nx sx1245 1).1 0 = sx1245.1 0 + 1 := rfl
                                  have fz1267 := RelM.rg rl1263
                                  have r1268 : 0 ≤ ((V1259 0 8)).toInt ∧ ((V1259 0 8)).toInt ≤ 70000 := hMV1259 0 8
                                  have pq1269 : (V1259 0 48).toInt = ((V1238 0 48)).toInt := congrArg Int32.toInt ((ajV1259 0 48 rfl).trans (up2_o hV1252 (by decide)))
                                  have ps1270 : gs.1 0 + 1 ≤ (nx gs 1).1 0 := ((keepS.n1 1)).1
                                  have ps1271 : (nx gs 1).1 0 + 1 ≤ mx1196.2.1 0 := (kp1201).1
                                  have ps1272 : (sT mx1196.2 (mx1196.1 :: (nx gs 1).2.2.2)).1 0 = mx1196.2.1 0 := rfl
                                  have ps1273 : (sT mx1196.2 (mx1196.1 :: (nx gs 1).2.2.2)).1 0 + 1 ≤ sx1245.1 0 := (kp1248).1
                                  have ps1274 : sx1245.1 0 + 1 ≤ (nx sx1245 1).1 0 := ((keepS.n1 1)).1
                                  have k34 : (Int32.toNatClampNeg z1222) = 20 * gc + mx1196.1 := by have h9 := i_clamp (x := z1222) rfl (by omega); omega
                                  have cs1275 : 0 ≤ (V1259 34 (20 * gc + mx1196.1)).toInt := by have h9 : V1259 34 (Int32.toNatClampNeg z1222) = z1226 := ((ajV1259 34 (Int32.toNatClampNeg z1222) rfl).trans (up2_s hV1252)); rw [k34] at h9; rw [h9]; omega
                                  have cn1276 : CNm V1259 bq gs := CNm.ag cnm (show agr [(0, 7), (0, 8), (0, 48), (0, 50)] [34, 35, 36, 37, 38, 45, 46, 47] V V1259 from (agr.tr (agr.up (agr.tr (agr.tr (agr.tr (agr.tr (agr.tr agr.rf ajV726 (by decide) (by decide)) ajV1063 (by decide) (by decide)) ajV1171 (by decide) (by decide)) ajV1193 (by decide) (by decide)) ajV1238 (by decide) (by decide)) hV1252 rfl) ajV1259 (by decide) (by decide))) (by decide) keepC.rf
                                  have cn1277 : CNm V1259 bq (nx sx1245 1) := CNm.mv cn1276 (fun _ _ _ => rfl) (keepC.tr (keepC.tr (keepC.tr (keepC.tr (keepC.tr (keepC.rf : keepC gs gs) (keepS.c (keepS.n1 1))) (keepS.c kp1201)) (keepC.st : keepC mx1196.2 (sT mx1196.2 (mx1196.1 :: (nx gs 1).2.2.2)))) (keepS.c kp1248)) (keepS.c (keepS.n1 1)))
                                  have rw1278 : RoV 35 bq V V1259 := (fun k hk => ((ajV1259 35 k rfl).trans ((up2_o hV1252 (by decide)).trans ((t1234 k hk).trans ((t1189 k hk).trans ((ajV1171 35 k rfl).trans ((ajV1063 35 k rfl).trans ((ajV726 35 k rfl).trans rfl))))))))
                                  have rw1279 : RoV 37 bq V V1259 := (fun k hk => ((ajV1259 37 k rfl).trans ((up2_o hV1252 (by decide)).trans ((t1235 k hk).trans ((t1190 k hk).trans ((ajV1171 37 k rfl).trans ((ajV1063 37 k rfl).trans ((ajV726 37 k rfl).trans rfl))))))))
                                  have rw1280 : RoL 36 20 bq L L1239 := (fun k hk => ((t1236 k hk).trans ((t1191 k hk).trans rfl)))
                                  have rw1281 : RoL 38 20 bq L L1239 := (fun k hk => ((t1237 k hk).trans ((t1192 k hk).trans rfl)))
                                  exact W.vret hx hb hr (fun t ht hW => ⟨⟨(V1259, L1239), rfl, ⟨hMV1259, agV1259, alL1239, (Imp.mk (fun hp => have hp : (V1259 0 8).toInt = 0 := hp; (show (V1259 0 48).toInt ≤ 2 * (V1259 0 7).toInt from by first | omega | ((try (have i_t1229 := Imp.go t1229 (by omega))); omega)))), (show (V1259 0 48).toInt ≤ 8120 from by first | omega | ((try (have i_t1229 := Imp.go t1229 (by omega))); omega)), (Or.inl ⟨W0 rl1263, (nx sx1245 1), hr1265, rl1263, (by omega), (OWm.mt (m := 1) ow (keepS.le (keepS.tr (keepS.rf : keepS gs 0 gs) (keepS.n1 1)) (by decide)) (Nat.le_refl _) kp1201 (MTX.le mt1202).1 (MTX.le mt1202).2 (keepS.le (keepS.tr (keepS.tr (keepS.rf : keepS (sT mx1196.2 (mx1196.1 :: (nx gs 1).2.2.2)) 0 (sT mx1196.2 (mx1196.1 :: (nx gs 1).2.2.2))) kp1248) (keepS.n1 1)) (by decide)) (show (mx1196.2.2.1 3).length ≤ ((nx sx1245 1).2.1 3).length from by have h9 := Rc.ml (h1246 []); exact h9) (show V1259 27 gc = V 27 gc from ((ajV1259 27 _ rfl).trans ((up2_o hV1252 (by decide)).trans ((ajV1238 27 _ rfl).trans ((ajV1193 27 _ rfl).trans ((ajV1171 27 _ rfl).trans ((ajV1063 27 _ rfl).trans ((ajV726 27 _ rfl).trans rfl)))))))) (show V1259 32 gc = V 32 gc from ((ajV1259 32 _ rfl).trans ((up2_o hV1252 (by decide)).trans ((ajV1238 32 _ rfl).trans ((ajV1193 32 _ rfl).trans ((ajV1171 32 _ rfl).trans ((ajV1063 32 _ rfl).trans ((ajV726 32 _ rfl).trans rfl)))))))) (show V1259 33 gc = V 33 gc from ((ajV1259 33 _ rfl).trans ((up2_o hV1252 (by decide)).trans ((ajV1238 33 _ rfl).trans ((ajV1193 33 _ rfl).trans ((ajV1171 33 _ rfl).trans ((ajV1063 33 _ rfl).trans ((ajV726 33 _ rfl).trans rfl)))))))) cs1275 (fun f hf hne => ((ajV1259 34 _ rfl).trans ((up2_k hV1252 (by omega)).trans ((ajV1238 34 _ rfl).trans ((ajV1193 34 _ rfl).trans ((ajV1171 34 _ rfl).trans ((ajV1063 34 _ rfl).trans ((ajV726 34 _ rfl).trans rfl))))))))), ((((keepS.n1 1)).2.2.1 2 (by decide)).trans (((kp1248).2.2.1 2 (by decide)).trans ((rfl : (sT mx1196.2 (mx1196.1 :: (nx gs 1).2.2.2)).2.1 2 = mx1196.2.2.1 2).trans (((kp1201).2.2.1 2 (by decide)).trans ((((keepS.n1 1)).2.2.1 2 (by decide)).trans (rfl : gs.2.1 2 = gs.2.1 2)))))), ((congrArg (fun q9 => q9.1) ((keepS.n1 1)).2.2.2).trans ((congrArg (fun q9 => q9.1) (kp1248).2.2.2).trans ((rfl : (sT mx1196.2 (mx1196.1 :: (nx gs 1).2.2.2)).2.2.1 = mx1196.2.2.2.1).trans ((congrArg (fun q9 => q9.1) (kp1201).2.2.2).trans ((congrArg (fun q9 => q9.1) ((keepS.n1 1)).2.2.2).trans (rfl : gs.2.2.1 = gs.2.2.1)))))), cn1277⟩), rw1278, rw1279, rw1280, rw1281⟩, by rw [ht]; exact hP, va_K.moved hW.alike hK, hD⟩, hS.F ht⟩) hS.2.2 dX12_member_193
                                · skip
                                  have kd1282 : gT.1 (sx1245.1 0) ≠ 59 := fun h9 => h1262 (h9.trans (by decide))
                                  have hb1283 : ∀ k, Rc gT (Crun gs (Imember :: k)) (Cbad (V1259 0 8).toInt) := fun k => Rc.go1 (hr1249 k) ((tk_n kd1282).trans (fl_eq rfl rl1263))
                                  have r1284 : 0 ≤ ((V1259 0 8)).toInt ∧ ((V1259 0 8)).toInt ≤ 70000 := hMV1259 0 8
                                  have pq1285 : (V1259 0 48).toInt = ((V1238 0 48)).toInt := congrArg Int32.toInt ((ajV1259 0 48 rfl).trans (up2_o hV1252 (by decide)))
                                  have rw1286 : RoV 35 bq V V1259 := (fun k hk => ((ajV1259 35 k rfl).trans ((up2_o hV1252 (by decide)).trans ((t1234 k hk).trans ((t1189 k hk).trans ((ajV1171 35 k rfl).trans ((ajV1063 35 k rfl).trans ((ajV726 35 k rfl).trans rfl))))))))
                                  have rw1287 : RoV 37 bq V V1259 := (fun k hk => ((ajV1259 37 k rfl).trans ((up2_o hV1252 (by decide)).trans ((t1235 k hk).trans ((t1190 k hk).trans ((ajV1171 37 k rfl).trans ((ajV1063 37 k rfl).trans ((ajV726 37 k rfl).trans rfl))))))))
                                  have rw1288 : RoL 36 20 bq L L1239 := (fun k hk => ((t1236 k hk).trans ((t1191 k hk).trans rfl)))
                                  have rw1289 : RoL 38 20 bq L L1239 := (fun k hk => ((t1237 k hk).trans ((t1192 k hk).trans rfl)))
                                  exact W.vret hx hb hr (fun t ht hW => ⟨⟨(V1259, L1239), rfl, ⟨hMV1259, agV1259, alL1239, (Imp.mk (fun hp => have hp : (V1259 0 8).toInt = 0 := hp; (show (V1259 0 48).toInt ≤ 2 * (V1259 0 7).toInt from by first | omega | ((try (have i_t1229 := Imp.go t1229 (by omega))); omega)))), (show (V1259 0 48).toInt ≤ 8120 from by first | omega | ((try (have i_t1229 := Imp.go t1229 (by omega))); omega)), (Or.inr ⟨(show 1 ≤ (V1259 0 8).toInt from by omega), hb1283⟩), rw1286, rw1287, rw1288, rw1289⟩, by rw [ht]; exact hP, va_K.moved hW.alike hK, hD⟩, hS.F ht⟩) hS.2.2 dX12_member_193
                              · skip
                                have hb1290 : ∀ k, Rc gT (Crun gs (Imember :: k)) (Cbad (V1238 0 8).toInt) := fun k => (hr1218 k).tr (h1246 (Itake 59 :: Imember :: k))
                                refine va_iast (D := D) (i := z1222) (x := z1226) hx hb hK hP hD hS 27 26 rfl rfl (i_in (a := z1222.toInt) rfl (by first | omega | ((try (have i_t1229 := Imp.go t1229 (by omega))); omega))) dX12_member_178 (fun H locs hP hD hS => ?_)
                                obtain ⟨V1291, hV1291⟩ : ∃ z, z = up2 V1238 34 (Int32.toNatClampNeg z1222) z1226 := ⟨_, rfl⟩
                                have hP : va_P D vwCl (mw ad kk ks.1 V1291 L1239) H := by rw [hV1291]; exact hP
                                have hD : va_D A (mw ad kk ks.1 V1291 L1239) := by rw [hV1291]; exact hD
                                have hMV1291 : rgd bM V1291 := hMV1238.put hV1291 (i_full _)
                                have agV1291 : agr [(0, 7), (0, 8), (0, 48), (0, 50)] [27, 28, 29, 30, 31, 32, 33, 34, 35, 36, 37, 38, 45, 46, 47] V V1291 := agV1238.up hV1291 rfl
                                refine lv_goto (tgt := 187) hx hb dX12_member_179 (by decide) ?_
                                refine lv_aload_n hx hb dX12_member_187 rfl (lv_at hl 1 rfl) ?_
                                refine lv_bipush (v := 59) hx hb dX12_member_188 (by decide) ?_
                                have r1292 : Int32.toInt 59 = 59 := by decide
                                have pq1293 : (V1291 0 8).toInt = ((V1238 0 8)).toInt := congrArg Int32.toInt (up2_o hV1291 (by decide))
                                refine gA_void (gA_runV (As := [.int 59]) (rest := []) (ci := 12) (q0 := 0) hx hb hml hown hg hP hD hK hS hA hnw hgk (s_takeSignB l D ks H.size ad kk V1291 L1239 59 hMV1291 (show 1 ≤ (V1291 0 8).toInt from by first | omega | ((try (have i_t1229 := Imp.go t1229 (by omega))); omega))) w2079 w2081 w96 w172 w2082 rfl rfl hdV_yX12_takeSign ⟨Nat.le_of_ble_eq_true rfl, Nat.le_of_ble_eq_true rfl⟩ rfl hl.1 rfl (Nat.le_of_ble_eq_true rfl) dX12_member_190 ⟨Nat.le_of_ble_eq_true rfl, Nat.le_of_ble_eq_true rfl⟩) hP hD hK hS hA (fun u1295 H locs w1296 hP hD hK hS => ?_)
                                obtain ⟨V1298, L1299⟩ := u1295
                                obtain ⟨hMV1298, ajV1298, axL1299, t1297⟩ := w1296
                                have axL1299 : L1239 = L1299 := Eq.symm axL1299
                                subst axL1299
                                have hP : va_P D vwCl (mw ad kk ks.1 V1298 L1239) H := hP
                                have hD : va_D A (mw ad kk ks.1 V1298 L1239) := hD
                                have hMV1298 : rgd bM V1298 := hMV1298
                                have ajV1298 : agr [(0, 7), (0, 8)] [] V1291 V1298 := ajV1298
                                have agV1298 : agr [(0, 7), (0, 8), (0, 48), (0, 50)] [27, 28, 29, 30, 31, 32, 33, 34, 35, 36, 37, 38, 45, 46, 47] V V1298 := agV1291.tr ajV1298 (by decide) (by decide)
                                have t1297 : (V1298 0 8).toInt = (V1291 0 8).toInt := t1297
                                have r1300 : 0 ≤ ((V1298 0 8)).toInt ∧ ((V1298 0 8)).toInt ≤ 70000 := hMV1298 0 8
                                have pq1301 : (V1298 0 48).toInt = ((V1238 0 48)).toInt := congrArg Int32.toInt ((ajV1298 0 48 rfl).trans (up2_o hV1291 (by decide)))
                                have rw1302 : RoV 35 bq V V1298 := (fun k hk => ((ajV1298 35 k rfl).trans ((up2_o hV1291 (by decide)).trans ((t1234 k hk).trans ((t1189 k hk).trans ((ajV1171 35 k rfl).trans ((ajV1063 35 k rfl).trans ((ajV726 35 k rfl).trans rfl))))))))
                                have rw1303 : RoV 37 bq V V1298 := (fun k hk => ((ajV1298 37 k rfl).trans ((up2_o hV1291 (by decide)).trans ((t1235 k hk).trans ((t1190 k hk).trans ((ajV1171 37 k rfl).trans ((ajV1063 37 k rfl).trans ((ajV726 37 k rfl).trans rfl))))))))
                                have rw1304 : RoL 36 20 bq L L1239 := (fun k hk => ((t1236 k hk).trans ((t1191 k hk).trans rfl)))
                                have rw1305 : RoL 38 20 bq L L1239 := (fun k hk => ((t1237 k hk).trans ((t1192 k hk).trans rfl)))
                                exact W.vret hx hb hr (fun t ht hW => ⟨⟨(V1298, L1239), rfl, ⟨hMV1298, agV1298, alL1239, (Imp.mk (fun hp => have hp : (V1298 0 8).toInt = 0 := hp; (show (V1298 0 48).toInt ≤ 2 * (V1298 0 7).toInt from by first | omega | ((try (have i_t1229 := Imp.go t1229 (by omega))); omega)))), (show (V1298 0 48).toInt ≤ 8120 from by first | omega | ((try (have i_t1229 := Imp.go t1229 (by omega))); omega)), (Or.inr ⟨(show 1 ≤ (V1298 0 8).toInt from by omega), (fun k => by rw [show (V1298 0 8).toInt = (V1238 0 8).toInt from by omega]; exact hb1290 k)⟩), rw1302, rw1303, rw1304, rw1305⟩, by rw [ht]; exact hP, va_K.moved hW.alike hK, hD⟩, hS.F ht⟩) hS.2.2 dX12_member_193
                          · skip
                            have f1306 : 0 ≤ ((V 34 (Int32.toNatClampNeg z1210))).toInt := b_nlt rfl (by decide) c1213
                            refine lv_aload_n hx hb dX12_member_142 rfl (lv_at hl 1 rfl) ?_
                            refine lv_dup hx hb dX12_member_143 rfl ?_
                            refine va_get (D := D) (ci := 12) (v := .int (V1193 0 7)) (C := RX12) (T := TX12) (N := 100) hx hb hg inX12 hown hK hP 0 rfl rfl 7 (by decide) (hg _ w1717) (fun _ h9 => h9) rfl dX12_member_144 ?_
                            refine lv_iconst (v := 1) hx hb dX12_member_147 (by decide) ?_
                            refine lv_isub hx hb dX12_member_148 ?_
                            refine lv_topi (fun z1307 ez1307 => ?_)
                            have hz1307 : z1307.toInt = ((V1193 0 7)).toInt - 1 := i_sub ez1307 rfl (by decide) (by omega)
                            refine va_put (D := D) (ci := 12) (v := .int z1307) (ty := tyX12 7) (C := RX12) (T := TX12) (N := 100) hx hb hg inX12 tyX12 tyX12_ok nmX12 hown hK hP hD hS 0 rfl rfl 7 (by decide) (hg _ w1717) (fun _ h9 => h9) rfl (tyX12_ok 7 (by decide)) rfl rfl (Nat.le_of_ble_eq_true rfl) dX12_member_149 (fun H locs hP hD hS => ?_)
                            obtain ⟨V1308, hV1308⟩ : ∃ z, z = up2 V1193 0 7 z1307 := ⟨_, rfl⟩
                            have hP : va_P D vwCl (mw ad kk ks.1 V1308 L1194) H := by rw [hV1308]; exact hP
                            have hD : va_D A (mw ad kk ks.1 V1308 L1194) := by rw [hV1308]; exact hD
                            have hMV1308 : rgd bM V1308 := hMV1193.put hV1308 (i_full _)
                            have agV1308 : agr [(0, 7), (0, 8), (0, 48), (0, 50)] [27, 28, 29, 30, 31, 32, 33, 34, 35, 36, 37, 38, 45, 46, 47] V V1308 := agV1193.up hV1308 rfl
                            have tx := MTX.told mt1202 (by rw [oS]; exact ow5.mp (by omega)) (by rw [oS, oL]; exact ow.2.2.2.2.2)
                            have rl1309 : RelM V1308 L1194 bq gn gT (nx gs 1) gl := RelM.v8 (by rw [← tx.2]; exact rl1198) hV1308 (by omega)
                            have fz1310 := RelM.rg rl1309
                            have pq1311 : (V1308 0 8).toInt = ((V1193 0 8)).toInt := congrArg Int32.toInt (up2_k hV1308 (by decide))
                            have pq1312 : (V1308 0 7).toInt = z1307.toInt := congrArg Int32.toInt (up2_s hV1308)
                            have mn3 : ∀ k, mst gT (Crun (nx gs 1) (ImethN :: k)) = fl gT (nx gs 1) 3 := fun k => mthN_3 (mth_k3 h1197) tx.1 _
                            refine lv_aload_n hx hb dX12_member_152 rfl (lv_at hl 1 rfl) ?_
                            refine lv_iconst (v := 3) hx hb dX12_member_153 (by decide) ?_
                            have r1313 : Int32.toInt 3 = 3 := by decide
                            refine gA_void (gA_runV (As := [.int 3]) (rest := []) (ci := 12) (q0 := 0) hx hb hml hown hg hP hD hK hS hA hnw hgk (s_wrongA l D ks H.size ad kk V1308 L1194 3 (bq) (gn) (gT) ((nx gs 1)) (gl) hMV1308 (by decide) rl1309) w2039 w2041 w86 w172 w2042 rfl rfl hdV_yX12_wrong ⟨Nat.le_of_ble_eq_true rfl, Nat.le_of_ble_eq_true rfl⟩ rfl hl.1 rfl (Nat.le_of_ble_eq_true rfl) dX12_member_154 ⟨Nat.le_of_ble_eq_true rfl, Nat.le_of_ble_eq_true rfl⟩) hP hD hK hS hA (fun u1315 H locs w1316 hP hD hK hS => ?_)
                            obtain ⟨V1319, L1320⟩ := u1315
                            obtain ⟨hMV1319, ajV1319, axL1320, t1317, t1318⟩ := w1316
                            have axL1320 : L1194 = L1320 := Eq.symm axL1320
                            subst axL1320
                            have hP : va_P D vwCl (mw ad kk ks.1 V1319 L1194) H := hP
                            have hD : va_D A (mw ad kk ks.1 V1319 L1194) := hD
                            have hMV1319 : rgd bM V1319 := hMV1319
                            have ajV1319 : agr [(0, 8)] [] V1308 V1319 := ajV1319
                            have agV1319 : agr [(0, 7), (0, 8), (0, 48), (0, 50)] [27, 28, 29, 30, 31, 32, 33, 34, 35, 36, 37, 38, 45, 46, 47] V V1319 := agV1308.tr ajV1319 (by decide) (by decide)
                            have t1317 : 1 ≤ (V1319 0 8).toInt := t1317
                            have t1318 : (V1319 0 8).toInt = (Int32.toInt 3) + 16 * (gT).2.2 (((nx gs 1)).1 0) := t1318
                            have r1321 : 0 ≤ ((V1319 0 8)).toInt ∧ ((V1319 0 8)).toInt ≤ 70000 := hMV1319 0 8
                            have hb1322 : ∀ k, Rc gT (Crun gs (Imember :: k)) (Cbad (V1319 0 8).toInt) := fun k => Rc.go1 (hr1178 k) ((mn3 _).trans (fl_eq rfl (show (V1319 0 8).toInt = 3 + 16 * gT.2.2 ((nx gs 1).1 0) from by omega)))
                            refine lv_aload_n hx hb dX12_member_157 rfl (lv_at hl 1 rfl) ?_
                            refine va_get (D := D) (ci := 12) (v := .int (V1319 0 8)) (C := RX12) (T := TX12) (N := 100) hx hb hg inX12 hown hK hP 0 rfl rfl 8 (by decide) (hg _ w1718) (fun _ h9 => h9) rfl dX12_member_158 ?_
                            refine lv_if_ne (tgt := 179) hx hb dX12_member_161 (by decide) (fun c1323 => ?_) (fun c1323 => ?_)
                            · skip
                              have f1324 : ((V1319 0 8)).toInt ≠ 0 := b_neq rfl (by decide) c1323
                              refine lv_goto (tgt := 187) hx hb dX12_member_179 (by decide) ?_
                              refine lv_aload_n hx hb dX12_member_187 rfl (lv_at hl 1 rfl) ?_
                              refine lv_bipush (v := 59) hx hb dX12_member_188 (by decide) ?_
                              have r1325 : Int32.toInt 59 = 59 := by decide
                              refine gA_void (gA_runV (As := [.int 59]) (rest := []) (ci := 12) (q0 := 0) hx hb hml hown hg hP hD hK hS hA hnw hgk (s_takeSignB l D ks H.size ad kk V1319 L1194 59 hMV1319 (show 1 ≤ (V1319 0 8).toInt from by omega)) w2079 w2081 w96 w172 w2082 rfl rfl hdV_yX12_takeSign ⟨Nat.le_of_ble_eq_true rfl, Nat.le_of_ble_eq_true rfl⟩ rfl hl.1 rfl (Nat.le_of_ble_eq_true rfl) dX12_member_190 ⟨Nat.le_of_ble_eq_true rfl, Nat.le_of_ble_eq_true rfl⟩) hP hD hK hS hA (fun u1327 H locs w1328 hP hD hK hS => ?_)
                              obtain ⟨V1330, L1331⟩ := u1327
                              obtain ⟨hMV1330, ajV1330, axL1331, t1329⟩ := w1328
                              have axL1331 : L1194 = L1331 := Eq.symm axL1331
                              subst axL1331
                              have hP : va_P D vwCl (mw ad kk ks.1 V1330 L1194) H := hP
                              have hD : va_D A (mw ad kk ks.1 V1330 L1194) := hD
                              have hMV1330 : rgd bM V1330 := hMV1330
                              have ajV1330 : agr [(0, 7), (0, 8)] [] V1319 V1330 := ajV1330
                              have agV1330 : agr [(0, 7), (0, 8), (0, 48), (0, 50)] [27, 28, 29, 30, 31, 32, 33, 34, 35, 36, 37, 38, 45, 46, 47] V V1330 := agV1319.tr ajV1330 (by decide) (by decide)
                              have t1329 : (V1330 0 8).toInt = (V1319 0 8).toInt := t1329
                              have r1332 : 0 ≤ ((V1330 0 8)).toInt ∧ ((V1330 0 8)).toInt ≤ 70000 := hMV1330 0 8
                              have pq1333 : (V1330 0 48).toInt = ((V 0 48)).toInt := congrArg Int32.toInt ((ajV1330 0 48 rfl).trans ((ajV1319 0 48 rfl).trans ((up2_k hV1308 (by decide)).trans ((ajV1193 0 48 rfl).trans ((ajV1171 0 48 rfl).trans ((ajV1063 0 48 rfl).trans (ajV726 0 48 rfl)))))))
                              have rw1334 : RoV 35 bq V V1330 := (fun k hk => ((ajV1330 35 k rfl).trans ((ajV1319 35 k rfl).trans ((up2_o hV1308 (by decide)).trans ((t1189 k hk).trans ((ajV1171 35 k rfl).trans ((ajV1063 35 k rfl).trans ((ajV726 35 k rfl).trans rfl))))))))
                              have rw1335 : RoV 37 bq V V1330 := (fun k hk => ((ajV1330 37 k rfl).trans ((ajV1319 37 k rfl).trans ((up2_o hV1308 (by decide)).trans ((t1190 k hk).trans ((ajV1171 37 k rfl).trans ((ajV1063 37 k rfl).trans ((ajV726 37 k rfl).trans rfl))))))))
                              have rw1336 : RoL 36 20 bq L L1194 := (fun k hk => ((t1191 k hk).trans rfl))
                              have rw1337 : RoL 38 20 bq L L1194 := (fun k hk => ((t1192 k hk).trans rfl))
                              exact W.vret hx hb hr (fun t ht hW => ⟨⟨(V1330, L1194), rfl, ⟨hMV1330, agV1330, alL1194, (Imp.mk (fun hp => have hp : (V1330 0 8).toInt = 0 := hp; (show (V1330 0 48).toInt ≤ 2 * (V1330 0 7).toInt from by omega))), (show (V1330 0 48).toInt ≤ 8120 from by omega), (Or.inr ⟨(show 1 ≤ (V1330 0 8).toInt from by omega), (fun k => by rw [show (V1330 0 8).toInt = (V1319 0 8).toInt from by omega]; exact hb1322 k)⟩), rw1334, rw1335, rw1336, rw1337⟩, by rw [ht]; exact hP, va_K.moved hW.alike hK, hD⟩, hS.F ht⟩) hS.2.2 dX12_member_193
                            · skip
                              have f1338 : ((V1319 0 8)).toInt = 0 := b_eq rfl (by decide) c1323
                              exfalso; omega
                      · skip
                        have hb1339 : ∀ k, Rc gT (Crun gs (Imember :: k)) (Cbad (V1193 0 8).toInt) := fun k => Rc.go1 (hr1178 k) (mn_b (Km_mthN h1197))
                        have r1340 : 0 ≤ ((V1193 0 8)).toInt ∧ ((V1193 0 8)).toInt ≤ 70000 := hMV1193 0 8
                        refine lv_istore_n (lv' := [(2, .int z1185), (0, .ref (ad 0)), (1, .int p0)]) hx hb dX12_member_120 rfl hl (by decide) rfl (fun ls hl => ?_)
                        refine lv_aload_n hx hb dX12_member_121 rfl (lv_at hl 1 rfl) ?_
                        refine va_get (D := D) (ci := 12) (v := .int (V1193 0 8)) (C := RX12) (T := TX12) (N := 100) hx hb hg inX12 hown hK hP 0 rfl rfl 8 (by decide) (hg _ w1718) (fun _ h9 => h9) rfl dX12_member_122 ?_
                        refine lv_if_ne (tgt := 157) hx hb dX12_member_125 (by decide) (fun c1341 => ?_) (fun c1341 => ?_)
                        · skip
                          have f1342 : ((V1193 0 8)).toInt ≠ 0 := b_neq rfl (by decide) c1341
                          refine lv_aload_n hx hb dX12_member_157 rfl (lv_at hl 1 rfl) ?_
                          refine va_get (D := D) (ci := 12) (v := .int (V1193 0 8)) (C := RX12) (T := TX12) (N := 100) hx hb hg inX12 hown hK hP 0 rfl rfl 8 (by decide) (hg _ w1718) (fun _ h9 => h9) rfl dX12_member_158 ?_
                          refine lv_if_ne (tgt := 179) hx hb dX12_member_161 (by decide) (fun c1343 => ?_) (fun c1343 => ?_)
                          · skip
                            have f1344 : ((V1193 0 8)).toInt ≠ 0 := b_neq rfl (by decide) c1343
                            refine lv_goto (tgt := 187) hx hb dX12_member_179 (by decide) ?_
                            refine lv_aload_n hx hb dX12_member_187 rfl (lv_at hl 1 rfl) ?_
                            refine lv_bipush (v := 59) hx hb dX12_member_188 (by decide) ?_
                            have r1345 : Int32.toInt 59 = 59 := by decide
                            refine gA_void (gA_runV (As := [.int 59]) (rest := []) (ci := 12) (q0 := 0) hx hb hml hown hg hP hD hK hS hA hnw hgk (s_takeSignB l D ks H.size ad kk V1193 L1194 59 hMV1193 (show 1 ≤ (V1193 0 8).toInt from by omega)) w2079 w2081 w96 w172 w2082 rfl rfl hdV_yX12_takeSign ⟨Nat.le_of_ble_eq_true rfl, Nat.le_of_ble_eq_true rfl⟩ rfl hl.1 rfl (Nat.le_of_ble_eq_true rfl) dX12_member_190 ⟨Nat.le_of_ble_eq_true rfl, Nat.le_of_ble_eq_true rfl⟩) hP hD hK hS hA (fun u1347 H locs w1348 hP hD hK hS => ?_)
                            obtain ⟨V1350, L1351⟩ := u1347
                            obtain ⟨hMV1350, ajV1350, axL1351, t1349⟩ := w1348
                            have axL1351 : L1194 = L1351 := Eq.symm axL1351
                            subst axL1351
                            have hP : va_P D vwCl (mw ad kk ks.1 V1350 L1194) H := hP
                            have hD : va_D A (mw ad kk ks.1 V1350 L1194) := hD
                            have hMV1350 : rgd bM V1350 := hMV1350
                            have ajV1350 : agr [(0, 7), (0, 8)] [] V1193 V1350 := ajV1350
                            have agV1350 : agr [(0, 7), (0, 8), (0, 48), (0, 50)] [27, 28, 29, 30, 31, 32, 33, 34, 35, 36, 37, 38, 45, 46, 47] V V1350 := agV1193.tr ajV1350 (by decide) (by decide)
                            have t1349 : (V1350 0 8).toInt = (V1193 0 8).toInt := t1349
                            have r1352 : 0 ≤ ((V1350 0 8)).toInt ∧ ((V1350 0 8)).toInt ≤ 70000 := hMV1350 0 8
                            have pq1353 : (V1350 0 48).toInt = ((V 0 48)).toInt := congrArg Int32.toInt ((ajV1350 0 48 rfl).trans ((ajV1193 0 48 rfl).trans ((ajV1171 0 48 rfl).trans ((ajV1063 0 48 rfl).trans (ajV726 0 48 rfl)))))
                            have rw1354 : RoV 35 bq V V1350 := (fun k hk => ((ajV1350 35 k rfl).trans ((t1189 k hk).trans ((ajV1171 35 k rfl).trans ((ajV1063 35 k rfl).trans ((ajV726 35 k rfl).trans rfl))))))
                            have rw1355 : RoV 37 bq V V1350 := (fun k hk => ((ajV1350 37 k rfl).trans ((t1190 k hk).trans ((ajV1171 37 k rfl).trans ((ajV1063 37 k rfl).trans ((ajV726 37 k rfl).trans rfl))))))
                            have rw1356 : RoL 36 20 bq L L1194 := (fun k hk => ((t1191 k hk).trans rfl))
                            have rw1357 : RoL 38 20 bq L L1194 := (fun k hk => ((t1192 k hk).trans rfl))
                            exact W.vret hx hb hr (fun t ht hW => ⟨⟨(V1350, L1194), rfl, ⟨hMV1350, agV1350, alL1194, (Imp.mk (fun hp => have hp : (V1350 0 8).toInt = 0 := hp; (show (V1350 0 48).toInt ≤ 2 * (V1350 0 7).toInt from by omega))), (show (V1350 0 48).toInt ≤ 8120 from by omega), (Or.inr ⟨(show 1 ≤ (V1350 0 8).toInt from by omega), (fun k => by rw [show (V1350 0 8).toInt = (V1193 0 8).toInt from by omega]; exact hb1339 k)⟩), rw1354, rw1355, rw1356, rw1357⟩, by rw [ht]; exact hP, va_K.moved hW.alike hK, hD⟩, hS.F ht⟩) hS.2.2 dX12_member_193
                          · skip
                            have f1358 : ((V1193 0 8)).toInt = 0 := b_eq rfl (by decide) c1343
                            exfalso; omega
                        · skip
                          have f1359 : ((V1193 0 8)).toInt = 0 := b_eq rfl (by decide) c1341
                          exfalso; omega
                  · skip
                    have kd1360 : gT.1 (gs.1 0) ≠ 142 := fun h9 => h1174 (h9.trans (by decide))
                    have fz1361 := RelM.rg rl1175
                    have pq1362 : (V1171 0 8).toInt = ((V 0 8)).toInt := congrArg Int32.toInt ((ajV1171 0 8 rfl).trans ((ajV1063 0 8 rfl).trans (ajV726 0 8 rfl)))
                    refine lv_if_eq (tgt := 182) hx hb dX12_member_105 (by decide) (fun c1363 => ?_) (fun c1363 => ?_)
                    · skip
                      have f1364 : z1167.toInt = 0 := b_eq rfl (by decide) c1363
                      refine lv_aload_n hx hb dX12_member_182 rfl (lv_at hl 0 rfl) ?_
                      refine lv_iconst (v := 1) hx hb dX12_member_183 (by decide) ?_
                      have r1365 : Int32.toInt 1 = 1 := by decide
                      refine gA_void (gA_runV (As := [.int 1]) (rest := []) (ci := 12) (q0 := 0) hx hb hml hown hg hP hD hK hS hA hnw hgk (s_wrongA l D ks H.size ad kk V1171 L 1 (bq) (gn) (gT) (gs) (gl) hMV1171 (by decide) rl1175) w2039 w2041 w86 w172 w2042 rfl rfl hdV_yX12_wrong ⟨Nat.le_of_ble_eq_true rfl, Nat.le_of_ble_eq_true rfl⟩ rfl hl.1 rfl (Nat.le_of_ble_eq_true rfl) dX12_member_184 ⟨Nat.le_of_ble_eq_true rfl, Nat.le_of_ble_eq_true rfl⟩) hP hD hK hS hA (fun u1367 H locs w1368 hP hD hK hS => ?_)
                      obtain ⟨V1371, L1372⟩ := u1367
                      obtain ⟨hMV1371, ajV1371, axL1372, t1369, t1370⟩ := w1368
                      have axL1372 : L = L1372 := Eq.symm axL1372
                      subst axL1372
                      have hP : va_P D vwCl (mw ad kk ks.1 V1371 L) H := hP
                      have hD : va_D A (mw ad kk ks.1 V1371 L) := hD
                      have hMV1371 : rgd bM V1371 := hMV1371
                      have ajV1371 : agr [(0, 8)] [] V1171 V1371 := ajV1371
                      have agV1371 : agr [(0, 7), (0, 8), (0, 48), (0, 50)] [27, 28, 29, 30, 31, 32, 33, 34, 35, 36, 37, 38, 45, 46, 47] V V1371 := agV1171.tr ajV1371 (by decide) (by decide)
                      have t1369 : 1 ≤ (V1371 0 8).toInt := t1369
                      have t1370 : (V1371 0 8).toInt = (Int32.toInt 1) + 16 * (gT).2.2 ((gs).1 0) := t1370
                      have r1373 : 0 ≤ ((V1371 0 8)).toInt ∧ ((V1371 0 8)).toInt ≤ 70000 := hMV1371 0 8
                      have hr1374 : ∀ k, Rc gT (Crun gs (Imember :: k)) (Crun gs (Imember :: k)) := fun k => Rc.rf
                      have hb1375 : ∀ k, Rc gT (Crun gs (Imember :: k)) (Cbad (V1371 0 8).toInt) := fun k => Rc.go1 (hr1374 k) ((mb_f kn125 kd151 (Or.inl kd825) (Or.inl kd1161) kd1360).trans (fl_eq rfl (show (V1371 0 8).toInt = 1 + 16 * gT.2.2 (gs.1 0) from by omega)))
                      refine lv_aload_n hx hb dX12_member_187 rfl (lv_at hl 0 rfl) ?_
                      refine lv_bipush (v := 59) hx hb dX12_member_188 (by decide) ?_
                      have r1376 : Int32.toInt 59 = 59 := by decide
                      refine gA_void (gA_runV (As := [.int 59]) (rest := []) (ci := 12) (q0 := 0) hx hb hml hown hg hP hD hK hS hA hnw hgk (s_takeSignB l D ks H.size ad kk V1371 L 59 hMV1371 (show 1 ≤ (V1371 0 8).toInt from by omega)) w2079 w2081 w96 w172 w2082 rfl rfl hdV_yX12_takeSign ⟨Nat.le_of_ble_eq_true rfl, Nat.le_of_ble_eq_true rfl⟩ rfl hl.1 rfl (Nat.le_of_ble_eq_true rfl) dX12_member_190 ⟨Nat.le_of_ble_eq_true rfl, Nat.le_of_ble_eq_true rfl⟩) hP hD hK hS hA (fun u1378 H locs w1379 hP hD hK hS => ?_)
                      obtain ⟨V1381, L1382⟩ := u1378
                      obtain ⟨hMV1381, ajV1381, axL1382, t1380⟩ := w1379
                      have axL1382 : L = L1382 := Eq.symm axL1382
                      subst axL1382
                      have hP : va_P D vwCl (mw ad kk ks.1 V1381 L) H := hP
                      have hD : va_D A (mw ad kk ks.1 V1381 L) := hD
                      have hMV1381 : rgd bM V1381 := hMV1381
                      have ajV1381 : agr [(0, 7), (0, 8)] [] V1371 V1381 := ajV1381
                      have agV1381 : agr [(0, 7), (0, 8), (0, 48), (0, 50)] [27, 28, 29, 30, 31, 32, 33, 34, 35, 36, 37, 38, 45, 46, 47] V V1381 := agV1371.tr ajV1381 (by decide) (by decide)
                      have t1380 : (V1381 0 8).toInt = (V1371 0 8).toInt := t1380
                      have r1383 : 0 ≤ ((V1381 0 8)).toInt ∧ ((V1381 0 8)).toInt ≤ 70000 := hMV1381 0 8
                      have pq1384 : (V1381 0 48).toInt = ((V 0 48)).toInt := congrArg Int32.toInt ((ajV1381 0 48 rfl).trans ((ajV1371 0 48 rfl).trans ((ajV1171 0 48 rfl).trans ((ajV1063 0 48 rfl).trans (ajV726 0 48 rfl)))))
                      have rw1385 : RoV 35 bq V V1381 := (fun k hk => ((ajV1381 35 k rfl).trans ((ajV1371 35 k rfl).trans ((ajV1171 35 k rfl).trans ((ajV1063 35 k rfl).trans ((ajV726 35 k rfl).trans rfl))))))
                      have rw1386 : RoV 37 bq V V1381 := (fun k hk => ((ajV1381 37 k rfl).trans ((ajV1371 37 k rfl).trans ((ajV1171 37 k rfl).trans ((ajV1063 37 k rfl).trans ((ajV726 37 k rfl).trans rfl))))))
                      have rw1387 : RoL 36 20 bq L L := (fun k hk => rfl)
                      have rw1388 : RoL 38 20 bq L L := (fun k hk => rfl)
                      exact W.vret hx hb hr (fun t ht hW => ⟨⟨(V1381, L), rfl, ⟨hMV1381, agV1381, alL, (Imp.mk (fun hp => have hp : (V1381 0 8).toInt = 0 := hp; (show (V1381 0 48).toInt ≤ 2 * (V1381 0 7).toInt from by omega))), (show (V1381 0 48).toInt ≤ 8120 from by omega), (Or.inr ⟨(show 1 ≤ (V1381 0 8).toInt from by omega), (fun k => by rw [show (V1381 0 8).toInt = (V1371 0 8).toInt from by omega]; exact hb1375 k)⟩), rw1385, rw1386, rw1387, rw1388⟩, by rw [ht]; exact hP, va_K.moved hW.alike hK, hD⟩, hS.F ht⟩) hS.2.2 dX12_member_193
                    · skip
                      have f1389 : z1167.toInt ≠ 0 := b_neq rfl (by decide) c1363
                      exfalso; omega
                · skip
                  have f1390 : z1059.toInt ≠ 0 := b_neq rfl (by decide) c1164
                  exfalso; omega
          · skip
            have f1391 : z722.toInt ≠ 0 := b_neq rfl (by decide) c829
            exfalso; omega
    · skip
      have f1392 : z5.toInt ≠ 0 := b_neq rfl (by decide) c152
      exfalso; omega
