def dOk (cc : ByteArray) (l : List (Nat × Instr × Nat)) : Bool := l.all fun q => decide (decode cc q.1 = .ok q.2)
theorem dr9 {cc : ByteArray} {l : List (Nat × Instr × Nat)} (h : dOk cc l = true) (i : Nat) (q : Nat × Instr × Nat) (e : l[i]? = some q) : decode cc q.1 = .ok q.2 := of_decide_eq_true (List.all_eq_true.mp h q (List.mem_of_getElem? e))
/-! A module's world as a function of numbers: V cell place, L for longs. What was written, what is within its bounds. -/
abbrev Vf : Type := Nat → Nat → Int32
abbrev Lf : Type := Nat → Nat → Int64
def up2 (V : Vf) (c k : Nat) (v : Int32) : Vf := fun c' => if c' = c then upd (V c') k v else V c'
def upL (L : Lf) (c k : Nat) (v : Int64) : Lf := fun c' => if c' = c then vp_updL (L c') k v else L c'
theorem up2_s {V V1 : Vf} {c k : Nat} {v : Int32} (h : V1 = up2 V c k v) : V1 c k = v := by rw [h]; unfold up2; rw [if_pos rfl]; exact pk_us
theorem up2_o {V V1 : Vf} {c k c' k' : Nat} {v : Int32} (h : V1 = up2 V c k v) (hc : ¬ c' = c) : V1 c' k' = V c' k' := by rw [h]; unfold up2; rw [if_neg hc]
theorem up2_k {V V1 : Vf} {c k k' : Nat} {v : Int32} (h : V1 = up2 V c k v) (hk : ¬ k' = k) : V1 c k' = V c k' := by rw [h]; unfold up2; rw [if_pos rfl]; exact pk_un hk
def wrL (fs : List (Nat × Nat)) (cs : List Nat) (c k : Nat) : Bool := fs.contains (c, k) || cs.contains c
def agr (fs : List (Nat × Nat)) (cs : List Nat) (V V' : Vf) : Prop := ∀ c k, wrL fs cs c k = false → V' c k = V c k
theorem agr.rf {fs : List (Nat × Nat)} {cs : List Nat} {V : Vf} : agr fs cs V V := fun _ _ _ => rfl
theorem agr.up {fs : List (Nat × Nat)} {cs : List Nat} {V V1 V2 : Vf} {c k : Nat} {v : Int32} (h : agr fs cs V V1) (hv : V2 = up2 V1 c k v) (hw : wrL fs cs c k = true) : agr fs cs V V2 := by
  intro c' k' hf
  by_cases hc : c' = c
  · subst hc
    by_cases hk : k' = k
    · subst hk
      rw [hw] at hf
      cases hf
    · exact (up2_k hv hk).trans (h _ _ hf)
  · exact (up2_o hv hc).trans (h _ _ hf)
theorem wrL_sub {fs fs' : List (Nat × Nat)} {cs cs' : List Nat} (s1 : ∀ x ∈ fs', x ∈ fs) (s2 : ∀ x ∈ cs', x ∈ cs) {c k : Nat} (h : wrL fs cs c k = false) : wrL fs' cs' c k = false := by
  unfold wrL at h ⊢
  rw [Bool.or_eq_false_iff] at h ⊢
  refine ⟨?_, ?_⟩
  · rw [← Bool.not_eq_true] at h ⊢
    intro q
    have h1 := s1 _ (List.contains_iff_mem.mp q)
    exact h.1 (List.contains_iff_mem.mpr h1)
  · have h2 := h.2
    rw [← Bool.not_eq_true] at h2 ⊢
    intro q
    exact h2 (List.contains_iff_mem.mpr (s2 _ (List.contains_iff_mem.mp q)))
theorem agr.tr {fs fs' : List (Nat × Nat)} {cs cs' : List Nat} {V V1 V2 : Vf} (h : agr fs cs V V1) (h2 : agr fs' cs' V1 V2) (s1 : ∀ x ∈ fs', x ∈ fs) (s2 : ∀ x ∈ cs', x ∈ cs) : agr fs cs V V2 :=
  fun c k hf => (h2 c k (wrL_sub s1 s2 hf)).trans (h c k hf)
def agL (cs : List Nat) (L L' : Lf) : Prop := ∀ c k, cs.contains c = false → L' c k = L c k
theorem agL.rf {cs : List Nat} {L : Lf} : agL cs L L := fun _ _ _ => rfl
theorem agL.up {cs : List Nat} {L L1 L2 : Lf} {c k : Nat} {v : Int64} (h : agL cs L L1) (hv : L2 = upL L1 c k v) (hw : cs.contains c = true) : agL cs L L2 := by
  intro c' k' hf
  by_cases hc : c' = c
  · subst hc
    rw [hw] at hf
    cases hf
  · have e : L2 c' k' = L1 c' k' := by rw [hv]; unfold upL; rw [if_neg hc]
    exact e.trans (h _ _ hf)
theorem agL.tr {cs cs' : List Nat} {L L1 L2 : Lf} (h : agL cs L L1) (h2 : agL cs' L1 L2) (s2 : ∀ x ∈ cs', x ∈ cs) : agL cs L L2 := by
  intro c k hf
  refine (h2 c k ?_).trans (h c k hf)
  rw [← Bool.not_eq_true] at hf ⊢
  intro q
  exact hf (List.contains_iff_mem.mpr (s2 _ (List.contains_iff_mem.mp q)))
def rgd (B : Nat → Nat → Int × Int) (V : Vf) : Prop := ∀ c k, (B c k).1 ≤ (V c k).toInt ∧ (V c k).toInt ≤ (B c k).2
theorem rgd.put {B : Nat → Nat → Int × Int} {V V1 : Vf} {c k : Nat} {v : Int32} (h : rgd B V) (hv : V1 = up2 V c k v) (h1 : (B c k).1 ≤ v.toInt ∧ v.toInt ≤ (B c k).2) : rgd B V1 := by
  intro c' k'
  by_cases hc : c' = c
  · subst hc
    by_cases hk : k' = k
    · subst hk
      rw [up2_s hv]
      exact h1
    · rw [up2_k hv hk]
      exact h _ _
  · rw [up2_o hv hc]
    exact h _ _
theorem i_full (x : Int32) : -2147483648 ≤ x.toInt ∧ x.toInt ≤ 2147483647 := ⟨Int32.le_toInt x, Int32.toInt_le x⟩
theorem i_bm {n : Int} (h : -2147483648 ≤ n ∧ n ≤ 2147483647) : n.bmod (2 ^ 32) = n := by
  rw [Int.bmod_def]
  split <;> omega
theorem i_add {x y z : Int32} {a b : Int} (e : z = x + y) (hx : x.toInt = a) (hy : y.toInt = b) (h : -2147483648 ≤ a + b ∧ a + b ≤ 2147483647) : z.toInt = a + b := by
  rw [e, Int32.toInt_add, hx, hy]
  exact i_bm h
theorem i_sub {x y z : Int32} {a b : Int} (e : z = x - y) (hx : x.toInt = a) (hy : y.toInt = b) (h : -2147483648 ≤ a - b ∧ a - b ≤ 2147483647) : z.toInt = a - b := by
  rw [e, Int32.toInt_sub, hx, hy]
  exact i_bm h
theorem i_mul {x y z : Int32} {a b : Int} (e : z = x * y) (hx : x.toInt = a) (hy : y.toInt = b) (h : -2147483648 ≤ a * b ∧ a * b ≤ 2147483647) : z.toInt = a * b := by
  rw [e, Int32.toInt_mul, hx, hy]
  exact i_bm h
theorem b_lt {x y : Int32} {a b : Int} (hx : x.toInt = a) (hy : y.toInt = b) (h : x < y) : a < b := by rw [← hx, ← hy]; exact Int32.lt_iff_toInt_lt.mp h
theorem b_nlt {x y : Int32} {a b : Int} (hx : x.toInt = a) (hy : y.toInt = b) (h : ¬ x < y) : b ≤ a := by rw [← hx, ← hy]; exact Int.not_lt.mp (fun q => h (Int32.lt_iff_toInt_lt.mpr q))
theorem b_le {x y : Int32} {a b : Int} (hx : x.toInt = a) (hy : y.toInt = b) (h : x ≤ y) : a ≤ b := by rw [← hx, ← hy]; exact Int32.le_iff_toInt_le.mp h
theorem b_nle {x y : Int32} {a b : Int} (hx : x.toInt = a) (hy : y.toInt = b) (h : ¬ x ≤ y) : b < a := by rw [← hx, ← hy]; exact Int.not_le.mp (fun q => h (Int32.le_iff_toInt_le.mpr q))
theorem b_eq {x y : Int32} {a b : Int} (hx : x.toInt = a) (hy : y.toInt = b) (h : x = y) : a = b := by rw [← hx, ← hy, h]
theorem b_neq {x y : Int32} {a b : Int} (hx : x.toInt = a) (hy : y.toInt = b) (h : ¬ x = y) : a ≠ b := by rw [← hx, ← hy]; exact fun q => h (Int32.toInt_inj.mp q)
theorem i_in {x : Int32} {a : Int} {n : Nat} (hx : x.toInt = a) (h : 0 ≤ a ∧ a < n) : vp_in x n := vp_in_iff.mpr (by rw [hx]; exact h)
theorem i_clamp {x : Int32} {a : Int} (hx : x.toInt = a) (h : 0 ≤ a) : ((x.toNatClampNeg : Nat) : Int) = a := by
  rw [← hx]
  have h1 : x.toNatClampNeg = x.toInt.toNat := rfl
  rw [h1]
  omega
theorem nar_b (x : Int32) : 0 ≤ (vp_nar .boolean x).toInt ∧ (vp_nar .boolean x).toInt ≤ 1 := by
  have h : vp_nar .boolean x = x &&& 1 := rfl
  rw [h]
  have h2 : (x &&& 1).toInt = 0 ∨ (x &&& 1).toInt = 1 := by
    have h3 : (x &&& 1).toBitVec = x.toBitVec &&& 1#32 := rfl
    have h4 : x.toBitVec &&& 1#32 = 0#32 ∨ x.toBitVec &&& 1#32 = 1#32 := by
      have h5 : (x.toBitVec &&& 1#32).toNat = x.toBitVec.toNat % 2 := by
        rw [BitVec.toNat_and]
        exact Nat.and_one_is_mod _
      rcases Nat.mod_two_eq_zero_or_one x.toBitVec.toNat with h6 | h6
      · exact Or.inl (BitVec.eq_of_toNat_eq (by rw [h5, h6]; rfl))
      · exact Or.inr (BitVec.eq_of_toNat_eq (by rw [h5, h6]; rfl))
    rcases h4 with h4 | h4
    · left
      show ((x &&& 1).toBitVec).toInt = 0
      rw [h3, h4]; rfl
    · right
      show ((x &&& 1).toBitVec).toInt = 1
      rw [h3, h4]; rfl
  omega
theorem nb_ok {x : Int32} (h : 0 ≤ x.toInt ∧ x.toInt ≤ 1) : narrow .boolean (.int x) = .int x := by
  have h1 : x = 0 ∨ x = 1 := by
    rcases (show x.toInt = 0 ∨ x.toInt = 1 by omega) with h2 | h2
    · exact Or.inl (Int32.toInt_inj.mp h2)
    · exact Or.inr (Int32.toInt_inj.mp h2)
  rcases h1 with rfl | rfl <;> rfl
/-! calls over a whole world -/
section GA
variable {p : Program} {l : Launch} {e : Env} {R : Room} {s : State} {m : MethodId} {args : Array Value} {below : List Frame} {meth : Method} {c : Code} {H : Heap} {locs : List Loc} {cells slots : Nat} {Q : State → Prop}
variable {cc : ByteArray} {pc : Nat} {ls : Array Slot} {st0 rest : List Value} {D : va_G} {ks : KS} {A : Nat → Prop} {tys : List (ClassId × FieldType)} {ws : va_W}
theorem gA_free (hD : va_D A ws) (hS : va_S A s.heap H locs) (hA : ∀ q, s.heap.size ≤ q → A q) : ∀ q, va_A ws H.size q → A q := by
  intro q h
  rcases h with ⟨k, e, h⟩ | h
  · exact hD.2 k _ h
  · exact hA q (Nat.le_trans hS.1 h)
theorem gA_cut (hP : va_P D vwCl ws H) (hD : va_D A ws) (hK : va_K D vwCl tys s) (hS : va_S A s.heap H locs) (hA : ∀ q, s.heap.size ≤ q → A q) (hnw : nw s) (hgk : gk ks A s s.heap) {av : List Value} : ∀ U : State, U.heap = H → s.WarmedH U.vm → va_Pc av (gp D ks ws tys H.size) av.toArray U := by
  intro U hU hW
  refine ⟨rfl, by rw [hU], hnw.warm hW, ?_, by rw [hU]; exact hP, va_K.moved hW.alike hK, hD.weaken (fun _ _ _ _ => trivial)⟩
  rw [hU]
  exact ((hgk.kept hS.2.1).narrow (gA_free hD hS hA)).warm hW
theorem gA_runV {y : MethodName} {bytes : ByteArray} {maxL nL n index : Nat} {ret : Option FieldType} {rm : Room} {Qc : Array Value → State → Outcome → State → Prop} {own C : String} {b : Addr} {As : List Value} {Tf : u_T} {Nf ci q0 : Nat} {fs : List Value}
    (hx : p.tables.exec = Jvm.exec) (hb : c.code = cc) (hml : c.maxLocals = nL) (hown : s.vm.findClass own = some m.cls) (hg : ∀ w ∈ GW, w.before args s = true) (hP : va_P D vwCl ws H) (hD : va_D A ws) (hK : va_K D vwCl tys s) (hS : va_S A s.heap H locs) (hA : ∀ q, s.heap.size ≤ q → A q) (hnw : nw s) (hgk : gk ks A s s.heap)
    (hM : Met l y (Cond.code y bytes maxL ret :: GW) rm (va_Pc (.ref b :: As) (gp D ks ws tys H.size)) Qc rm.cells rm.slots (va_A ws H.size))
    (w1 : Cond.methodLink own index y ∈ GW) (w2 : Cond.instanceMethod y ∈ GW) (w3 : Cond.selects C y y ∈ GW) (w4 : Cond.initialized C ∈ GW) (w5 : Cond.code y bytes maxL ret ∈ GW) (hc : vwCl[ci]? = some (C, Tf, Nf)) (he : ws[q0]? = some (b, .inr (ci, fs)))
    (hd : y.cls = C ∧ y.cls ≠ "java/lang/invoke/MethodHandle" ∧ y.cls ≠ "java/lang/invoke/VarHandle" ∧ (parseMethodDescriptor y.desc).map (fun d => d.parameters.length) = some n) (hR : rm.frames + 1 ≤ R.frames ∧ 8 + (maxL + 11) + rm.locals ≤ R.locals)
    (hn2 : As.length = n) (hsize : ls.size = nL) (hst : st0 = As.reverse ++ .ref b :: rest) (hW : (rest.map fun v => v.category).sum ≤ 8) (hdg : decode cc pc = .ok (.invokevirtual index, 3)) (hf : cells + rm.cells ≤ R.cells ∧ slots + rm.slots ≤ R.slots) :
    va_Run p l e R s m args below meth c H locs cells slots rm.cells rm.slots (F0 m pc ls st0) rest (Qc (Value.ref b :: As).toArray) (va_A ws H.size) :=
  va_runV (As := As) (rest := rest) ⟨hx, hb, hml, hown, hg⟩ hM (cwV n hg (gw_good gw_self (gw_cons w1 (gw_cons w2 (gw_cons w3 (gw_cons w4 (gw_cons w5 gw_self)))))) rfl rfl rfl hd hR) ⟨gp_blind, va_recv hK hP hc he, gA_cut hP hD hK hS hA hnw hgk⟩ rfl hn2 hsize hst (lv_room hW) hdg hf
theorem gA_int {S : Type} {post : Int32 → S → Prop} {wq : S → va_W} {mc ms : Nat} {av : Array Value} (hr : va_Run p l e R s m args below meth c H locs cells slots mc ms (F0 m pc ls st0) rest (va_Qi post (fun u t => gq D (va_A ws H.size) (wq u) tys t) (va_A ws H.size) av) (va_A ws H.size))
    (hP : va_P D vwCl ws H) (hD : va_D A ws) (hK : va_K D vwCl tys s) (hS : va_S A s.heap H locs) (hA : ∀ q, s.heap.size ≤ q → A q)
    (kk : ∀ (r : Int32) (u : S) (H1 : Heap) (locs1 : List Loc), post r u → va_P D vwCl (wq u) H1 → va_D A (wq u) → va_K D vwCl tys s → va_S A s.heap H1 locs1 → W p l e R s m args below meth c H1 locs1 (cells + mc) (slots + ms) Q (F0 m (pc + 3) ls (.int r :: rest))) : W p l e R s m args below meth c H locs cells slots Q (F0 m pc ls st0) := by
  have hF := gA_free hD hS hA
  refine va_calli hr hS (fun q _ h => hF q h) hF (fun r u t H1 locs ht hvm hw hB hz1 hk1 hS => ?_)
  obtain ⟨hP1, hK1, hD1⟩ := hB
  rw [ht] at hP1
  exact kk r u H1 locs hw hP1 (hD1.weaken (fun _ _ _ h => hF _ h)) hK hS
theorem gA_void {S : Type} {post : S → Prop} {wq : S → va_W} {mc ms : Nat} {av : Array Value} (hr : va_Run p l e R s m args below meth c H locs cells slots mc ms (F0 m pc ls st0) rest (va_Qv post (fun u t => gq D (va_A ws H.size) (wq u) tys t) (va_A ws H.size) av) (va_A ws H.size))
    (hP : va_P D vwCl ws H) (hD : va_D A ws) (hK : va_K D vwCl tys s) (hS : va_S A s.heap H locs) (hA : ∀ q, s.heap.size ≤ q → A q)
    (kk : ∀ (u : S) (H1 : Heap) (locs1 : List Loc), post u → va_P D vwCl (wq u) H1 → va_D A (wq u) → va_K D vwCl tys s → va_S A s.heap H1 locs1 → W p l e R s m args below meth c H1 locs1 (cells + mc) (slots + ms) Q (F0 m (pc + 3) ls rest)) : W p l e R s m args below meth c H locs cells slots Q (F0 m pc ls st0) := by
  have hF := gA_free hD hS hA
  refine va_callv hr hS (fun q _ h => hF q h) hF (fun u t H1 locs ht hvm hw hB hz1 hk1 hS => ?_)
  obtain ⟨hP1, hK1, hD1⟩ := hB
  rw [ht] at hP1
  exact kk u H1 locs hw hP1 (hD1.weaken (fun _ _ _ h => hF _ h)) hK hS
theorem gA_long {S : Type} {post : Int64 → S → Prop} {wq : S → va_W} {mc ms : Nat} {av : Array Value} (hr : va_Run p l e R s m args below meth c H locs cells slots mc ms (F0 m pc ls st0) rest (va_Ql post (fun u t => gq D (va_A ws H.size) (wq u) tys t) (va_A ws H.size) av) (va_A ws H.size))
    (hP : va_P D vwCl ws H) (hD : va_D A ws) (hK : va_K D vwCl tys s) (hS : va_S A s.heap H locs) (hA : ∀ q, s.heap.size ≤ q → A q)
    (kk : ∀ (r : Int64) (u : S) (H1 : Heap) (locs1 : List Loc), post r u → va_P D vwCl (wq u) H1 → va_D A (wq u) → va_K D vwCl tys s → va_S A s.heap H1 locs1 → W p l e R s m args below meth c H1 locs1 (cells + mc) (slots + ms) Q (F0 m (pc + 3) ls (.long r :: rest))) : W p l e R s m args below meth c H locs cells slots Q (F0 m pc ls st0) := by
  have hF := gA_free hD hS hA
  refine va_calll hr hS (fun q _ h => hF q h) hF (fun r u t H1 locs ht hvm hw hB hz1 hk1 hS => ?_)
  obtain ⟨hP1, hK1, hD1⟩ := hB
  rw [ht] at hP1
  exact kk r u H1 locs hw hP1 (hD1.weaken (fun _ _ _ h => hF _ h)) hK hS
theorem gE_keep {H1 : Heap} (hP : va_P D vwCl ws H) (hk : ∀ q : Nat, q < H.size → ¬ va_A [] H.size q → H1[q]? = H[q]?) : va_P D vwCl ws H1 :=
  fun k q h => (hP k q h).kept (hk q.1 (hP k q h).lt (fun z => z.elim (fun ⟨_, _, w⟩ => by simp at w) (fun w => absurd (hP k q h).lt (Nat.not_lt.mpr w))))
theorem gE_int {S : Type} {post : Int32 → S → Prop} {mc ms : Nat} {av : Array Value} (hr : va_Run p l e R s m args below meth c H locs cells slots mc ms (F0 m pc ls st0) rest (va_Qi post (fun _ t => gq D (va_A [] H.size) [] [] t) (va_A [] H.size) av) (va_A [] H.size))
    (hP : va_P D vwCl ws H) (hD : va_D A ws) (hK : va_K D vwCl tys s) (hS : va_S A s.heap H locs) (hA : ∀ q, s.heap.size ≤ q → A q)
    (kk : ∀ (r : Int32) (u : S) (H1 : Heap) (locs1 : List Loc), post r u → va_P D vwCl ws H1 → va_D A ws → va_K D vwCl tys s → va_S A s.heap H1 locs1 → W p l e R s m args below meth c H1 locs1 (cells + mc) (slots + ms) Q (F0 m (pc + 3) ls (.int r :: rest))) : W p l e R s m args below meth c H locs cells slots Q (F0 m pc ls st0) := by
  have hF : ∀ q, va_A [] H.size q → A q := fun q z => z.elim (fun ⟨_, _, w⟩ => by simp at w) (fun w => hA q (Nat.le_trans hS.1 w))
  refine va_calli hr hS (fun q _ h => hF q h) hF (fun r u t H1 locs ht hvm hw hB hz1 hk1 hS => ?_)
  exact kk r u H1 locs hw (gE_keep hP hk1) hD hK hS
end GA
theorem and_m {x y z : Int32} {n : Nat} (e : z = x &&& y) (h : y.toBitVec.toNat = n ∧ n < 2 ^ 31) : 0 ≤ z.toInt ∧ z.toInt ≤ n := by
  have h1 : z.toBitVec.toNat ≤ n := by
    rw [e]
    show (x.toBitVec &&& y.toBitVec).toNat ≤ n
    rw [BitVec.toNat_and, h.1]
    exact Nat.and_le_right
  have h2 : z.toInt = z.toBitVec.toInt := rfl
  have h3 : z.toBitVec.toInt = (z.toBitVec.toNat : Int) := BitVec.toInt_eq_toNat_of_lt (by omega)
  omega
/-- 'if .. then ..', closed to omega -/
def Imp (P Q : Prop) : Prop := P → Q
theorem Imp.mk {P Q : Prop} (h : P → Q) : Imp P Q := h
theorem Imp.go {P Q : Prop} (h : Imp P Q) (p : P) : Q := h p
theorem tok_ne {V : Vf} {x : Int32} {n : Nat} (hx : (V 4 n).toInt = 0) (h0 : 0 ≤ x.toInt) : Imp ((V 4 (Int32.toNatClampNeg x)).toInt ≠ 0) (x.toInt ≠ (n : Int)) := fun h e => h (by
  have h1 := i_clamp (x := x) rfl h0
  have h2 : x.toNatClampNeg = n := by omega
  rw [h2]
  exact hx)
theorem lcmp_f {x y : Int64} {z : Int32} (e : z = lg_cmp x y) : (z.toInt = -1 ∧ x.toInt < y.toInt) ∨ (z.toInt = 0 ∧ x.toInt = y.toInt) ∨ (z.toInt = 1 ∧ y.toInt < x.toInt) := by
  rw [e]
  unfold lg_cmp
  split
  · right; right
    rename_i h
    exact ⟨rfl, Int64.lt_iff_toInt_lt.mp h⟩
  · rename_i h1
    split
    · right; left
      rename_i h
      exact ⟨rfl, by rw [h]⟩
    · left
      rename_i h2
      refine ⟨rfl, ?_⟩
      have h3 : ¬ y.toInt < x.toInt := fun q => h1 (Int64.lt_iff_toInt_lt.mpr q)
      have h4 : ¬ x.toInt = y.toInt := fun q => h2 (Int64.toInt_inj.mp q)
      omega
theorem i2l_f {x : Int32} {w : Int64} {a : Int} (e : w = x.toInt64) (hx : x.toInt = a) : w.toInt = a := by
  rw [e, Int32.toInt_toInt64, hx]
theorem l2i_f {w : Int64} {z : Int32} (e : z = w.toInt32) : Imp (-2147483648 ≤ w.toInt ∧ w.toInt ≤ 2147483647) (z.toInt = w.toInt) := fun h => by
  rw [e, Int64.toInt_toInt32]
  exact i_bm h
theorem lcmp_r {x y : Int64} {z : Int32} (e : z = lg_cmp x y) : -1 ≤ z.toInt ∧ z.toInt ≤ 1 := by
  have h := lcmp_f e
  omega
/-! the reference: its one object, its arrays -/
def mfl (ad : Nat → Nat) (k1 : Nat) (V : Vf) : List Value := .int (V 0 0) :: .ref (ad 1) :: .int (V 0 2) :: .int (V 0 3) :: .ref (ad 4) :: .ref (ad 5) :: .ref (ad 6) :: .int (V 0 7) :: .int (V 0 8) :: .ref k1 :: .ref (ad 10) :: .int (V 0 11) :: .int (V 0 12) :: .ref (ad 13) :: .ref (ad 14) :: .ref (ad 15) :: .ref (ad 16) :: .ref (ad 17) :: .ref (ad 18) :: .ref (ad 19) :: .ref (ad 20) :: .ref (ad 21) :: .ref (ad 22) :: .ref (ad 23) :: .ref (ad 24) :: .ref (ad 25) :: .ref (ad 26) :: .ref (ad 27) :: .ref (ad 28) :: .ref (ad 29) :: .ref (ad 30) :: .ref (ad 31) :: .ref (ad 32) :: .ref (ad 33) :: .ref (ad 34) :: .ref (ad 35) :: .ref (ad 36) :: .ref (ad 37) :: .ref (ad 38) :: .ref (ad 39) :: .ref (ad 40) :: .ref (ad 41) :: .ref (ad 42) :: .ref (ad 43) :: .ref (ad 44) :: .ref (ad 45) :: .ref (ad 46) :: .ref (ad 47) :: .int (V 0 48) :: .int (V 0 49) :: .int (V 0 50) :: .int (V 0 51) :: .int (V 0 52) :: .ref (ad 53) :: .int (V 0 54) :: .int (V 0 55) :: .ref (ad 56) :: .ref (ad 57) :: .ref (ad 58) :: .ref (ad 59) :: .int (V 0 60) :: .ref (ad 61) :: .ref (ad 62) :: .ref (ad 63) :: .ref (ad 64) :: .int (V 0 65) :: .ref (ad 66) :: .ref (ad 67) :: .int (V 0 68) :: .int (V 0 69) :: .int (V 0 70) :: .int (V 0 71) :: .int (V 0 72) :: .int (V 0 73) :: .ref (ad 74) :: .ref (ad 75) :: .int (V 0 76) :: .ref (ad 77) :: .ref (ad 78) :: .ref (ad 79) :: .ref (ad 80) :: .int (V 0 81) :: .ref (ad 82) :: .ref (ad 83) :: .ref (ad 84) :: .ref (ad 85) :: .ref (ad 86) :: .ref (ad 87) :: .ref (ad 88) :: .int (V 0 89) :: .int (V 0 90) :: .int (V 0 91) :: .int (V 0 92) :: .int (V 0 93) :: .ref (ad 94) :: .int (V 0 95) :: .int (V 0 96) :: .ref (ad 97) :: .int (V 0 98) :: .int (V 0 99) :: []
def mw (ad : Nat → Nat) (kk : Nat → ClassId) (k1 : Nat) (V : Vf) (L : Lf) : va_W := (ad 0, .inr (12, mfl ad k1 V)) :: (ad 1, .inl (kk 1, 4000, .inl (V 1))) :: (ad 4, .inl (kk 4, 4002, .inl (V 4))) :: (ad 5, .inl (kk 5, 4002, .inl (V 5))) :: (ad 6, .inl (kk 6, 4002, .inr (.inl (L 6)))) :: (ad 10, .inl (kk 10, 30, .inr (.inl (L 10)))) :: (ad 13, .inl (kk 13, 2, .inl (V 13))) :: (ad 14, .inl (kk 14, 48, .inr (.inl (L 14)))) :: (ad 15, .inl (kk 15, 1152, .inl (V 15))) :: (ad 16, .inl (kk 16, 2, .inl (V 16))) :: (ad 17, .inl (kk 17, 24, .inr (.inl (L 17)))) :: (ad 18, .inl (kk 18, 24, .inl (V 18))) :: (ad 19, .inl (kk 19, 2, .inl (V 19))) :: (ad 20, .inl (kk 20, 48, .inr (.inl (L 20)))) :: (ad 21, .inl (kk 21, 1152, .inl (V 21))) :: (ad 22, .inl (kk 22, 48, .inl (V 22))) :: (ad 23, .inl (kk 23, 48, .inl (V 23))) :: (ad 24, .inl (kk 24, 48, .inl (V 24))) :: (ad 25, .inl (kk 25, 48, .inl (V 25))) :: (ad 26, .inl (kk 26, 48, .inl (V 26))) :: (ad 27, .inl (kk 27, 48, .inl (V 27))) :: (ad 28, .inl (kk 28, 384, .inl (V 28))) :: (ad 29, .inl (kk 29, 384, .inl (V 29))) :: (ad 30, .inl (kk 30, 384, .inl (V 30))) :: (ad 31, .inl (kk 31, 384, .inl (V 31))) :: (ad 32, .inl (kk 32, 48, .inl (V 32))) :: (ad 33, .inl (kk 33, 48, .inl (V 33))) :: (ad 34, .inl (kk 34, 960, .inl (V 34))) :: (ad 35, .inl (kk 35, 2, .inl (V 35))) :: (ad 36, .inl (kk 36, 40, .inr (.inl (L 36)))) :: (ad 37, .inl (kk 37, 2, .inl (V 37))) :: (ad 38, .inl (kk 38, 40, .inr (.inl (L 38)))) :: (ad 39, .inl (kk 39, 2, .inl (V 39))) :: (ad 40, .inl (kk 40, 24, .inl (V 40))) :: (ad 41, .inl (kk 41, 24, .inl (V 41))) :: (ad 42, .inl (kk 42, 24, .inl (V 42))) :: (ad 43, .inl (kk 43, 24, .inl (V 43))) :: (ad 44, .inl (kk 44, 24, .inl (V 44))) :: (ad 45, .inl (kk 45, 20000, .inl (V 45))) :: (ad 46, .inl (kk 46, 20000, .inl (V 46))) :: (ad 47, .inl (kk 47, 20000, .inl (V 47))) :: (ad 53, .inl (kk 53, 6, .inl (V 53))) :: (ad 56, .inl (kk 56, 40, .inl (V 56))) :: (ad 57, .inl (kk 57, 40, .inl (V 57))) :: (ad 58, .inl (kk 58, 40, .inl (V 58))) :: (ad 59, .inl (kk 59, 960, .inl (V 59))) :: (ad 61, .inl (kk 61, 300, .inl (V 61))) :: (ad 62, .inl (kk 62, 300, .inl (V 62))) :: (ad 63, .inl (kk 63, 300, .inl (V 63))) :: (ad 64, .inl (kk 64, 300, .inl (V 64))) :: (ad 66, .inl (kk 66, 2400, .inl (V 66))) :: (ad 67, .inl (kk 67, 57600, .inl (V 67))) :: (ad 74, .inl (kk 74, 300, .inl (V 74))) :: (ad 75, .inl (kk 75, 300, .inl (V 75))) :: (ad 77, .inl (kk 77, 100, .inl (V 77))) :: (ad 78, .inl (kk 78, 100, .inl (V 78))) :: (ad 79, .inl (kk 79, 100, .inl (V 79))) :: (ad 80, .inl (kk 80, 24, .inl (V 80))) :: (ad 82, .inl (kk 82, 100, .inl (V 82))) :: (ad 83, .inl (kk 83, 100, .inl (V 83))) :: (ad 84, .inl (kk 84, 100, .inl (V 84))) :: (ad 85, .inl (kk 85, 2400, .inl (V 85))) :: (ad 86, .inl (kk 86, 192, .inl (V 86))) :: (ad 87, .inl (kk 87, 24, .inl (V 87))) :: (ad 88, .inl (kk 88, 24, .inl (V 88))) :: (ad 94, .inl (kk 94, 300, .inl (V 94))) :: (ad 97, .inl (kk 97, 20000, .inl (V 97))) :: []
def mty (kk : Nat → ClassId) : List (ClassId × FieldType) := (kk 1, .int) :: (kk 4, .int) :: (kk 5, .int) :: (kk 6, .long) :: (kk 10, .long) :: (kk 13, .int) :: (kk 14, .long) :: (kk 15, .boolean) :: (kk 16, .int) :: (kk 17, .long) :: (kk 18, .int) :: (kk 19, .int) :: (kk 20, .long) :: (kk 21, .boolean) :: (kk 22, .int) :: (kk 23, .int) :: (kk 24, .int) :: (kk 25, .int) :: (kk 26, .int) :: (kk 27, .int) :: (kk 28, .int) :: (kk 29, .boolean) :: (kk 30, .boolean) :: (kk 31, .int) :: (kk 32, .int) :: (kk 33, .int) :: (kk 34, .int) :: (kk 35, .int) :: (kk 36, .long) :: (kk 37, .int) :: (kk 38, .long) :: (kk 39, .int) :: (kk 40, .int) :: (kk 41, .int) :: (kk 42, .int) :: (kk 43, .int) :: (kk 44, .int) :: (kk 45, .int) :: (kk 46, .int) :: (kk 47, .int) :: (kk 53, .int) :: (kk 56, .boolean) :: (kk 57, .int) :: (kk 58, .int) :: (kk 59, .boolean) :: (kk 61, .int) :: (kk 62, .int) :: (kk 63, .int) :: (kk 64, .int) :: (kk 66, .int) :: (kk 67, .int) :: (kk 74, .int) :: (kk 75, .int) :: (kk 77, .int) :: (kk 78, .int) :: (kk 79, .int) :: (kk 80, .int) :: (kk 82, .int) :: (kk 83, .int) :: (kk 84, .int) :: (kk 85, .int) :: (kk 86, .boolean) :: (kk 87, .int) :: (kk 88, .int) :: (kk 94, .int) :: (kk 97, .int) :: []
def bMf (k : Nat) : Int × Int := match k with
  | 2 => (0, 4000)
  | 3 => (0, 4000)
  | 8 => (0, 70000)
  | 11 => (0, 1)
  | 12 => (0, 1)
  | 48 => (0, 10000)
  | 49 => (0, 10000)
  | 50 => (0, 9)
  | 51 => ((-1), 47)
  | 52 => (0, 1)
  | 54 => (0, 1)
  | 55 => (1, 40)
  | 60 => (0, 300)
  | 65 => (0, 1000000)
  | 68 => (0, 60000)
  | 69 => (0, 3000)
  | 73 => (0, 1000000)
  | 76 => (0, 2000000000)
  | 81 => (0, 1000000)
  | 89 => (0, 24)
  | 93 => (0, 10)
  | 95 => (0, 300)
  | 98 => (0, 20000)
  | 99 => (0, 1)
  | _ => (-2147483648, 2147483647)
def bM (c k : Nat) : Int × Int := match c with
  | 0 => bMf k
  | 5 => (0, 4000)
  | 13 => (0, 24)
  | 15 => (0, 1)
  | 16 => (0, 12)
  | 19 => (0, 24)
  | 21 => (0, 1)
  | 24 => (0, 9)
  | 25 => ((-1), 11)
  | 27 => (0, 8)
  | 28 => ((-1), 23)
  | 29 => (0, 1)
  | 30 => (0, 1)
  | 35 => (0, 20)
  | 37 => (0, 20)
  | 39 => (0, 12)
  | 40 => ((-1), 23)
  | 42 => (0, 99)
  | 43 => (0, 3)
  | 53 => ((-1), 23)
  | 56 => (0, 1)
  | 58 => ((-1), 39)
  | 59 => (0, 1)
  | 61 => (0, 23)
  | 62 => (0, 39)
  | 63 => (0, 2)
  | 66 => (0, 24)
  | 67 => (0, 299)
  | 80 => (0, 23)
  | 84 => ((-1), 24)
  | 86 => (0, 1)
  | 87 => (0, 2)
  | 88 => (0, 23)
  | 94 => (0, 299)
  | _ => (-2147483648, 2147483647)
