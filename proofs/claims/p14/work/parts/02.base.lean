/-! ONE list of words for all contracts: the good words of the tables; and the words of nest mates, taken along in every contract's start. -/
def GW : List Cond := lw_tbl.filter goodWord
theorem gw_mem {w : Cond} (i : Nat) (h : lw_tbl[i]? = some w) (hg : goodWord w = true) : w ∈ GW := List.mem_filter.mpr ⟨List.mem_of_getElem? h, hg⟩
theorem gw_k {w : Cond} {t : List Cond} (ht : ∀ w ∈ t, w ∈ lw_tbl) (i : Nat) (h : t[i]? = some w) (hg : goodWord w = true) : w ∈ GW := List.mem_filter.mpr ⟨ht w (List.mem_of_getElem? h), hg⟩
theorem tk9_1 : ∀ w ∈ tables_1_1, w ∈ lw_tbl := fun w h => List.mem_append_right _ (List.mem_append_left _ (h))
theorem tk9_2 : ∀ w ∈ tables_1_2, w ∈ lw_tbl := fun w h => List.mem_append_right _ (List.mem_append_right _ (List.mem_append_left _ (h)))
theorem tk9_3 : ∀ w ∈ tables_1_3, w ∈ lw_tbl := fun w h => List.mem_append_right _ (List.mem_append_right _ (List.mem_append_right _ (List.mem_append_left _ (h))))
theorem tk9_4 : ∀ w ∈ tables_1_4, w ∈ lw_tbl := fun w h => List.mem_append_right _ (List.mem_append_right _ (List.mem_append_right _ (List.mem_append_right _ (List.mem_append_left _ (h)))))
theorem tk9_5 : ∀ w ∈ tables_1_5, w ∈ lw_tbl := fun w h => List.mem_append_right _ (List.mem_append_right _ (List.mem_append_right _ (List.mem_append_right _ (List.mem_append_right _ (List.mem_append_left _ (h))))))
theorem tk9_6 : ∀ w ∈ tables_1_6, w ∈ lw_tbl := fun w h => List.mem_append_right _ (List.mem_append_right _ (List.mem_append_right _ (List.mem_append_right _ (List.mem_append_right _ (List.mem_append_right _ (List.mem_append_left _ (h)))))))
theorem tk9_7 : ∀ w ∈ tables_1_7, w ∈ lw_tbl := fun w h => List.mem_append_right _ (List.mem_append_right _ (List.mem_append_right _ (List.mem_append_right _ (List.mem_append_right _ (List.mem_append_right _ (List.mem_append_right _ (List.mem_append_left _ (h))))))))
theorem tk9_8 : ∀ w ∈ tables_1_8, w ∈ lw_tbl := fun w h => List.mem_append_right _ (List.mem_append_right _ (List.mem_append_right _ (List.mem_append_right _ (List.mem_append_right _ (List.mem_append_right _ (List.mem_append_right _ (List.mem_append_right _ (List.mem_append_left _ (h)))))))))
theorem tk9_9 : ∀ w ∈ tables_1_9, w ∈ lw_tbl := fun w h => List.mem_append_right _ (List.mem_append_right _ (List.mem_append_right _ (List.mem_append_right _ (List.mem_append_right _ (List.mem_append_right _ (List.mem_append_right _ (List.mem_append_right _ (List.mem_append_right _ (List.mem_append_left _ (h))))))))))
theorem tk9_10 : ∀ w ∈ tables_1_10, w ∈ lw_tbl := fun w h => List.mem_append_right _ (List.mem_append_right _ (List.mem_append_right _ (List.mem_append_right _ (List.mem_append_right _ (List.mem_append_right _ (List.mem_append_right _ (List.mem_append_right _ (List.mem_append_right _ (List.mem_append_right _ (h))))))))))
theorem lz9 : (k2_sels lw_privs).length = 155 := by decide +kernel
theorem la9 {a b : List Cond} {n i : Nat} {w : Cond} (hn : a.length = n) (h : b[i]? = some w) : (a ++ b)[n + i]? = some w := by
  subst hn; rw [List.getElem?_append_right (Nat.le_add_right _ _), Nat.add_sub_cancel_left]; exact h
theorem lb9 {a b : List Cond} {i : Nat} {w : Cond} (h : a[i]? = some w) : (a ++ b)[i]? = some w := by
  have hi := (List.getElem?_eq_some_iff.mp h).1; rw [List.getElem?_append_left hi]; exact h
theorem ln9_1 : tables_1_1.length = 240 := by decide +kernel
theorem ln9_2 : tables_1_2.length = 240 := by decide +kernel
theorem ln9_3 : tables_1_3.length = 240 := by decide +kernel
theorem ln9_4 : tables_1_4.length = 240 := by decide +kernel
theorem ln9_5 : tables_1_5.length = 240 := by decide +kernel
theorem ln9_6 : tables_1_6.length = 240 := by decide +kernel
theorem ln9_7 : tables_1_7.length = 240 := by decide +kernel
theorem ln9_8 : tables_1_8.length = 240 := by decide +kernel
theorem ln9_9 : tables_1_9.length = 240 := by decide +kernel
theorem gw_tbl {w : Cond} (h : w ∈ GW) : w ∈ lw_tbl := (List.mem_filter.mp h).1
theorem gw_sub {ws : List Cond} (ps : List Nat) (hp : ws = ps.filterMap (fun i => lw_tbl[i]?)) (hg : ws.all goodWord = true) : ∀ w ∈ ws, w ∈ GW := by
  intro w hw
  refine List.mem_filter.mpr ⟨?_, List.all_eq_true.mp hg w hw⟩
  rw [hp] at hw
  obtain ⟨i, -, hi⟩ := List.mem_filterMap.mp hw
  exact List.mem_of_getElem? hi
theorem gw_good {big : List Cond} (hb : ∀ w ∈ GW, w ∈ big) {ws : List Cond} (h : ∀ w ∈ ws, w ∈ GW) : GoodIn big ws := fun w hw => ⟨hb w (h w hw), good_of_word (List.mem_filter.mp (h w hw)).2⟩
theorem gw_cons {w : Cond} {ws : List Cond} (h : w ∈ GW) (t : ∀ w ∈ ws, w ∈ GW) : ∀ v ∈ w :: ws, v ∈ GW := fun v hv => (List.mem_cons.mp hv).elim (fun e => by rw [e]; exact h) (t v)
theorem gw_self : ∀ w ∈ GW, w ∈ GW := fun _ h => h
theorem gw_own {w : Cond} : ∀ v ∈ GW, v ∈ w :: GW := fun _ h => List.mem_cons_of_mem _ h
def gnest : Cond → Bool
  | .fieldLinkNest _ _ _ _ _ _ => true
  | .methodLinkNest _ _ _ _ => true
  | _ => false
/-- the nest mates' words -/
def nw (U : State) : Prop := ∀ w ∈ lw_tbl, gnest w = true → va_Nw w U
theorem nw.same {u U : State} (h : u.vm = U.vm) (hn : nw u) : nw U := by
  intro w hw hg
  have h1 := hn w hw hg
  cases w <;> first | exact va_Nw.same rfl h h1 | cases hg
theorem nw.warm {s U : State} (hW : s.WarmedH U.vm) (hn : nw s) : nw U := by
  intro w hw hg
  have h1 := hn w hw hg
  cases w <;> first | exact va_Nw.warmF hW h1 | exact va_Nw.warmM hW h1 | cases hg
theorem nw.of {A : Array Value} {U : State} (h : ∀ w ∈ lw_tbl, w.before A U = true) : nw U := by
  intro w hw hg
  have h1 := h w hw
  cases w <;> first | exact va_Nw.of rfl h1 | cases hg
theorem nw.use {A : Array Value} {U : State} {w : Cond} (h : nw U) (i : Nat) (hi : lw_tbl[i]? = some w) (hg : gnest w = true) : w.before A U = true := by
  have h1 := h w (List.mem_of_getElem? hi) hg
  cases w <;> first | exact va_Nw.use rfl h1 | cases hg
/-- the text of the keywords, a String constant of two classes -/
def kw_byt : List Int32 := [116, 121, 112, 101, 32, 108, 105, 107, 101, 32, 115, 101, 116, 116, 105, 110, 103, 32, 99, 111, 109, 112, 111, 110, 101, 110, 116, 32, 105, 115, 32, 99, 97, 108, 108, 101, 100, 32, 114, 97, 110, 107, 32, 119, 104, 101, 110, 32, 119, 114, 97, 112, 32, 110, 101, 101, 100, 32, 108, 97, 116, 101, 32, 97, 108, 108, 32, 111, 112, 101, 110, 101, 100, 32, 99, 108, 111, 115, 101, 100, 32, 109, 101, 116, 104, 111, 100, 32, 97, 114, 103, 32, 102, 97, 105, 108, 32, 112, 105, 99, 107, 32, 111, 102, 32, 103, 111, 32, 104, 111, 117, 115, 101, 32, 100, 97, 121, 32, 109, 101, 97, 108, 32, 110, 101, 119, 32, 98, 101, 102, 111, 114, 101, 32, 97, 114, 111, 117, 110, 100, 32, 97, 102, 116, 101, 114, 32, 102, 97, 105, 108, 105, 110, 103, 32]
def kw_txt : String := "type like setting component is called rank when wrap need late all opened closed method arg fail pick of go house day meal new before around after failing "
/-- the signs, another one -/
def sg_byt : List Int32 := [123, 125, 40, 41, 44, 59, 61, 60, 43, 45, 42, 46]
def sg_txt : String := "{}(),;=<+-*."
/-- the places of the constants: a text, its bytes, a static, the signs, their bytes -/
abbrev KS : Type := Nat × Nat × Option Nat × Nat × Nat
/-- what is known of constants: the text at ks.1, its bytes at ks.2.1; that Strings are compact; a static of the JDK's that is null or not; the classes of arrays -/
def gk (ks : KS) (A : Nat → Prop) (U : State) (H : Heap) : Prop := (vk_S 1 [155] [kw_byt] (fun _ => ks.1) (fun _ => ks.2.1) A U H ∧ vk_R "WiringHouse$Tape" 29 kw_txt ks.1 U ∧ vk_R "WiringHouseModel" 34 kw_txt ks.1 U) ∧ (va_Z "java/lang/String" "COMPACT_STRINGS" "Z" (.int 1) A U H ∧ va_Z "jdk/internal/util/Preconditions" "SIOOBE_FORMATTER" "Ljava/util/function/BiFunction;" (va_rf ks.2.2.1) A U H) ∧ va_AO RX3 U ∧ va_AO RX10 U ∧ va_AO RX4 U ∧ vk_S 1 [12] [sg_byt] (fun _ => ks.2.2.2.1) (fun _ => ks.2.2.2.2) A U H ∧ vk_R "WiringHouse$Tape" 88 sg_txt ks.2.2.2.1 U
theorem gk.warm {ks : KS} {A : Nat → Prop} {s U : State} {H : Heap} (hW : s.WarmedH U.vm) (h : gk ks A s H) : gk ks A U H := by
  obtain ⟨⟨h1, h2, h3⟩, ⟨h4, h8⟩, h5, h6, h7, h9, h10⟩ := h
  exact ⟨⟨h1.moved hW.alike, h2.warm hW, h3.warm hW⟩, ⟨h4.moved hW.alike, h8.moved hW.alike⟩, h5.moved hW.alike, h6.moved hW.alike, h7.moved hW.alike, h9.moved hW.alike, h10.warm hW⟩
theorem gk.same {ks : KS} {A : Nat → Prop} {s U : State} {H : Heap} (h0 : U.vm = s.vm) (h : gk ks A s H) : gk ks A U H := by
  obtain ⟨⟨h1, h2, h3⟩, ⟨h4, h8⟩, h5, h6, h7, h9, h10⟩ := h
  have hv : s.vm.Alike U.vm := by rw [h0]; exact Vm.Alike.refl s.vm
  exact ⟨⟨h1.moved hv, h2.same h0, h3.same h0⟩, ⟨h4.moved hv, h8.moved hv⟩, h5.moved hv, h6.moved hv, h7.moved hv, h9.moved hv, h10.same h0⟩
theorem gk.kept {ks : KS} {A : Nat → Prop} {U : State} {H H1 : Heap} (h : gk ks A U H) (hq : ∀ a : Nat, a < H.size → ¬ A a → H1[a]? = H[a]?) : gk ks A U H1 := by
  obtain ⟨⟨h1, h2, h3⟩, ⟨h4, h8⟩, h5, h6, h7, h9, h10⟩ := h
  exact ⟨⟨h1.kept hq, h2, h3⟩, ⟨h4.kept hq, h8.kept hq⟩, h5, h6, h7, h9.kept hq, h10⟩
theorem gk.narrow {ks : KS} {A B : Nat → Prop} {U : State} {H : Heap} (h : gk ks A U H) (hAB : ∀ q, B q → A q) : gk ks B U H := by
  obtain ⟨⟨h1, h2, h3⟩, ⟨h4, h8⟩, h5, h6, h7, h9, h10⟩ := h
  exact ⟨⟨h1.narrow hAB, h2, h3⟩, ⟨h4.narrow hAB, h8.narrow hAB⟩, h5, h6, h7, h9.narrow hAB, h10⟩
/-- a contract's start: the cells, apart; the nest's words; the constants -/
def gp (D : va_G) (ks : KS) (ws : va_W) (tys : List (ClassId × FieldType)) (sz : Nat) (U : State) : Prop := U.heap.size = sz ∧ nw U ∧ gk ks (va_A ws sz) U U.heap ∧ va_P D vwCl ws U.heap ∧ va_K D vwCl tys U ∧ va_D (fun _ => True) ws
/-- .. its end -/
def gq (D : va_G) (A : Nat → Prop) (ws : va_W) (tys : List (ClassId × FieldType)) (t : State) : Prop := va_P D vwCl ws t.heap ∧ va_K D vwCl tys t ∧ va_D A ws
theorem gp_blind {av : List Value} {D : va_G} {ks : KS} {ws : va_W} {tys : List (ClassId × FieldType)} {sz : Nat} : FrameBlind (va_Pc av (gp D ks ws tys sz)) := by
  intro a U g mk h
  obtain ⟨h0, h1, h2, h3, h4, h5, h6⟩ := h
  exact ⟨h0, h1, nw.same (u := U) (U := U.calling g mk a) rfl h2, gk.same (s := U) (U := U.calling g mk a) rfl h3, h4, va_K.moved (u := U) (U := U.calling g mk a) (Vm.Alike.refl U.vm) h5, h6⟩
section GB
variable {p : Program} {l : Launch} {e : Env} {R : Room} {s : State} {m : MethodId} {args : Array Value} {below : List Frame} {meth : Method} {c : Code} {H : Heap} {locs : List Loc} {cells slots : Nat} {Q : State → Prop}
variable {cc : ByteArray} {pc : Nat} {ls : Array Slot} {st0 rest : List Value} {D : va_G} {ks : KS} {A : Nat → Prop} {tys tc tr : List (ClassId × FieldType)} {ws wc wr : va_W}
/-- the cells of a callee, cut out of the caller's -/
theorem gp_cut (hP : va_P D vwCl ws H) (hD : va_D A ws) (hK : va_K D vwCl tys s) (hS : va_S A s.heap H locs) (hA : ∀ q, s.heap.size ≤ q → A q) (hnw : nw s) (hgk : gk ks A s s.heap) (isC isT : List Nat) (hn : va_nd isC = true) (hC : isC.map (fun i => ws[i]?) = wc.map some) (hT : isT.filterMap (fun i => tys[i]?) = tc) {av : List Value} : ∀ U : State, U.heap = H → s.WarmedH U.vm → va_Pc av (gp D ks wc tc H.size) av.toArray U := by
  intro U hU hW
  have hF := va_free (wc := wc) hD hS hA isC hC
  have hDc : va_D A wc := hD.sub isC hn hC
  have hPc : va_P D vwCl wc H := by
    intro k q hk
    have h1 : (isC.map (fun i => ws[i]?))[k]? = some (some q) := by rw [hC, List.getElem?_map, hk]; rfl
    rw [List.getElem?_map] at h1
    cases hi : isC[k]? with
    | none => rw [hi] at h1; cases h1
    | some i => rw [hi] at h1; exact hP i q (Option.some.inj h1)
  refine ⟨rfl, by rw [hU], hnw.warm hW, ?_, by rw [hU]; exact hPc, va_K.moved hW.alike (hK.sub isT hT), hDc.weaken (fun _ _ _ _ => trivial)⟩
  rw [hU]
  exact ((hgk.kept hS.2.1).narrow hF).warm hW
/-- behind a void call -/
theorem g_void {S : Type} {post : S → Prop} {wq : S → va_W} {tq : S → List (ClassId × FieldType)} {mc ms : Nat} {av : Array Value} (hr : va_Run p l e R s m args below meth c H locs cells slots mc ms (F0 m pc ls st0) rest (va_Qv post (fun u t => gq D (va_A wc H.size) (wq u) (tq u) t) (va_A wc H.size) av) (va_A wc H.size))
    (hP : va_P D vwCl ws H) (hD : va_D A ws) (hK : va_K D vwCl tys s) (hS : va_S A s.heap H locs) (hA : ∀ q, s.heap.size ≤ q → A q) (isC isR isU : List Nat) (hC : isC.map (fun i => ws[i]?) = wc.map some) (hR : isR.map (fun i => ws[i]?) = wr.map some) (hn : va_nd isR = true) (hdis : ∀ i ∈ isR, i ∉ isC) (hU : isU.filterMap (fun i => tys[i]?) = tr)
    (kk : ∀ (u : S) (H1 : Heap) (locs1 : List Loc), post u → va_P D vwCl (wr ++ wq u) H1 → va_D A (wr ++ wq u) → va_K D vwCl (tr ++ tq u) s → va_S A s.heap H1 locs1 → W p l e R s m args below meth c H1 locs1 (cells + mc) (slots + ms) Q (F0 m (pc + 3) ls rest)) : W p l e R s m args below meth c H locs cells slots Q (F0 m pc ls st0) := by
  have hF := va_free (wc := wc) hD hS hA isC hC
  refine va_callv hr hS (fun q _ h => hF q h) hF (fun u t H1 locs ht hvm hw hB hz1 hk1 hS => ?_)
  obtain ⟨hP1, hK1, hD1⟩ := hB
  rw [ht] at hP1
  obtain ⟨hP2, hD2⟩ := va_join hP hD isC isR hC hR hn hdis hk1 hF hP1 hD1
  exact kk u H1 locs hw hP2 hD2 ((hK.sub isU hU).app (va_K.moved hvm.symm hK1)) hS
/-- behind a call that answers an int -/
theorem g_int {S : Type} {post : Int32 → S → Prop} {wq : S → va_W} {tq : S → List (ClassId × FieldType)} {mc ms : Nat} {av : Array Value} (hr : va_Run p l e R s m args below meth c H locs cells slots mc ms (F0 m pc ls st0) rest (va_Qi post (fun u t => gq D (va_A wc H.size) (wq u) (tq u) t) (va_A wc H.size) av) (va_A wc H.size))
    (hP : va_P D vwCl ws H) (hD : va_D A ws) (hK : va_K D vwCl tys s) (hS : va_S A s.heap H locs) (hA : ∀ q, s.heap.size ≤ q → A q) (isC isR isU : List Nat) (hC : isC.map (fun i => ws[i]?) = wc.map some) (hR : isR.map (fun i => ws[i]?) = wr.map some) (hn : va_nd isR = true) (hdis : ∀ i ∈ isR, i ∉ isC) (hU : isU.filterMap (fun i => tys[i]?) = tr)
    (kk : ∀ (r : Int32) (u : S) (H1 : Heap) (locs1 : List Loc), post r u → va_P D vwCl (wr ++ wq u) H1 → va_D A (wr ++ wq u) → va_K D vwCl (tr ++ tq u) s → va_S A s.heap H1 locs1 → W p l e R s m args below meth c H1 locs1 (cells + mc) (slots + ms) Q (F0 m (pc + 3) ls (.int r :: rest))) : W p l e R s m args below meth c H locs cells slots Q (F0 m pc ls st0) := by
  have hF := va_free (wc := wc) hD hS hA isC hC
  refine va_calli hr hS (fun q _ h => hF q h) hF (fun r u t H1 locs ht hvm hw hB hz1 hk1 hS => ?_)
  obtain ⟨hP1, hK1, hD1⟩ := hB
  rw [ht] at hP1
  obtain ⟨hP2, hD2⟩ := va_join hP hD isC isR hC hR hn hdis hk1 hF hP1 hD1
  exact kk r u H1 locs hw hP2 hD2 ((hK.sub isU hU).app (va_K.moved hvm.symm hK1)) hS
/-- the run of a virtual call (its receiver is an object of the world) -/
theorem g_runV {y : MethodName} {bytes : ByteArray} {maxL nL n index : Nat} {ret : Option FieldType} {rm : Room} {Qc : Array Value → State → Outcome → State → Prop} {Ts : List Cond} {own C : String} {b : Addr} {As : List Value} {Tf : u_T} {Nf ci q0 : Nat} {fs : List Value}
    (hx : p.tables.exec = Jvm.exec) (hb : c.code = cc) (hml : c.maxLocals = nL) (hown : s.vm.findClass own = some m.cls) (hts : ∀ w ∈ Ts, w.before args s = true) (hgw : ∀ w ∈ GW, w ∈ Ts) (hP : va_P D vwCl ws H) (hD : va_D A ws) (hK : va_K D vwCl tys s) (hS : va_S A s.heap H locs) (hA : ∀ q, s.heap.size ≤ q → A q) (hnw : nw s) (hgk : gk ks A s s.heap)
    (isC isT : List Nat) (hn : va_nd isC = true) (hC : isC.map (fun i => ws[i]?) = wc.map some) (hT : isT.filterMap (fun i => tys[i]?) = tc)
    (hM : Met l y (Cond.code y bytes maxL ret :: GW) rm (va_Pc (.ref b :: As) (gp D ks wc tc H.size)) Qc rm.cells rm.slots (va_A wc H.size))
    (w1 : Cond.methodLink own index y ∈ GW) (w2 : Cond.instanceMethod y ∈ GW) (w3 : Cond.selects C y y ∈ GW) (w4 : Cond.initialized C ∈ GW) (w5 : Cond.code y bytes maxL ret ∈ GW) (hc : vwCl[ci]? = some (C, Tf, Nf)) (he : ws[q0]? = some (b, .inr (ci, fs)))
    (hd : y.cls = C ∧ y.cls ≠ "java/lang/invoke/MethodHandle" ∧ y.cls ≠ "java/lang/invoke/VarHandle" ∧ (parseMethodDescriptor y.desc).map (fun d => d.parameters.length) = some n) (hR : rm.frames + 1 ≤ R.frames ∧ 8 + (maxL + 11) + rm.locals ≤ R.locals)
    (hn2 : As.length = n) (hsize : ls.size = nL) (hst : st0 = As.reverse ++ .ref b :: rest) (hW : (rest.map fun v => v.category).sum ≤ 8) (hdg : decode cc pc = .ok (.invokevirtual index, 3)) (hf : cells + rm.cells ≤ R.cells ∧ slots + rm.slots ≤ R.slots) :
    va_Run p l e R s m args below meth c H locs cells slots rm.cells rm.slots (F0 m pc ls st0) rest (Qc (Value.ref b :: As).toArray) (va_A wc H.size) :=
  va_runV (As := As) (rest := rest) ⟨hx, hb, hml, hown, hts⟩ hM (cwV n hts (gw_good hgw (gw_cons w1 (gw_cons w2 (gw_cons w3 (gw_cons w4 (gw_cons w5 gw_self)))))) rfl rfl rfl hd hR) ⟨gp_blind, va_recv hK hP hc he, gp_cut hP hD hK hS hA hnw hgk isC isT hn hC hT⟩ rfl hn2 hsize hst (lv_room hW) hdg hf
/-- the run of a virtual call, its receiver by its class -/
theorem g_runW {y : MethodName} {bytes : ByteArray} {maxL nL n index : Nat} {ret : Option FieldType} {rm : Room} {Qc : Array Value → State → Outcome → State → Prop} {Ts : List Cond} {own C : String} {b : Addr} {As : List Value}
    (hx : p.tables.exec = Jvm.exec) (hb : c.code = cc) (hml : c.maxLocals = nL) (hown : s.vm.findClass own = some m.cls) (hts : ∀ w ∈ Ts, w.before args s = true) (hgw : ∀ w ∈ GW, w ∈ Ts) (hP : va_P D vwCl ws H) (hD : va_D A ws) (hK : va_K D vwCl tys s) (hS : va_S A s.heap H locs) (hA : ∀ q, s.heap.size ≤ q → A q) (hnw : nw s) (hgk : gk ks A s s.heap)
    (isC isT : List Nat) (hn : va_nd isC = true) (hC : isC.map (fun i => ws[i]?) = wc.map some) (hT : isT.filterMap (fun i => tys[i]?) = tc)
    (hM : Met l y (Cond.code y bytes maxL ret :: GW) rm (va_Pc (.ref b :: As) (gp D ks wc tc H.size)) Qc rm.cells rm.slots (va_A wc H.size))
    (w1 : Cond.methodLink own index y ∈ GW) (w2 : Cond.instanceMethod y ∈ GW) (w3 : Cond.selects C y y ∈ GW) (w4 : Cond.initialized C ∈ GW) (w5 : Cond.code y bytes maxL ret ∈ GW) (hrecv : ∃ cell : Cell, H[b]? = some cell ∧ cell.vm.isStatics = false ∧ s.vm.findClass C = some cell.cls)
    (hd : y.cls = C ∧ y.cls ≠ "java/lang/invoke/MethodHandle" ∧ y.cls ≠ "java/lang/invoke/VarHandle" ∧ (parseMethodDescriptor y.desc).map (fun d => d.parameters.length) = some n) (hR : rm.frames + 1 ≤ R.frames ∧ 8 + (maxL + 11) + rm.locals ≤ R.locals)
    (hn2 : As.length = n) (hsize : ls.size = nL) (hst : st0 = As.reverse ++ .ref b :: rest) (hW : (rest.map fun v => v.category).sum ≤ 8) (hdg : decode cc pc = .ok (.invokevirtual index, 3)) (hf : cells + rm.cells ≤ R.cells ∧ slots + rm.slots ≤ R.slots) :
    va_Run p l e R s m args below meth c H locs cells slots rm.cells rm.slots (F0 m pc ls st0) rest (Qc (Value.ref b :: As).toArray) (va_A wc H.size) :=
  va_runV (As := As) (rest := rest) ⟨hx, hb, hml, hown, hts⟩ hM (cwV n hts (gw_good hgw (gw_cons w1 (gw_cons w2 (gw_cons w3 (gw_cons w4 (gw_cons w5 gw_self)))))) rfl rfl rfl hd hR) ⟨gp_blind, hrecv, gp_cut hP hD hK hS hA hnw hgk isC isT hn hC hT⟩ rfl hn2 hsize hst (lv_room hW) hdg hf
/-- the run of a constructor -/
theorem g_runI {y : MethodName} {bytes : ByteArray} {maxL nL n index : Nat} {rm : Room} {Qc : Array Value → State → Outcome → State → Prop} {Ts : List Cond} {own : String} {b : Addr} {As : List Value}
    (hx : p.tables.exec = Jvm.exec) (hb : c.code = cc) (hml : c.maxLocals = nL) (hown : s.vm.findClass own = some m.cls) (hts : ∀ w ∈ Ts, w.before args s = true) (hgw : ∀ w ∈ GW, w ∈ Ts) (hP : va_P D vwCl ws H) (hD : va_D A ws) (hK : va_K D vwCl tys s) (hS : va_S A s.heap H locs) (hA : ∀ q, s.heap.size ≤ q → A q) (hnw : nw s) (hgk : gk ks A s s.heap)
    (isC isT : List Nat) (hn : va_nd isC = true) (hC : isC.map (fun i => ws[i]?) = wc.map some) (hT : isT.filterMap (fun i => tys[i]?) = tc)
    (hM : Met l y (Cond.code y bytes maxL none :: GW) rm (va_Pc (.ref b :: As) (gp D ks wc tc H.size)) Qc rm.cells rm.slots (va_A wc H.size))
    (w1 : Cond.methodLink own index y ∈ GW) (w2 : Cond.instanceMethod y ∈ GW) (w4 : Cond.initialized y.cls ∈ GW) (w5 : Cond.code y bytes maxL none ∈ GW) (hy1 : y.name = "<init>")
    (hd : y.cls ≠ "java/lang/invoke/MethodHandle" ∧ y.cls ≠ "java/lang/invoke/VarHandle" ∧ (parseMethodDescriptor y.desc).map (fun d => d.parameters.length) = some n) (hR : rm.frames + 1 ≤ R.frames ∧ 8 + (maxL + 11) + rm.locals ≤ R.locals)
    (hn2 : As.length = n) (hsize : ls.size = nL) (hst : st0 = As.reverse ++ .ref b :: rest) (hW : (rest.map fun v => v.category).sum ≤ 8) (hdg : decode cc pc = .ok (.invokespecial index, 3)) (hf : cells + rm.cells ≤ R.cells ∧ slots + rm.slots ≤ R.slots) :
    va_Run p l e R s m args below meth c H locs cells slots rm.cells rm.slots (F0 m pc ls st0) rest (Qc (Value.ref b :: As).toArray) (va_A wc H.size) :=
  va_runI (As := As) (rest := rest) ⟨hx, hb, hml, hown, hts⟩ hM (cwI n hts (gw_good hgw (gw_cons w5 gw_self)) rfl rfl rfl (hts _ (hgw _ w4)) (hts _ (hgw _ w1)) (hts _ (hgw _ w2)) hy1 hd hR) ⟨gp_blind, gp_cut hP hD hK hS hA hnw hgk isC isT hn hC hT⟩ rfl hn2 hsize hst (lv_room hW) hdg hf
/-- the run of a nest mate's private constructor -/
theorem g_runIN {y : MethodName} {bytes : ByteArray} {maxL nL n index iw : Nat} {rm : Room} {Qc : Array Value → State → Outcome → State → Prop} {Ts : List Cond} {own host : String} {b : Addr} {As : List Value}
    (hx : p.tables.exec = Jvm.exec) (hb : c.code = cc) (hml : c.maxLocals = nL) (hown : s.vm.findClass own = some m.cls) (hts : ∀ w ∈ Ts, w.before args s = true) (hgw : ∀ w ∈ GW, w ∈ Ts) (hP : va_P D vwCl ws H) (hD : va_D A ws) (hK : va_K D vwCl tys s) (hS : va_S A s.heap H locs) (hA : ∀ q, s.heap.size ≤ q → A q) (hnw : nw s) (hgk : gk ks A s s.heap)
    (isC isT : List Nat) (hn : va_nd isC = true) (hC : isC.map (fun i => ws[i]?) = wc.map some) (hT : isT.filterMap (fun i => tys[i]?) = tc)
    (hM : Met l y (Cond.code y bytes maxL none :: GW) rm (va_Pc (.ref b :: As) (gp D ks wc tc H.size)) Qc rm.cells rm.slots (va_A wc H.size))
    (w1 : lw_tbl[iw]? = some (Cond.methodLinkNest own index y host)) (w2 : Cond.instanceMethod y ∈ GW) (w4 : Cond.initialized y.cls ∈ GW) (w5 : Cond.code y bytes maxL none ∈ GW) (hy1 : y.name = "<init>")
    (hd : y.cls ≠ "java/lang/invoke/MethodHandle" ∧ y.cls ≠ "java/lang/invoke/VarHandle" ∧ (parseMethodDescriptor y.desc).map (fun d => d.parameters.length) = some n) (hR : rm.frames + 1 ≤ R.frames ∧ 8 + (maxL + 11) + rm.locals ≤ R.locals)
    (hn2 : As.length = n) (hsize : ls.size = nL) (hst : st0 = As.reverse ++ .ref b :: rest) (hW : (rest.map fun v => v.category).sum ≤ 8) (hdg : decode cc pc = .ok (.invokespecial index, 3)) (hf : cells + rm.cells ≤ R.cells ∧ slots + rm.slots ≤ R.slots) :
    va_Run p l e R s m args below meth c H locs cells slots rm.cells rm.slots (F0 m pc ls st0) rest (Qc (Value.ref b :: As).toArray) (va_A wc H.size) :=
  va_runIN (As := As) (rest := rest) ⟨hx, hb, hml, hown, hts⟩ hM ⟨va_cnB n hts (gw_good hgw (gw_cons w5 gw_self)) rfl rfl rfl (hnw _ (List.mem_of_getElem? w1) rfl) (hts _ (hgw _ w4)) hd hR, hy1, hts _ (hgw _ w2)⟩ ⟨gp_blind, gp_cut hP hD hK hS hA hnw hgk isC isT hn hC hT⟩ rfl hn2 hsize hst (lv_room hW) hdg hf
/-- the run of a static call -/
theorem g_runS {y : MethodName} {bytes : ByteArray} {maxL nL n index : Nat} {ret : Option FieldType} {rm : Room} {Qc : Array Value → State → Outcome → State → Prop} {Ts : List Cond} {own : String} {As : List Value}
    (hx : p.tables.exec = Jvm.exec) (hb : c.code = cc) (hml : c.maxLocals = nL) (hown : s.vm.findClass own = some m.cls) (hts : ∀ w ∈ Ts, w.before args s = true) (hgw : ∀ w ∈ GW, w ∈ Ts) (hP : va_P D vwCl ws H) (hD : va_D A ws) (hK : va_K D vwCl tys s) (hS : va_S A s.heap H locs) (hA : ∀ q, s.heap.size ≤ q → A q) (hnw : nw s) (hgk : gk ks A s s.heap)
    (isC isT : List Nat) (hn : va_nd isC = true) (hC : isC.map (fun i => ws[i]?) = wc.map some) (hT : isT.filterMap (fun i => tys[i]?) = tc)
    (hM : Met l y (Cond.code y bytes maxL ret :: GW) rm (va_Pc As (gp D ks wc tc H.size)) Qc rm.cells rm.slots (va_A wc H.size))
    (w1 : Cond.methodLink own index y ∈ GW) (w2 : Cond.static y ∈ GW) (w4 : Cond.initialized y.cls ∈ GW) (w5 : Cond.code y bytes maxL ret ∈ GW)
    (hd : y.cls ≠ "java/lang/invoke/MethodHandle" ∧ y.cls ≠ "java/lang/invoke/VarHandle" ∧ (parseMethodDescriptor y.desc).map (fun d => d.parameters.length) = some n) (hR : rm.frames + 1 ≤ R.frames ∧ 8 + (maxL + 11) + rm.locals ≤ R.locals)
    (hn2 : As.length = n) (hsize : ls.size = nL) (hst : st0 = As.reverse ++ rest) (hW : (rest.map fun v => v.category).sum ≤ 8) (hdg : decode cc pc = .ok (.invokestatic index, 3)) (hf : cells + rm.cells ≤ R.cells ∧ slots + rm.slots ≤ R.slots) :
    va_Run p l e R s m args below meth c H locs cells slots rm.cells rm.slots (F0 m pc ls st0) rest (Qc As.toArray) (va_A wc H.size) :=
  va_runS (As := As) (rest := rest) ⟨hx, hb, hml, hown, hts⟩ hM ⟨callB_of n hts (gw_good hgw (gw_cons w5 gw_self)) rfl rfl rfl (hts _ (hgw _ w4)) (hts _ (hgw _ w1)) hd hR, hts _ (hgw _ w2)⟩ ⟨gp_blind, gp_cut hP hD hK hS hA hnw hgk isC isT hn hC hT⟩ rfl hn2 hsize hst (lv_room hW) hdg hf
theorem g_top {x v : Int32} (h : x = v) (k : W p l e R s m args below meth c H locs cells slots Q (F0 m pc ls (.int v :: rest))) : W p l e R s m args below meth c H locs cells slots Q (F0 m pc ls (.int x :: rest)) := h ▸ k
end GB
/-- a contract out of a walk: what holds at the entry -/
theorem g_met {l : Launch} {y : MethodName} {cc : ByteArray} {maxL : Nat} {ret : Option FieldType} {rm : Room} {av : List Value} {D : va_G} {ks : KS} {ws : va_W} {tys : List (ClassId × FieldType)} {sz : Nat} {mc ms : Nat} (QQ : (Nat → Prop) → Array Value → State → Outcome → State → Prop) (hy : plainName y.cls = true) (hav : (lg_sl av).length ≤ maxL)
    (k : ∀ (p : Program) (e : Env) (s : State) (m : MethodId) (below : List Frame) (meth : Method) (c : Code) (A : Nat → Prop) (ls : Array Slot) (H : Heap) (locs : List Loc), p.tables.exec = Jvm.exec → c.code = cc → meth.sig.returnType = ret → c.maxLocals = maxL → s.vm.findClass y.cls = some m.cls → (∀ w ∈ GW, w.before av.toArray s = true) → meth.locks = false → meth.name = y.name → nw s → gk ks A s s.heap →
      va_P D vwCl ws H → va_K D vwCl tys s → va_D A ws → va_S A s.heap H locs → (∀ q, s.heap.size ≤ q → A q) → lv_has ls maxL (lv_args 0 av) → W p l e rm s m av.toArray below meth c H locs 0 0 (MQ below (QQ A) av.toArray s mc ms A) (F0 m 0 ls [])) :
    Met l y (Cond.code y cc maxL ret :: GW) rm (va_Pc av (gp D ks ws tys sz)) (QQ (va_A ws sz)) mc ms (va_A ws sz) := by
  refine Met.ofW (cc := cc) (maxL := maxL) (ret := ret) hy rfl ?_
  intro p e s m args below meth c s₁ B hml hv
  obtain ⟨rfl, hsz, hnw, hgk, hP, hK, hD0⟩ := hv
  have hl := lv_entry av (n := maxL) hav
  rw [lg_entry_eq]
  exact k p e s m below meth c (va_A ws sz) _ s.heap [] B.exec B.bytes B.returns hml (findClass_of_methodNamed B.named) (fun w h => atoms_spec (ws := Cond.code y cc maxL ret :: GW) B.pre w (List.mem_cons_of_mem _ h)) B.notSynchronized (name_of_methodNamed B.named B.method).1 hnw hgk hP hK hD0.self va_S.rf (fun q h => Or.inr (by rw [← hsz]; exact h)) hl
theorem wobj : Cond.code objectInit ⟨#[0xb1]⟩ 1 none ∈ GW := gw_k tk9_1 34 (rfl) rfl
theorem g_lt_ge {i L : Nat} (h1 : i < 2 ^ 31) (h2 : L < 2 ^ 31) (c : ¬ nI L ≤ nI i) : i < L := (Nat.lt_or_ge i L).elim id (fun q => absurd (nI_le q h1) c)
theorem g_ge_ge {i L : Nat} (h1 : i < 2 ^ 31) (h2 : L < 2 ^ 31) (c : nI L ≤ nI i) : L ≤ i := (nI_leI h2 h1).mp c
theorem g_lt_lt {i L : Nat} (h1 : i < 2 ^ 31) (h2 : L < 2 ^ 31) (c : nI i < nI L) : i < L := (nI_ltI h1 h2).mp c
theorem g_ge_lt {i L : Nat} (h1 : i < 2 ^ 31) (h2 : L < 2 ^ 31) (c : ¬ nI i < nI L) : L ≤ i := (Nat.lt_or_ge i L).elim (fun q => absurd (nI_lt q h2) c) id
def kwc (i : Nat) : Int32 := kw_byt.getD i 0
theorem kwc_c2 : ∀ i, i < 155 → ((kwc i &&& 255).toUInt32 % 65536).toInt32 = kwc i := by decide +kernel
theorem kwc_nar : ∀ i, i < 155 → narrow .char (.int (kwc i)) = .int (kwc i) := by decide +kernel
theorem tab_out (x : Int32) (n : Nat) (hn : n < 2 ^ 31) (h : ∀ k, k ≤ n → ¬ x = nI k) : x.toInt < 0 ∨ (n : Int) < x.toInt := by
  rcases Int.lt_or_le x.toInt 0 with h0 | h0
  · exact Or.inl h0
  · rcases Int.lt_or_le (n : Int) x.toInt with h1 | h1
    · exact Or.inr h1
    · refine absurd ?_ (h x.toInt.toNat (by omega))
      exact Int32.toInt_inj.mp (by rw [nI_toInt (by omega)]; omega)
theorem i_ge1 {x : Int32} (h : ¬ x < 0) (h0 : ¬ x = 0) : 1 ≤ x := by
  obtain ⟨j, hj, rfl⟩ := nI_of h
  have : j ≠ 0 := fun e => h0 (by rw [e]; rfl)
  exact nI_le (a := 1) (by omega) hj
theorem inX0 : ∀ w ∈ wsX00, w ∈ GW := gw_sub [632, 634, 636, 638, 640, 642, 644, 646, 648, 650, 652, 654, 656] (by decide +kernel) (by decide +kernel)
theorem inX1 : ∀ w ∈ wsX10, w ∈ GW := gw_sub [313, 315, 317, 319, 321, 323, 325, 327, 329] (by decide +kernel) (by decide +kernel)
theorem inX2 : ∀ w ∈ wsX20, w ∈ GW := gw_sub [347, 349, 351, 353, 355, 357, 359, 361] (by decide +kernel) (by decide +kernel)
theorem inX3 : ∀ w ∈ wsX30, w ∈ GW := gw_sub [543, 545, 547, 549, 551, 553, 555, 557, 559, 561, 563, 565, 567] (by decide +kernel) (by decide +kernel)
theorem inX4 : ∀ w ∈ wsX40, w ∈ GW := gw_sub [1208, 1210, 1212, 1214, 1216, 1218, 1220, 1222, 1224, 1226, 1228, 1230, 1232, 1234, 1236, 1238, 1240, 1242, 1244] (by decide +kernel) (by decide +kernel)
theorem inX5 : ∀ w ∈ wsX50, w ∈ GW := gw_sub [684, 686, 688, 690, 692, 694, 696, 698, 700, 702, 704, 706, 708, 710, 712] (by decide +kernel) (by decide +kernel)
theorem inX6 : ∀ w ∈ wsX60, w ∈ GW := gw_sub [485, 487] (by decide +kernel) (by decide +kernel)
theorem inX7 : ∀ w ∈ wsX70, w ∈ GW := gw_sub [446, 448, 450, 452, 454, 456, 458, 460, 462, 464] (by decide +kernel) (by decide +kernel)
theorem inX8 : ∀ w ∈ wsX80, w ∈ GW := gw_sub [395, 397, 399, 401, 403, 405, 407, 409, 411, 413, 415, 417, 419, 421, 423, 425] (by decide +kernel) (by decide +kernel)
theorem inX9 : ∀ w ∈ wsX90, w ∈ GW := gw_sub [270, 272, 274, 276, 278, 280, 282, 284, 286, 288, 290, 292] (by decide +kernel) (by decide +kernel)
theorem inX10 : ∀ w ∈ wsX100, w ∈ GW := gw_sub [582, 584, 586, 588, 590] (by decide +kernel) (by decide +kernel)
theorem inX11 : ∀ w ∈ wsX110, w ∈ GW := gw_sub [725, 727, 729, 731, 733, 735, 737, 739, 741, 743] (by decide +kernel) (by decide +kernel)
theorem inX12 : ∀ w ∈ wsX120, w ∈ GW := gw_sub [1806, 1808, 1810, 1812, 1814, 1816, 1818, 1820, 1822, 1824, 1826, 1828, 1830, 1832, 1834, 1836, 1838, 1840, 1842, 1844, 1846, 1848, 1850, 1852, 1854, 1856, 1858, 1860, 1862, 1864, 1866, 1868, 1870, 1872, 1874, 1876, 1878, 1880, 1882, 1884, 1886, 1888, 1890, 1892, 1894, 1896, 1898, 1900, 1902, 1904, 1906, 1908, 1910, 1912, 1914, 1916, 1918, 1920, 1922, 1924, 1926, 1928, 1930, 1932, 1934, 1936, 1938, 1940, 1942, 1944, 1946, 1948, 1950, 1952, 1954, 1956, 1958, 1960, 1962, 1964, 1966, 1968, 1970, 1972, 1974, 1976, 1978, 1980, 1982, 1984, 1986, 1988, 1990, 1992, 1994, 1996, 1998, 2000, 2002, 2004] (by decide +kernel) (by decide +kernel)
