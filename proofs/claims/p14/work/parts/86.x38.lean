/-! worlds side by side: the class's, the reference's, the array of the answers -/
def dj (w1 w2 : va_W) : Prop := ∀ (i j : Nat) (p q : Nat × va_E), w1[i]? = some p → w2[j]? = some q → p.1 ≠ q.1
theorem dj.sy {w1 w2 : va_W} (h : dj w1 w2) : dj w2 w1 := fun i j p q h1 h2 e => h j i q p h2 h1 e.symm
theorem va_Ptl {D : va_G} {x : Nat × va_E} {ws : va_W} {H : Heap} (h : va_P D vwCl (x :: ws) H) : va_P D vwCl ws H := fun k q hq => h (k + 1) q (by rw [List.getElem?_cons_succ]; exact hq)
theorem va_Phd {D : va_G} {x : Nat × va_E} {ws : va_W} {H : Heap} (h : va_P D vwCl (x :: ws) H) : va_P D vwCl [x] H := by
  intro k q hq
  cases k with
  | zero => exact h 0 q hq
  | succ k => rw [List.getElem?_cons_succ] at hq; cases hq
theorem va_Pcn {D : va_G} {x : Nat × va_E} {ws : va_W} {H : Heap} (h0 : va_P D vwCl [x] H) (h : va_P D vwCl ws H) : va_P D vwCl (x :: ws) H := by
  intro k q hq
  cases k with
  | zero => exact h0 0 q hq
  | succ k => rw [List.getElem?_cons_succ] at hq; exact h k q hq
theorem va_Dtl {A : Nat → Prop} {x : Nat × va_E} {ws : va_W} (h : va_D A (x :: ws)) : va_D A ws :=
  ⟨fun i j p q h1 h2 e => Nat.succ.inj (h.1 (i + 1) (j + 1) p q (by rw [List.getElem?_cons_succ]; exact h1) (by rw [List.getElem?_cons_succ]; exact h2) e), fun k q hq => h.2 (k + 1) q (by rw [List.getElem?_cons_succ]; exact hq)⟩
theorem va_Dhd {A : Nat → Prop} {x : Nat × va_E} {ws : va_W} (h : va_D A (x :: ws)) : va_D A [x] := by
  refine ⟨fun i j p q h1 h2 _ => ?_, fun k q hq => ?_⟩
  · cases i with
    | zero => cases j with
      | zero => rfl
      | succ j => rw [List.getElem?_cons_succ] at h2; cases h2
    | succ i => rw [List.getElem?_cons_succ] at h1; cases h1
  · cases k with
    | zero => exact h.2 0 q hq
    | succ k => rw [List.getElem?_cons_succ] at hq; cases hq
theorem dj_hd {A : Nat → Prop} {x : Nat × va_E} {ws : va_W} (h : va_D A (x :: ws)) : dj [x] ws := by
  intro i j p q h1 h2 e
  cases i with
  | zero => exact absurd (h.1 0 (j + 1) p q h1 (by rw [List.getElem?_cons_succ]; exact h2) e) (by omega)
  | succ i => rw [List.getElem?_cons_succ] at h1; cases h1
theorem va_Dcn {A : Nat → Prop} {x : Nat × va_E} {ws : va_W} (h0 : va_D A [x]) (h : va_D A ws) (hd : dj [x] ws) : va_D A (x :: ws) := by
  refine ⟨fun i j p q h1 h2 e => ?_, fun k q hq => ?_⟩
  · cases i with
    | zero => cases j with
      | zero => rfl
      | succ j => rw [List.getElem?_cons_succ] at h2; exact absurd e (hd 0 j p q h1 h2)
    | succ i => cases j with
      | zero => rw [List.getElem?_cons_succ] at h1; exact absurd e.symm (hd 0 i q p h2 h1)
      | succ j => rw [List.getElem?_cons_succ] at h1 h2; exact congrArg Nat.succ (h.1 i j p q h1 h2 e)
  · cases k with
    | zero => exact h0.2 0 q hq
    | succ k => rw [List.getElem?_cons_succ] at hq; exact h.2 k q hq
theorem dj_cn {x : Nat × va_E} {ws w2 : va_W} (h0 : dj [x] w2) (h : dj ws w2) : dj (x :: ws) w2 := by
  intro i j p q h1 h2
  cases i with
  | zero => exact h0 0 j p q h1 h2
  | succ i => rw [List.getElem?_cons_succ] at h1; exact h i j p q h1 h2
theorem dj_h1 {x : Nat × va_E} {ws w2 : va_W} (h : dj (x :: ws) w2) : dj [x] w2 := by
  intro i j p q h1 h2
  cases i with
  | zero => exact h 0 j p q h1 h2
  | succ i => rw [List.getElem?_cons_succ] at h1; cases h1
theorem va_side {D : va_G} {wc w2 : va_W} {H H1 : Heap} (hP2 : va_P D vwCl w2 H) (hx : dj wc w2) (hk : ∀ q : Nat, q < H.size → ¬ va_A wc H.size q → H1[q]? = H[q]?) : va_P D vwCl w2 H1 :=
  fun k q h => (hP2 k q h).kept (hk q.1 (hP2 k q h).lt (fun z => z.elim (fun ⟨i, e, w⟩ => hx i k (q.1, e) q w h rfl) (fun w => absurd (hP2 k q h).lt (Nat.not_lt.mpr w))))
theorem dj_side {D : va_G} {wc w1 w2 : va_W} {H : Heap} (hP2 : va_P D vwCl w2 H) (hx : dj wc w2) (hD1 : va_D (va_A wc H.size) w1) : dj w1 w2 := by
  intro i j p q h1 h2 e
  rcases hD1.2 i p h1 with ⟨k, e', w⟩ | w
  · exact hx k j (p.1, e') q w h2 e
  · have := (hP2 j q h2).lt
    rw [← e] at this
    exact absurd this (Nat.not_lt.mpr w)
def LI (D : va_G) (A : Nat → Prop) (H : Heap) (wx wm wo : va_W) : Prop := (va_P D vwCl wx H ∧ va_P D vwCl wm H ∧ va_P D vwCl wo H) ∧ (va_D A wx ∧ va_D A wm ∧ va_D A wo) ∧ dj wx wm ∧ dj wo wx ∧ dj wo wm
theorem LI.sw {D : va_G} {A : Nat → Prop} {H : Heap} {wx wm wo : va_W} (h : LI D A H wx wm wo) : LI D A H wm wx wo := ⟨⟨h.1.2.1, h.1.1, h.1.2.2⟩, ⟨h.2.1.2.1, h.2.1.1, h.2.1.2.2⟩, h.2.2.1.sy, h.2.2.2.2, h.2.2.2.1⟩
theorem LI.x {D : va_G} {A : Nat → Prop} {H H1 : Heap} {wx wm wo w1 : va_W} (h : LI D A H wx wm wo) (hk : ∀ q : Nat, q < H.size → ¬ va_A wx H.size q → H1[q]? = H[q]?) (hP : va_P D vwCl w1 H1) (hD : va_D (va_A wx H.size) w1) (hF : ∀ q, va_A wx H.size q → A q) : LI D A H1 w1 wm wo :=
  ⟨⟨hP, va_side h.1.2.1 h.2.2.1 hk, va_side h.1.2.2 h.2.2.2.1.sy hk⟩, ⟨hD.weaken (fun _ _ _ h => hF _ h), h.2.1.2.1, h.2.1.2.2⟩, dj_side h.1.2.1 h.2.2.1 hD, (dj_side h.1.2.2 h.2.2.2.1.sy hD).sy, h.2.2.2.2⟩
theorem LI.hD {D : va_G} {A : Nat → Prop} {H : Heap} {wx wm : va_W} {o : Nat × va_E} (h : LI D A H wx wm [o]) : va_D A (o :: wx) := va_Dcn h.2.1.2.2 h.2.1.1 h.2.2.2.1
theorem LI.hP {D : va_G} {A : Nat → Prop} {H : Heap} {wx wm : va_W} {o : Nat × va_E} (h : LI D A H wx wm [o]) : va_P D vwCl (o :: wx) H := va_Pcn h.1.2.2 h.1.1
theorem LI.h {D : va_G} {A : Nat → Prop} {H H1 : Heap} {wx wm : va_W} {o o1 : Nat × va_E} (h : LI D A H wx wm [o]) (hk : ∀ q : Nat, q < H.size → ¬ va_A (o :: wx) H.size q → H1[q]? = H[q]?) (hP : va_P D vwCl (o1 :: wx) H1) (hD : va_D (va_A (o :: wx) H.size) (o1 :: wx)) (hF : ∀ q, va_A (o :: wx) H.size q → A q) : LI D A H1 wx wm [o1] := by
  have hx : dj (o :: wx) wm := dj_cn h.2.2.2.2 h.2.2.1
  have hd := dj_side h.1.2.1 hx hD
  have hA := hD.weaken (B := A) (fun _ _ _ h => hF _ h)
  exact ⟨⟨va_Ptl hP, va_side h.1.2.1 hx hk, va_Phd hP⟩, ⟨va_Dtl hA, h.2.1.2.1, va_Dhd hA⟩, h.2.2.1, dj_hd hA, dj_h1 hd⟩
section GL
variable {p : Program} {l : Launch} {e : Env} {R : Room} {s : State} {m : MethodId} {args : Array Value} {below : List Frame} {meth : Method} {c : Code} {H : Heap} {locs : List Loc} {cells slots : Nat} {Q : State → Prop}
variable {pc : Nat} {ls : Array Slot} {st0 rest : List Value} {D : va_G} {A : Nat → Prop} {tys : List (ClassId × FieldType)} {wx wm wo : va_W}
theorem gL_int {S : Type} {post : Int32 → S → Prop} {wq : S → va_W} {mc ms : Nat} {av : Array Value} (hr : va_Run p l e R s m args below meth c H locs cells slots mc ms (F0 m pc ls st0) rest (va_Qi post (fun u t => gq D (va_A wx H.size) (wq u) tys t) (va_A wx H.size) av) (va_A wx H.size))
    (hL : LI D A H wx wm wo) (hS : va_S A s.heap H locs) (hA : ∀ q, s.heap.size ≤ q → A q)
    (kk : ∀ (r : Int32) (u : S) (H1 : Heap) (locs1 : List Loc), post r u → LI D A H1 (wq u) wm wo → va_S A s.heap H1 locs1 → W p l e R s m args below meth c H1 locs1 (cells + mc) (slots + ms) Q (F0 m (pc + 3) ls (.int r :: rest))) : W p l e R s m args below meth c H locs cells slots Q (F0 m pc ls st0) := by
  have hF := gA_free hL.2.1.1 hS hA
  refine va_calli hr hS (fun q _ h => hF q h) hF (fun r u t H1 locs ht hvm hw hB hz1 hk1 hS => ?_)
  obtain ⟨hP1, hK1, hD1⟩ := hB
  rw [ht] at hP1
  exact kk r u H1 locs hw (hL.x hk1 hP1 hD1 hF) hS
theorem gLh_int {S : Type} {post : Int32 → S → Prop} {oq : S → Nat × va_E} {o : Nat × va_E} {mc ms : Nat} {av : Array Value} (hr : va_Run p l e R s m args below meth c H locs cells slots mc ms (F0 m pc ls st0) rest (va_Qi post (fun u t => gq D (va_A (o :: wx) H.size) (oq u :: wx) tys t) (va_A (o :: wx) H.size) av) (va_A (o :: wx) H.size))
    (hL : LI D A H wx wm [o]) (hS : va_S A s.heap H locs) (hA : ∀ q, s.heap.size ≤ q → A q)
    (kk : ∀ (r : Int32) (u : S) (H1 : Heap) (locs1 : List Loc), post r u → LI D A H1 wx wm [oq u] → va_S A s.heap H1 locs1 → W p l e R s m args below meth c H1 locs1 (cells + mc) (slots + ms) Q (F0 m (pc + 3) ls (.int r :: rest))) : W p l e R s m args below meth c H locs cells slots Q (F0 m pc ls st0) := by
  have hF := gA_free hL.hD hS hA
  refine va_calli hr hS (fun q _ h => hF q h) hF (fun r u t H1 locs ht hvm hw hB hz1 hk1 hS => ?_)
  obtain ⟨hP1, hK1, hD1⟩ := hB
  rw [ht] at hP1
  exact kk r u H1 locs hw (hL.h hk1 hP1 hD1 hF) hS
theorem gLZ_int {S : Type} {post : Int32 → S → Prop} {wq : S → va_W} {tq : S → List (ClassId × FieldType)} {zc zs : S → Nat} {mc ms : Nat} {av : Array Value} (hr : va_Run p l e R s m args below meth c H locs cells slots mc ms (F0 m pc ls st0) rest (qZi D post wq tq zc zs (va_A wx H.size) av) (va_A wx H.size))
    (hL : LI D A H wx wm wo) (hS : va_S A s.heap H locs) (hA : ∀ q, s.heap.size ≤ q → A q)
    (kk : ∀ (r : Int32) (u : S) (H1 : Heap) (locs1 : List Loc), post r u → LI D A H1 (wq u) wm wo → va_K D vwCl (tq u) s → va_S A s.heap H1 locs1 → H1.size ≤ H.size + zc u → tot H1 ≤ tot H + zs u → W p l e R s m args below meth c H1 locs1 (cells + mc) (slots + ms) Q (F0 m (pc + 3) ls (.int r :: rest))) : W p l e R s m args below meth c H locs cells slots Q (F0 m pc ls st0) := by
  have hF := gA_free hL.2.1.1 hS hA
  intro T hT X
  obtain ⟨v, st₀, t, T', L, h0, X', hL2, e1, e2, ⟨⟨r, u, hv, hp, hb, y1, y2⟩, hz, hk⟩, st⟩ := hr T hT X
  cases hv
  rw [h0] at hz hk y1 y2
  obtain ⟨hP1, hK1, hD1⟩ := hb
  have hvm : s.vm.Alike t.vm := by rw [← e2]; exact X'.warmed.alike
  obtain ⟨t2, a1, b1⟩ := kk r u T'.heap (locs ++ L) hp (hL.x (fun q h1 h2 => by rw [e1]; exact hk q h1 h2) (by rw [e1]; exact hP1) hD1 hF) (va_K.moved hvm.symm hK1)
    ⟨Nat.le_trans hS.1 (by rw [e1]; exact hz), fun q h1 h2 => by rw [e1, hk q (Nat.lt_of_lt_of_le h1 hS.1) (fun z => h2 (hF q z))]; exact hS.2.1 q h1 h2, fun q hq => by
      rcases List.mem_append.mp hq with h | h
      · exact hS.2.2 q h
      · exact hF _ (hL2 q h)⟩ (by rw [e1]; exact y1) (by rw [e1]; exact y2) T' rfl X'
  exact ⟨t2, st t2 a1, b1⟩
end GL

theorem w753 : Cond.code yX9_append cX9_append 6 none ∈ GW := gw_k tk9_3 118 (rfl) rfl
theorem w750 : Cond.methodLink RX11 65 yX9_append ∈ GW := gw_k tk9_3 115 (by decide +kernel) rfl
theorem w751 : Cond.instanceMethod yX9_append ∈ GW := gw_k tk9_3 116 (by decide +kernel) rfl
theorem w752 : Cond.selects RX9 yX9_append yX9_append ∈ GW := gw_k tk9_3 117 (by decide +kernel) rfl
theorem hdV_yX9_append : yX9_append.cls = RX9 ∧ yX9_append.cls ≠ "java/lang/invoke/MethodHandle" ∧ yX9_append.cls ≠ "java/lang/invoke/VarHandle" ∧ (parseMethodDescriptor yX9_append.desc).map (fun d => d.parameters.length) = some 1 := by decide +kernel
theorem w1601 : Cond.methodLink RL 7 yX11_component ∈ GW := gw_k tk9_7 6 (by decide +kernel) rfl
theorem w1602 : Cond.instanceMethod yX11_component ∈ GW := gw_k tk9_7 7 (by decide +kernel) rfl
theorem w1603 : Cond.selects RX11 yX11_component yX11_component ∈ GW := gw_k tk9_7 8 (by decide +kernel) rfl
theorem w1604 : Cond.code yX11_component cX11_component 4 (some .int) ∈ GW := gw_k tk9_7 9 (rfl) rfl
theorem w1600 : Cond.classLink RL 13 nseN ∈ GW := gw_k tk9_7 5 (by decide +kernel) rfl
theorem hdV_yX11_component : yX11_component.cls = RX11 ∧ yX11_component.cls ≠ "java/lang/invoke/MethodHandle" ∧ yX11_component.cls ≠ "java/lang/invoke/VarHandle" ∧ (parseMethodDescriptor yX11_component.desc).map (fun d => d.parameters.length) = some 2 := by decide +kernel
theorem w1674 : Cond.methodLink RL 15 yX11_object ∈ GW := gw_k tk9_7 79 (by decide +kernel) rfl
theorem w1675 : Cond.instanceMethod yX11_object ∈ GW := gw_k tk9_7 80 (by decide +kernel) rfl
theorem w1676 : Cond.selects RX11 yX11_object yX11_object ∈ GW := gw_k tk9_7 81 (by decide +kernel) rfl
theorem w1677 : Cond.code yX11_object cX11_object 3 (some .int) ∈ GW := gw_k tk9_7 82 (rfl) rfl
theorem hdV_yX11_object : yX11_object.cls = RX11 ∧ yX11_object.cls ≠ "java/lang/invoke/MethodHandle" ∧ yX11_object.cls ≠ "java/lang/invoke/VarHandle" ∧ (parseMethodDescriptor yX11_object.desc).map (fun d => d.parameters.length) = some 2 := by decide +kernel
theorem dk9_dX11_feed_0_0 : dOk cX11_feed [(0, .aload_n 0, 1), (1, .getfield 10, 3), (4, .lload_n 1, 1), (5, .invokevirtual 65, 3), (8, .aload_n 0, 1), (9, .getfield 10, 3), (12, .lload_n 3, 1), (13, .invokevirtual 65, 3), (16, .aload_n 0, 1), (17, .getfield 10, 3), (20, .lload 5, 2), (22, .invokevirtual 65, 3), (25, .aload_n 0, 1), (26, .getfield 10, 3), (29, .getfield 69, 3), (32, .ireturn, 1)] = true := by decide +kernel
theorem dX11_feed_0 : decode cX11_feed 0 = .ok (.aload_n 0, 1) := dr9 dk9_dX11_feed_0_0 0 (0, .aload_n 0, 1) rfl
theorem dX11_feed_1 : decode cX11_feed 1 = .ok (.getfield 10, 3) := dr9 dk9_dX11_feed_0_0 1 (1, .getfield 10, 3) rfl
theorem dX11_feed_4 : decode cX11_feed 4 = .ok (.lload_n 1, 1) := dr9 dk9_dX11_feed_0_0 2 (4, .lload_n 1, 1) rfl
theorem dX11_feed_5 : decode cX11_feed 5 = .ok (.invokevirtual 65, 3) := dr9 dk9_dX11_feed_0_0 3 (5, .invokevirtual 65, 3) rfl
theorem dX11_feed_8 : decode cX11_feed 8 = .ok (.aload_n 0, 1) := dr9 dk9_dX11_feed_0_0 4 (8, .aload_n 0, 1) rfl
theorem dX11_feed_9 : decode cX11_feed 9 = .ok (.getfield 10, 3) := dr9 dk9_dX11_feed_0_0 5 (9, .getfield 10, 3) rfl
theorem dX11_feed_12 : decode cX11_feed 12 = .ok (.lload_n 3, 1) := dr9 dk9_dX11_feed_0_0 6 (12, .lload_n 3, 1) rfl
theorem dX11_feed_13 : decode cX11_feed 13 = .ok (.invokevirtual 65, 3) := dr9 dk9_dX11_feed_0_0 7 (13, .invokevirtual 65, 3) rfl
theorem dX11_feed_16 : decode cX11_feed 16 = .ok (.aload_n 0, 1) := dr9 dk9_dX11_feed_0_0 8 (16, .aload_n 0, 1) rfl
theorem dX11_feed_17 : decode cX11_feed 17 = .ok (.getfield 10, 3) := dr9 dk9_dX11_feed_0_0 9 (17, .getfield 10, 3) rfl
theorem dX11_feed_20 : decode cX11_feed 20 = .ok (.lload 5, 2) := dr9 dk9_dX11_feed_0_0 10 (20, .lload 5, 2) rfl
theorem dX11_feed_22 : decode cX11_feed 22 = .ok (.invokevirtual 65, 3) := dr9 dk9_dX11_feed_0_0 11 (22, .invokevirtual 65, 3) rfl
theorem dX11_feed_25 : decode cX11_feed 25 = .ok (.aload_n 0, 1) := dr9 dk9_dX11_feed_0_0 12 (25, .aload_n 0, 1) rfl
theorem dX11_feed_26 : decode cX11_feed 26 = .ok (.getfield 10, 3) := dr9 dk9_dX11_feed_0_0 13 (26, .getfield 10, 3) rfl
theorem dX11_feed_29 : decode cX11_feed 29 = .ok (.getfield 69, 3) := dr9 dk9_dX11_feed_0_0 14 (29, .getfield 69, 3) rfl
theorem dX11_feed_32 : decode cX11_feed 32 = .ok (.ireturn, 1) := dr9 dk9_dX11_feed_0_0 15 (32, .ireturn, 1) rfl
theorem dk9_dL_component_0_0 : dOk cL_component [(0, .aload_n 3, 1), (1, .iconst 0, 1), (2, .aload_n 0, 1), (3, .iload_n 1, 1), (4, .iload_n 2, 1), (5, .invokevirtual 7, 3), (8, .i2l, 1), (9, .lastore, 1), (10, .goto 7, 3), (13, .astore 4, 2), (15, .iconst 1, 1), (16, .ireturn, 1), (17, .iconst 0, 1), (18, .ireturn, 1)] = true := by decide +kernel
theorem dL_component_0 : decode cL_component 0 = .ok (.aload_n 3, 1) := dr9 dk9_dL_component_0_0 0 (0, .aload_n 3, 1) rfl
theorem dL_component_1 : decode cL_component 1 = .ok (.iconst 0, 1) := dr9 dk9_dL_component_0_0 1 (1, .iconst 0, 1) rfl
theorem dL_component_2 : decode cL_component 2 = .ok (.aload_n 0, 1) := dr9 dk9_dL_component_0_0 2 (2, .aload_n 0, 1) rfl
theorem dL_component_3 : decode cL_component 3 = .ok (.iload_n 1, 1) := dr9 dk9_dL_component_0_0 3 (3, .iload_n 1, 1) rfl
theorem dL_component_4 : decode cL_component 4 = .ok (.iload_n 2, 1) := dr9 dk9_dL_component_0_0 4 (4, .iload_n 2, 1) rfl
theorem dL_component_5 : decode cL_component 5 = .ok (.invokevirtual 7, 3) := dr9 dk9_dL_component_0_0 5 (5, .invokevirtual 7, 3) rfl
theorem dL_component_8 : decode cL_component 8 = .ok (.i2l, 1) := dr9 dk9_dL_component_0_0 6 (8, .i2l, 1) rfl
theorem dL_component_9 : decode cL_component 9 = .ok (.lastore, 1) := dr9 dk9_dL_component_0_0 7 (9, .lastore, 1) rfl
theorem dL_component_10 : decode cL_component 10 = .ok (.goto 7, 3) := dr9 dk9_dL_component_0_0 8 (10, .goto 7, 3) rfl
theorem dL_component_13 : decode cL_component 13 = .ok (.astore 4, 2) := dr9 dk9_dL_component_0_0 9 (13, .astore 4, 2) rfl
theorem dL_component_15 : decode cL_component 15 = .ok (.iconst 1, 1) := dr9 dk9_dL_component_0_0 10 (15, .iconst 1, 1) rfl
theorem dL_component_16 : decode cL_component 16 = .ok (.ireturn, 1) := dr9 dk9_dL_component_0_0 11 (16, .ireturn, 1) rfl
theorem dL_component_17 : decode cL_component 17 = .ok (.iconst 0, 1) := dr9 dk9_dL_component_0_0 12 (17, .iconst 0, 1) rfl
theorem dL_component_18 : decode cL_component 18 = .ok (.ireturn, 1) := dr9 dk9_dL_component_0_0 13 (18, .ireturn, 1) rfl
theorem dk9_dL_object_0_0 : dOk cL_object [(0, .aload_n 3, 1), (1, .iconst 0, 1), (2, .aload_n 0, 1), (3, .iload_n 1, 1), (4, .iload_n 2, 1), (5, .invokevirtual 15, 3), (8, .i2l, 1), (9, .lastore, 1), (10, .goto 7, 3), (13, .astore 4, 2), (15, .iconst 1, 1), (16, .ireturn, 1), (17, .iconst 0, 1), (18, .ireturn, 1)] = true := by decide +kernel
theorem dL_object_0 : decode cL_object 0 = .ok (.aload_n 3, 1) := dr9 dk9_dL_object_0_0 0 (0, .aload_n 3, 1) rfl
theorem dL_object_1 : decode cL_object 1 = .ok (.iconst 0, 1) := dr9 dk9_dL_object_0_0 1 (1, .iconst 0, 1) rfl
theorem dL_object_2 : decode cL_object 2 = .ok (.aload_n 0, 1) := dr9 dk9_dL_object_0_0 2 (2, .aload_n 0, 1) rfl
theorem dL_object_3 : decode cL_object 3 = .ok (.iload_n 1, 1) := dr9 dk9_dL_object_0_0 3 (3, .iload_n 1, 1) rfl
theorem dL_object_4 : decode cL_object 4 = .ok (.iload_n 2, 1) := dr9 dk9_dL_object_0_0 4 (4, .iload_n 2, 1) rfl
theorem dL_object_5 : decode cL_object 5 = .ok (.invokevirtual 15, 3) := dr9 dk9_dL_object_0_0 5 (5, .invokevirtual 15, 3) rfl
theorem dL_object_8 : decode cL_object 8 = .ok (.i2l, 1) := dr9 dk9_dL_object_0_0 6 (8, .i2l, 1) rfl
theorem dL_object_9 : decode cL_object 9 = .ok (.lastore, 1) := dr9 dk9_dL_object_0_0 7 (9, .lastore, 1) rfl
theorem dL_object_10 : decode cL_object 10 = .ok (.goto 7, 3) := dr9 dk9_dL_object_0_0 8 (10, .goto 7, 3) rfl
theorem dL_object_13 : decode cL_object 13 = .ok (.astore 4, 2) := dr9 dk9_dL_object_0_0 9 (13, .astore 4, 2) rfl
theorem dL_object_15 : decode cL_object 15 = .ok (.iconst 1, 1) := dr9 dk9_dL_object_0_0 10 (15, .iconst 1, 1) rfl
theorem dL_object_16 : decode cL_object 16 = .ok (.ireturn, 1) := dr9 dk9_dL_object_0_0 11 (16, .ireturn, 1) rfl
theorem dL_object_17 : decode cL_object 17 = .ok (.iconst 0, 1) := dr9 dk9_dL_object_0_0 12 (17, .iconst 0, 1) rfl
theorem dL_object_18 : decode cL_object 18 = .ok (.ireturn, 1) := dr9 dk9_dL_object_0_0 13 (18, .ireturn, 1) rfl
abbrev r_x_h_feed : Room := { frames := 1, cells := 0, slots := 0, locals := 25 }
abbrev q_x_h_feed (D : va_G) (ks : KS) (ad : Nat → Nat) (kk : Nat → ClassId) (V : Vf) (L : Lf) (Z : XZ) (p0 : Int64) (p1 : Int64) (p2 : Int64) (k0 : Nat) (A : Nat → Prop) : Array Value → State → Outcome → State → Prop := va_Qi (fun (r : Int32) (u : Vf × Lf) => rgd bX u.1 ∧ agr [(6, 5)] [10] V u.1 ∧ u.2 = L ∧ (r.toInt = ((apk 8 p2 (apk 8 p1 (apk 8 p0 k0)) : Nat) : Int)) ∧ ((u.1 6 5).toInt = ((apk 8 p2 (apk 8 p1 (apk 8 p0 k0)) : Nat) : Int))) (fun u t => gq D A (xw ad kk u.1 u.2 Z) (xty kk Z) t) A
abbrev r_x_h_named2 : Room := { frames := 6, cells := 0, slots := 0, locals := 133 }
abbrev q_x_h_named2 (D : va_G) (ks : KS) (ad : Nat → Nat) (kk : Nat → ClassId) (V : Vf) (L : Lf) (Z : XZ) (p0 : Int32) (b : Nat) (A : Nat → Prop) : Array Value → State → Outcome → State → Prop := va_Qi (fun (r : Int32) (u : Vf × Lf) => rgd bX u.1 ∧ agr [(6, 5), (6, 6), (6, 7), (6, 8), (6, 9), (6, 10)] [12, 13, 14] V u.1 ∧ agL [6, 14] L u.2 ∧ ((u.1 6 5).toInt = 0)) (fun u t => gq D A (xw ad kk u.1 u.2 Z) (xty kk Z) t) A
set_option maxHeartbeats 4000000 in
set_option maxRecDepth 100000 in
theorem x_h_named2 (l : Launch) (D : va_G) (ks : KS) (sz : Nat) (ad : Nat → Nat) (kk : Nat → ClassId) (V : Vf) (L : Lf) (Z : XZ) (p0 : Int32) (b : Nat) (hMV : rgd bX V) (hb2 : b < 2) (shk : (V 0 6).toInt = (b : Int))  : Met l yX11_named (Cond.code yX11_named cX11_named 6 (some .int) :: GW) r_x_h_named2 (va_Pc [.ref (ad 0), .int p0] (gp D ks (xw ad kk V L Z) (xty kk Z) sz)) (q_x_h_named2 D ks ad kk V L Z p0 b (va_A (xw ad kk V L Z) sz)) 0 0 (va_A (xw ad kk V L Z) sz) := by
  refine g_met (q_x_h_named2 D ks ad kk V L Z p0 b) (by decide) (Nat.le_of_ble_eq_true rfl) ?_
  intro p e s m below meth c A ls H locs hx hb hr hml hown hg hlocks hin hnw hgk hP hK hD hS hA hl
  have hown : s.vm.findClass RX11 = some m.cls := hown
  have hl : lv_has ls 6 [(0, .ref (ad 0)), (1, .int p0)] := hl
  have hP : va_P D vwCl (xw ad kk V L Z) H := hP
  have hD : va_D A (xw ad kk V L Z) := hD
  have hK : va_K D vwCl (xty kk Z) s := hK
  have agV : agr [(6, 5), (6, 6), (6, 7), (6, 8), (6, 9), (6, 10)] [12, 13, 14] V V := agr.rf
  have alL : agL [6, 14] L L := agL.rf
  have r1 : 0 ≤ ((V 0 6)).toInt ∧ ((V 0 6)).toInt ≤ 1 := hMV 0 6
  refine lv_aload_n hx hb dX11_named_0 rfl (lv_at hl 0 rfl) ?_
  refine va_get (D := D) (ci := 11) (v := .ref (ad 6)) (fs := (xfHouse ad V L Z)) (C := RX11) (T := TX11) (N := 10) hx hb hg inX11 hown hK hP 0 xgHouse rfl 0 (by decide) (hg _ w715) (fun _ h9 => h9) rfl dX11_named_1 ?_
  refine gA_void (gA_runV (As := []) (rest := []) (ci := 9) (q0 := 6) hx hb hml hown hg hP hD hK hS hA hnw hgk (x_begin l D ks H.size ad kk V L Z  hMV ) w1051 w767 w768 w157 w769 rfl xgTape hdV_yX9_begin ⟨Nat.le_of_ble_eq_true rfl, Nat.le_of_ble_eq_true rfl⟩ rfl hl.1 rfl (Nat.le_of_ble_eq_true rfl) dX11_named_4 ⟨Nat.le_of_ble_eq_true rfl, Nat.le_of_ble_eq_true rfl⟩) hP hD hK hS hA (fun u3 H locs w4 hP hD hK hS => ?_)
  obtain ⟨V5, L6⟩ := u3
  obtain ⟨hMV5, ajV5, axL6⟩ := w4
  have alL6 : agL [6, 14] L L6 := agL.tr alL axL6 (by decide)
  have hP : va_P D vwCl (xw ad kk V5 L6 Z) H := hP
  have hD : va_D A (xw ad kk V5 L6 Z) := hD
  have hMV5 : rgd bX V5 := hMV5
  have ajV5 : agr [(6, 6), (6, 7), (6, 8), (6, 9), (6, 10)] [12, 13, 14] V V5 := ajV5
  have agV5 : agr [(6, 5), (6, 6), (6, 7), (6, 8), (6, 9), (6, 10)] [12, 13, 14] V V5 := agV.tr ajV5 (by decide) (by decide)
  refine lv_aload_n hx hb dX11_named_7 rfl (lv_at hl 0 rfl) ?_
  refine va_get (D := D) (ci := 11) (v := .ref (ad 6)) (fs := (xfHouse ad V5 L6 Z)) (C := RX11) (T := TX11) (N := 10) hx hb hg inX11 hown hK hP 0 xgHouse rfl 0 (by decide) (hg _ w715) (fun _ h9 => h9) rfl dX11_named_8 ?_
  refine va_getN (D := D) (ci := 9) (v := .int (V5 6 9)) (fs := (xfTape ad V5 L6 Z)) (C := RX9) (T := TX9) (N := 12) hx hb hg inX9 hown hK hP 6 xgTape rfl 9 (by decide) (hnw.use 263 n263 rfl) (fun _ h9 => h9) rfl dX11_named_11 ?_
  refine lv_iconst (v := 3) hx hb dX11_named_14 (by decide) ?_
  refine lv_icmp_ne (tgt := 22) hx hb dX11_named_15 (by decide) (fun c7 => ?_) (fun c7 => ?_)
  · skip
    have f8 : ((V5 6 9)).toInt ≠ 3 := b_neq rfl (by decide) c7
    refine lv_iconst (v := 0) hx hb dX11_named_22 (by decide) ?_
    refine lv_istore_n (lv' := [(2, .int 0), (0, .ref (ad 0)), (1, .int p0)]) hx hb dX11_named_23 rfl hl (by decide) rfl (fun ls hl => ?_)
    refine lv_aload_n hx hb dX11_named_24 rfl (lv_at hl 1 rfl) ?_
    refine va_get (D := D) (ci := 11) (v := .ref (ad 6)) (fs := (xfHouse ad V5 L6 Z)) (C := RX11) (T := TX11) (N := 10) hx hb hg inX11 hown hK hP 0 xgHouse rfl 0 (by decide) (hg _ w715) (fun _ h9 => h9) rfl dX11_named_25 ?_
    refine va_getN (D := D) (ci := 9) (v := .long (L6 6 11)) (fs := (xfTape ad V5 L6 Z)) (C := RX9) (T := TX9) (N := 12) hx hb hg inX9 hown hK hP 6 xgTape rfl 11 (by decide) (hnw.use 267 n267 rfl) (fun _ h9 => h9) rfl dX11_named_28 ?_
    refine lv_topl (fun w9 ew9 => ?_)
    refine lv_lstore_n (lv' := [(3, .long w9), (2, .int 0), (0, .ref (ad 0)), (1, .int p0)]) hx hb dX11_named_31 rfl hl (by decide) rfl (fun ls hl => ?_)
    refine lv_aload_n hx hb dX11_named_32 rfl (lv_at hl 2 rfl) ?_
    refine va_get (D := D) (ci := 11) (v := .ref (ad 6)) (fs := (xfHouse ad V5 L6 Z)) (C := RX11) (T := TX11) (N := 10) hx hb hg inX11 hown hK hP 0 xgHouse rfl 0 (by decide) (hg _ w715) (fun _ h9 => h9) rfl dX11_named_33 ?_
    refine gA_void (gA_runV (As := []) (rest := []) (ci := 9) (q0 := 6) hx hb hml hown hg hP hD hK hS hA hnw hgk (x_next l D ks H.size ad kk V5 L6 Z  hMV5 ) w1052 w852 w853 w157 w854 rfl xgTape hdV_yX9_next ⟨Nat.le_of_ble_eq_true rfl, Nat.le_of_ble_eq_true rfl⟩ rfl hl.1 rfl (Nat.le_of_ble_eq_true rfl) dX11_named_36 ⟨Nat.le_of_ble_eq_true rfl, Nat.le_of_ble_eq_true rfl⟩) hP hD hK hS hA (fun u11 H locs w12 hP hD hK hS => ?_)
    obtain ⟨V13, L14⟩ := u11
    obtain ⟨hMV13, ajV13, axL14⟩ := w12
    have alL14 : agL [6, 14] L L14 := agL.tr alL6 axL14 (by decide)
    have hP : va_P D vwCl (xw ad kk V13 L14 Z) H := hP
    have hD : va_D A (xw ad kk V13 L14 Z) := hD
    have hMV13 : rgd bX V13 := hMV13
    have ajV13 : agr [(6, 8), (6, 9), (6, 10)] [] V5 V13 := ajV13
    have agV13 : agr [(6, 5), (6, 6), (6, 7), (6, 8), (6, 9), (6, 10)] [12, 13, 14] V V13 := agV5.tr ajV13 (by decide) (by decide)
    refine lv_aload_n hx hb dX11_named_39 rfl (lv_at hl 2 rfl) ?_
    refine va_get (D := D) (ci := 11) (v := .ref (ad 6)) (fs := (xfHouse ad V13 L14 Z)) (C := RX11) (T := TX11) (N := 10) hx hb hg inX11 hown hK hP 0 xgHouse rfl 0 (by decide) (hg _ w715) (fun _ h9 => h9) rfl dX11_named_40 ?_
    refine va_getN (D := D) (ci := 9) (v := .int (V13 6 9)) (fs := (xfTape ad V13 L14 Z)) (C := RX9) (T := TX9) (N := 12) hx hb hg inX9 hown hK hP 6 xgTape rfl 9 (by decide) (hnw.use 263 n263 rfl) (fun _ h9 => h9) rfl dX11_named_43 ?_
    refine lv_if_ne (tgt := 53) hx hb dX11_named_46 (by decide) (fun c15 => ?_) (fun c15 => ?_)
    · skip
      have f16 : ((V13 6 9)).toInt ≠ 0 := b_neq rfl (by decide) c15
      refine lv_iconst (v := 0) hx hb dX11_named_53 (by decide) ?_
      refine lv_istore (lv' := [(5, .int 0), (3, .long w9), (2, .int 0), (0, .ref (ad 0)), (1, .int p0)]) hx hb dX11_named_54 hl (by decide) rfl (fun ls hl => ?_)
      refine lv_aload_n hx hb dX11_named_56 rfl (lv_at hl 3 rfl) ?_
      refine va_get (D := D) (ci := 11) (v := .ref (ad 6)) (fs := (xfHouse ad V13 L14 Z)) (C := RX11) (T := TX11) (N := 10) hx hb hg inX11 hown hK hP 0 xgHouse rfl 0 (by decide) (hg _ w715) (fun _ h9 => h9) rfl dX11_named_57 ?_
      refine gA_void (gA_runV (As := []) (rest := []) (ci := 9) (q0 := 6) hx hb hml hown hg hP hD hK hS hA hnw hgk (x_empty l D ks H.size ad kk V13 L14 Z  hMV13 ) w1019 w1020 w1021 w157 w1022 rfl xgTape hdV_yX9_empty ⟨Nat.le_of_ble_eq_true rfl, Nat.le_of_ble_eq_true rfl⟩ rfl hl.1 rfl (Nat.le_of_ble_eq_true rfl) dX11_named_60 ⟨Nat.le_of_ble_eq_true rfl, Nat.le_of_ble_eq_true rfl⟩) hP hD hK hS hA (fun u18 H locs w19 hP hD hK hS => ?_)
      obtain ⟨V21, L22⟩ := u18
      obtain ⟨hMV21, ajV21, axL22, t20⟩ := w19
      have axL22 : L14 = L22 := Eq.symm axL22
      subst axL22
      have hP : va_P D vwCl (xw ad kk V21 L14 Z) H := hP
      have hD : va_D A (xw ad kk V21 L14 Z) := hD
      have hMV21 : rgd bX V21 := hMV21
      have ajV21 : agr [(6, 5)] [] V13 V21 := ajV21
      have agV21 : agr [(6, 5), (6, 6), (6, 7), (6, 8), (6, 9), (6, 10)] [12, 13, 14] V V21 := agV13.tr ajV21 (by decide) (by decide)
      have t20 : (V21 6 5).toInt = 0 := t20
      have r23 : 0 ≤ ((V21 6 5)).toInt ∧ ((V21 6 5)).toInt ≤ 4000 := hMV21 6 5
      refine lv_iload_n hx hb dX11_named_63 rfl (lv_at hl 2 rfl) ?_
      refine lv_if_eq (tgt := 84) hx hb dX11_named_64 (by decide) (fun _ => ?_) (fun q => absurd (by decide) q)
      refine lv_iconst (v := (-1)) hx hb dX11_named_84 (by decide) ?_
      exact W.iret (v := (-1)) hx hb hr (fun t ht hW => ⟨⟨(-1), (V21, L14), rfl, ⟨hMV21, agV21, alL14, (show (V21 6 5).toInt = 0 from by (first | exact om_b66ba74381d5 t20 | omega))⟩, by rw [ht]; exact hP, va_K.moved hW.alike hK, hD⟩, hS.F ht⟩) hS.2.2 dX11_named_85
    · skip
      have f24 : ((V13 6 9)).toInt = 0 := b_eq rfl (by decide) c15
      refine lv_iconst (v := 1) hx hb dX11_named_49 (by decide) ?_
      refine lv_goto (tgt := 54) hx hb dX11_named_50 (by decide) ?_
      refine lv_istore (lv' := [(5, .int 1), (3, .long w9), (2, .int 0), (0, .ref (ad 0)), (1, .int p0)]) hx hb dX11_named_54 hl (by decide) rfl (fun ls hl => ?_)
      refine lv_aload_n hx hb dX11_named_56 rfl (lv_at hl 3 rfl) ?_
      refine va_get (D := D) (ci := 11) (v := .ref (ad 6)) (fs := (xfHouse ad V13 L14 Z)) (C := RX11) (T := TX11) (N := 10) hx hb hg inX11 hown hK hP 0 xgHouse rfl 0 (by decide) (hg _ w715) (fun _ h9 => h9) rfl dX11_named_57 ?_
      refine gA_void (gA_runV (As := []) (rest := []) (ci := 9) (q0 := 6) hx hb hml hown hg hP hD hK hS hA hnw hgk (x_empty l D ks H.size ad kk V13 L14 Z  hMV13 ) w1019 w1020 w1021 w157 w1022 rfl xgTape hdV_yX9_empty ⟨Nat.le_of_ble_eq_true rfl, Nat.le_of_ble_eq_true rfl⟩ rfl hl.1 rfl (Nat.le_of_ble_eq_true rfl) dX11_named_60 ⟨Nat.le_of_ble_eq_true rfl, Nat.le_of_ble_eq_true rfl⟩) hP hD hK hS hA (fun u26 H locs w27 hP hD hK hS => ?_)
      obtain ⟨V29, L30⟩ := u26
      obtain ⟨hMV29, ajV29, axL30, t28⟩ := w27
      have axL30 : L14 = L30 := Eq.symm axL30
      subst axL30
      have hP : va_P D vwCl (xw ad kk V29 L14 Z) H := hP
      have hD : va_D A (xw ad kk V29 L14 Z) := hD
      have hMV29 : rgd bX V29 := hMV29
      have ajV29 : agr [(6, 5)] [] V13 V29 := ajV29
      have agV29 : agr [(6, 5), (6, 6), (6, 7), (6, 8), (6, 9), (6, 10)] [12, 13, 14] V V29 := agV13.tr ajV29 (by decide) (by decide)
      have t28 : (V29 6 5).toInt = 0 := t28
      have r31 : 0 ≤ ((V29 6 5)).toInt ∧ ((V29 6 5)).toInt ≤ 4000 := hMV29 6 5
      refine lv_iload_n hx hb dX11_named_63 rfl (lv_at hl 2 rfl) ?_
      refine lv_if_eq (tgt := 84) hx hb dX11_named_64 (by decide) (fun _ => ?_) (fun q => absurd (by decide) q)
      refine lv_iconst (v := (-1)) hx hb dX11_named_84 (by decide) ?_
      exact W.iret (v := (-1)) hx hb hr (fun t ht hW => ⟨⟨(-1), (V29, L14), rfl, ⟨hMV29, agV29, alL14, (show (V29 6 5).toInt = 0 from by (first | exact om_b66ba74381d5 t28 | omega))⟩, by rw [ht]; exact hP, va_K.moved hW.alike hK, hD⟩, hS.F ht⟩) hS.2.2 dX11_named_85
  · skip
    have f32 : ((V5 6 9)).toInt = 3 := b_eq rfl (by decide) c7
    refine lv_iconst (v := 1) hx hb dX11_named_18 (by decide) ?_
    refine lv_goto (tgt := 23) hx hb dX11_named_19 (by decide) ?_
    refine lv_istore_n (lv' := [(2, .int 1), (0, .ref (ad 0)), (1, .int p0)]) hx hb dX11_named_23 rfl hl (by decide) rfl (fun ls hl => ?_)
    refine lv_aload_n hx hb dX11_named_24 rfl (lv_at hl 1 rfl) ?_
    refine va_get (D := D) (ci := 11) (v := .ref (ad 6)) (fs := (xfHouse ad V5 L6 Z)) (C := RX11) (T := TX11) (N := 10) hx hb hg inX11 hown hK hP 0 xgHouse rfl 0 (by decide) (hg _ w715) (fun _ h9 => h9) rfl dX11_named_25 ?_
    refine va_getN (D := D) (ci := 9) (v := .long (L6 6 11)) (fs := (xfTape ad V5 L6 Z)) (C := RX9) (T := TX9) (N := 12) hx hb hg inX9 hown hK hP 6 xgTape rfl 11 (by decide) (hnw.use 267 n267 rfl) (fun _ h9 => h9) rfl dX11_named_28 ?_
    refine lv_topl (fun w33 ew33 => ?_)
    refine lv_lstore_n (lv' := [(3, .long w33), (2, .int 1), (0, .ref (ad 0)), (1, .int p0)]) hx hb dX11_named_31 rfl hl (by decide) rfl (fun ls hl => ?_)
    refine lv_aload_n hx hb dX11_named_32 rfl (lv_at hl 2 rfl) ?_
    refine va_get (D := D) (ci := 11) (v := .ref (ad 6)) (fs := (xfHouse ad V5 L6 Z)) (C := RX11) (T := TX11) (N := 10) hx hb hg inX11 hown hK hP 0 xgHouse rfl 0 (by decide) (hg _ w715) (fun _ h9 => h9) rfl dX11_named_33 ?_
    refine gA_void (gA_runV (As := []) (rest := []) (ci := 9) (q0 := 6) hx hb hml hown hg hP hD hK hS hA hnw hgk (x_next l D ks H.size ad kk V5 L6 Z  hMV5 ) w1052 w852 w853 w157 w854 rfl xgTape hdV_yX9_next ⟨Nat.le_of_ble_eq_true rfl, Nat.le_of_ble_eq_true rfl⟩ rfl hl.1 rfl (Nat.le_of_ble_eq_true rfl) dX11_named_36 ⟨Nat.le_of_ble_eq_true rfl, Nat.le_of_ble_eq_true rfl⟩) hP hD hK hS hA (fun u35 H locs w36 hP hD hK hS => ?_)
    obtain ⟨V37, L38⟩ := u35
    obtain ⟨hMV37, ajV37, axL38⟩ := w36
    have alL38 : agL [6, 14] L L38 := agL.tr alL6 axL38 (by decide)
    have hP : va_P D vwCl (xw ad kk V37 L38 Z) H := hP
    have hD : va_D A (xw ad kk V37 L38 Z) := hD
    have hMV37 : rgd bX V37 := hMV37
    have ajV37 : agr [(6, 8), (6, 9), (6, 10)] [] V5 V37 := ajV37
    have agV37 : agr [(6, 5), (6, 6), (6, 7), (6, 8), (6, 9), (6, 10)] [12, 13, 14] V V37 := agV5.tr ajV37 (by decide) (by decide)
    refine lv_aload_n hx hb dX11_named_39 rfl (lv_at hl 2 rfl) ?_
    refine va_get (D := D) (ci := 11) (v := .ref (ad 6)) (fs := (xfHouse ad V37 L38 Z)) (C := RX11) (T := TX11) (N := 10) hx hb hg inX11 hown hK hP 0 xgHouse rfl 0 (by decide) (hg _ w715) (fun _ h9 => h9) rfl dX11_named_40 ?_
    refine va_getN (D := D) (ci := 9) (v := .int (V37 6 9)) (fs := (xfTape ad V37 L38 Z)) (C := RX9) (T := TX9) (N := 12) hx hb hg inX9 hown hK hP 6 xgTape rfl 9 (by decide) (hnw.use 263 n263 rfl) (fun _ h9 => h9) rfl dX11_named_43 ?_
    refine lv_if_ne (tgt := 53) hx hb dX11_named_46 (by decide) (fun c39 => ?_) (fun c39 => ?_)
    · skip
      have f40 : ((V37 6 9)).toInt ≠ 0 := b_neq rfl (by decide) c39
      refine lv_iconst (v := 0) hx hb dX11_named_53 (by decide) ?_
      refine lv_istore (lv' := [(5, .int 0), (3, .long w33), (2, .int 1), (0, .ref (ad 0)), (1, .int p0)]) hx hb dX11_named_54 hl (by decide) rfl (fun ls hl => ?_)
      refine lv_aload_n hx hb dX11_named_56 rfl (lv_at hl 3 rfl) ?_
      refine va_get (D := D) (ci := 11) (v := .ref (ad 6)) (fs := (xfHouse ad V37 L38 Z)) (C := RX11) (T := TX11) (N := 10) hx hb hg inX11 hown hK hP 0 xgHouse rfl 0 (by decide) (hg _ w715) (fun _ h9 => h9) rfl dX11_named_57 ?_
      refine gA_void (gA_runV (As := []) (rest := []) (ci := 9) (q0 := 6) hx hb hml hown hg hP hD hK hS hA hnw hgk (x_empty l D ks H.size ad kk V37 L38 Z  hMV37 ) w1019 w1020 w1021 w157 w1022 rfl xgTape hdV_yX9_empty ⟨Nat.le_of_ble_eq_true rfl, Nat.le_of_ble_eq_true rfl⟩ rfl hl.1 rfl (Nat.le_of_ble_eq_true rfl) dX11_named_60 ⟨Nat.le_of_ble_eq_true rfl, Nat.le_of_ble_eq_true rfl⟩) hP hD hK hS hA (fun u42 H locs w43 hP hD hK hS => ?_)
      obtain ⟨V45, L46⟩ := u42
      obtain ⟨hMV45, ajV45, axL46, t44⟩ := w43
      have axL46 : L38 = L46 := Eq.symm axL46
      subst axL46
      have hP : va_P D vwCl (xw ad kk V45 L38 Z) H := hP
      have hD : va_D A (xw ad kk V45 L38 Z) := hD
      have hMV45 : rgd bX V45 := hMV45
      have ajV45 : agr [(6, 5)] [] V37 V45 := ajV45
      have agV45 : agr [(6, 5), (6, 6), (6, 7), (6, 8), (6, 9), (6, 10)] [12, 13, 14] V V45 := agV37.tr ajV45 (by decide) (by decide)
      have t44 : (V45 6 5).toInt = 0 := t44
      have r47 : 0 ≤ ((V45 6 5)).toInt ∧ ((V45 6 5)).toInt ≤ 4000 := hMV45 6 5
      refine lv_iload_n hx hb dX11_named_63 rfl (lv_at hl 2 rfl) ?_
      refine lv_if_eq (tgt := 84) hx hb dX11_named_64 (by decide) (fun q => absurd q (by decide)) (fun _ => ?_)
      refine lv_iload hx hb dX11_named_67 (lv_at hl 0 rfl) ?_
      refine lv_if_eq (tgt := 84) hx hb dX11_named_69 (by decide) (fun _ => ?_) (fun q => absurd (by decide) q)
      refine lv_iconst (v := (-1)) hx hb dX11_named_84 (by decide) ?_
      exact W.iret (v := (-1)) hx hb hr (fun t ht hW => ⟨⟨(-1), (V45, L38), rfl, ⟨hMV45, agV45, alL38, (show (V45 6 5).toInt = 0 from by (first | exact om_b66ba74381d5 t44 | omega))⟩, by rw [ht]; exact hP, va_K.moved hW.alike hK, hD⟩, hS.F ht⟩) hS.2.2 dX11_named_85
    · skip
      have f48 : ((V37 6 9)).toInt = 0 := b_eq rfl (by decide) c39
      refine lv_iconst (v := 1) hx hb dX11_named_49 (by decide) ?_
      refine lv_goto (tgt := 54) hx hb dX11_named_50 (by decide) ?_
      refine lv_istore (lv' := [(5, .int 1), (3, .long w33), (2, .int 1), (0, .ref (ad 0)), (1, .int p0)]) hx hb dX11_named_54 hl (by decide) rfl (fun ls hl => ?_)
      refine lv_aload_n hx hb dX11_named_56 rfl (lv_at hl 3 rfl) ?_
      refine va_get (D := D) (ci := 11) (v := .ref (ad 6)) (fs := (xfHouse ad V37 L38 Z)) (C := RX11) (T := TX11) (N := 10) hx hb hg inX11 hown hK hP 0 xgHouse rfl 0 (by decide) (hg _ w715) (fun _ h9 => h9) rfl dX11_named_57 ?_
      refine gA_void (gA_runV (As := []) (rest := []) (ci := 9) (q0 := 6) hx hb hml hown hg hP hD hK hS hA hnw hgk (x_empty l D ks H.size ad kk V37 L38 Z  hMV37 ) w1019 w1020 w1021 w157 w1022 rfl xgTape hdV_yX9_empty ⟨Nat.le_of_ble_eq_true rfl, Nat.le_of_ble_eq_true rfl⟩ rfl hl.1 rfl (Nat.le_of_ble_eq_true rfl) dX11_named_60 ⟨Nat.le_of_ble_eq_true rfl, Nat.le_of_ble_eq_true rfl⟩) hP hD hK hS hA (fun u50 H locs w51 hP hD hK hS => ?_)
      obtain ⟨V53, L54⟩ := u50
      obtain ⟨hMV53, ajV53, axL54, t52⟩ := w51
      have axL54 : L38 = L54 := Eq.symm axL54
      subst axL54
      have hP : va_P D vwCl (xw ad kk V53 L38 Z) H := hP
      have hD : va_D A (xw ad kk V53 L38 Z) := hD
      have hMV53 : rgd bX V53 := hMV53
      have ajV53 : agr [(6, 5)] [] V37 V53 := ajV53
      have agV53 : agr [(6, 5), (6, 6), (6, 7), (6, 8), (6, 9), (6, 10)] [12, 13, 14] V V53 := agV37.tr ajV53 (by decide) (by decide)
      have t52 : (V53 6 5).toInt = 0 := t52
      have r55 : 0 ≤ ((V53 6 5)).toInt ∧ ((V53 6 5)).toInt ≤ 4000 := hMV53 6 5
      refine lv_iload_n hx hb dX11_named_63 rfl (lv_at hl 2 rfl) ?_
      refine lv_if_eq (tgt := 84) hx hb dX11_named_64 (by decide) (fun q => absurd q (by decide)) (fun _ => ?_)
      refine lv_iload hx hb dX11_named_67 (lv_at hl 0 rfl) ?_
      refine lv_if_eq (tgt := 84) hx hb dX11_named_69 (by decide) (fun q => absurd q (by decide)) (fun _ => ?_)
      refine lv_aload_n hx hb dX11_named_72 rfl (lv_at hl 3 rfl) ?_
      refine va_get (D := D) (ci := 11) (v := .ref (ad (38 + Int32.toNatClampNeg (V53 0 6)))) (fs := (xfHouse ad V53 L38 Z)) (C := RX11) (T := TX11) (N := 10) hx hb hg inX11 hown hK hP 0 xgHouse rfl 6 (by decide) (hg _ w721) (fun _ h9 => h9) rfl dX11_named_73 ?_
      have pq56 : (V53 0 6).toInt = ((V 0 6)).toInt := congrArg Int32.toInt ((ajV53 0 6 rfl).trans ((ajV37 0 6 rfl).trans (ajV5 0 6 rfl)))
      refine g_topv (v := .ref (ad (38 + b))) (rfP (by omega)) ?_
      refine lv_lload_n hx hb dX11_named_76 rfl (lv_at hl 1 rfl) ?_
      refine lv_iload_n hx hb dX11_named_77 rfl (lv_at hl 4 rfl) ?_
      refine gA_int (gA_runV (As := [.long w33, .int p0]) (rest := []) (ci := 0) (q0 := (38 + b)) hx hb hml hown hg hP hD hK hS hA hnw hgk (x_numberOf l D ks H.size ad kk V53 L38 Z w33 p0 (b) hMV53 (show b < 2 from by (first | exact om_f940a4667dd6 hb2 | omega))) w1053 w1054 w1055 w167 w1056 rfl (xgBook hb2) hdV_yX0_numberOf ⟨Nat.le_of_ble_eq_true rfl, Nat.le_of_ble_eq_true rfl⟩ rfl hl.1 rfl (Nat.le_of_ble_eq_true rfl) dX11_named_78 ⟨Nat.le_of_ble_eq_true rfl, Nat.le_of_ble_eq_true rfl⟩) hP hD hK hS hA (fun z57 u58 H locs w59 hP hD hK hS => ?_)
      refine lv_goto (tgt := 85) hx hb dX11_named_81 (by decide) ?_
      exact W.iret (v := z57) hx hb hr (fun t ht hW => ⟨⟨z57, (V53, L38), rfl, ⟨hMV53, agV53, alL38, (show (V53 6 5).toInt = 0 from by (first | exact om_b66ba74381d5 t52 | omega))⟩, by rw [ht]; exact hP, va_K.moved hW.alike hK, hD⟩, hS.F ht⟩) hS.2.2 dX11_named_85
abbrev r_x_L_component : Room := { frames := 20, cells := 1, slots := 6, locals := 300 }
abbrev q_x_L_component (D : va_G) (ad : Nat → Nat) (kk : Nat → ClassId) (V : Vf) (L : Lf) (Z : XZ) (ao : Nat) (ka : ClassId) (A : Nat → Prop) : Array Value → State → Outcome → State → Prop := va_Qi (fun (_ : Int32) (_ : Nat → Int64) => True) (fun u t => gq D A ((ao, .inl (ka, 1, .inr (.inl u))) :: xw ad kk V L Z) ((ka, .long) :: xty kk Z) t) A
set_option maxHeartbeats 4000000 in
set_option maxRecDepth 100000 in
theorem x_L_component (l : Launch) (hst : l.stackTraces = false) (D : va_G) (ks : KS) (kx : KX) (sz : Nat) (ad : Nat → Nat) (kk : Nat → ClassId) (V : Vf) (L : Lf) (Z : XZ) (p0 p1 : Int32) (b : Nat) (ao : Nat) (ka : ClassId) (f : Nat → Int64) (hMV : rgd bX V) (hb2 : b < 2) (shk : (V 0 6).toInt = (b : Int)) : Met l yL_component (Cond.codeWith yL_component cL_component 5 (some .int) [(0, 10, 13, 13)] :: GW) r_x_L_component (va_Pc [.ref (ad 0), .int p0, .int p1, .ref ao] (gpx D ks kx ((ao, .inl (ka, 1, .inr (.inl f))) :: xw ad kk V L Z) ((ka, .long) :: xty kk Z) sz)) (q_x_L_component D ad kk V L Z ao ka (va_A ((ao, .inl (ka, 1, .inr (.inl f))) :: xw ad kk V L Z) sz)) 1 6 (va_A ((ao, .inl (ka, 1, .inr (.inl f))) :: xw ad kk V L Z) sz) := by
  refine g_metW (q_x_L_component D ad kk V L Z ao ka) (by decide) (Nat.le_of_ble_eq_true rfl) ?_
  intro p e s m below meth c A ls H locs hx hb hr hml hown hg hlocks hnw hgk hgx hT hP hK hD hS hA hl
  have hown : s.vm.findClass RL = some m.cls := hown
  have hl : lv_has ls 5 [(0, .ref (ad 0)), (1, .int p0), (2, .int p1), (3, .ref ao)] := hl
  have hP : va_P D vwCl ((ao, .inl (ka, 1, .inr (.inl f))) :: xw ad kk V L Z) H := hP
  have hD : va_D A ((ao, .inl (ka, 1, .inr (.inl f))) :: xw ad kk V L Z) := hD
  have hK : va_K D vwCl ((ka, .long) :: xty kk Z) s := hK
  refine lv_aload_n hx hb dL_component_0 rfl (lv_at hl 3 rfl) ?_
  refine lv_iconst (v := 0) hx hb dL_component_1 (by decide) ?_
  refine lv_aload_n hx hb dL_component_2 rfl (lv_at hl 0 rfl) ?_
  refine lv_iload_n hx hb dL_component_3 rfl (lv_at hl 1 rfl) ?_
  refine lv_iload_n hx hb dL_component_4 rfl (lv_at hl 2 rfl) ?_
  have hPx := va_Ptl hP
  have hDx := va_Dtl hD
  have hKx : va_K D vwCl (xty kk Z) s := ⟨hK.1, fun k q h => hK.2 (k + 1) q (by rw [List.getElem?_cons_succ]; exact h)⟩
  have hF := gA_free hDx hS hA
  refine vx_calli (gA_runX (As := [.int p0, .int p1]) (rest := [.int 0, .ref ao]) (ci := 11) (q0 := 0) hx hb hml hown hg hPx hDx hKx hS hA hnw hgk hgx (x_h_component l hst D ks kx H.size ad kk V L Z p0 p1 b hMV hb2 shk) w1601 w1602 w1603 w156 w1604 rfl xgHouse hdV_yX11_component ⟨Nat.le_of_ble_eq_true rfl, Nat.le_of_ble_eq_true rfl⟩ rfl hl.1 rfl (Nat.le_of_ble_eq_true rfl) dL_component_5 ⟨Nat.le_of_ble_eq_true rfl, Nat.le_of_ble_eq_true rfl⟩) hS (fun q _ h => hF q h) hF (fun q _ h => hF q h) (fun E ce q9 u t H1 locs1 ht hvm hpx hBX hz hk1 hS hce hcv hcl => ?_) (fun r u t H1 locs1 ht hvm hw hB hz hk1 hS => ?_)
  · have hBX : E = nseN ∧ gq D (va_A (xw ad kk V L Z) H.size) (xw ad kk V L Z) (xty kk Z) t := hBX
    obtain ⟨hE, hP1, hK1, hD1⟩ := hBX
    subst hE
    rw [ht] at hP1
    have hP : va_P D vwCl ((ao, .inl (ka, 1, .inr (.inl f))) :: xw ad kk V L Z) H1 := va_Pcn (va_side (va_Phd hP) (dj_hd hD).sy hk1) hP1
    refine vx_catch hown [] { startPc := 0, endPc := 10, handlerPc := 13, catchType := 13 } [] hT (fun z hz => by cases hz) (by decide) (by decide) (hg _ w1600) (va_Nw.use rfl (hgx.2.2 _ (by decide))) hce hcv hcl ?_
    refine lv_astore (lv' := (4, .ref q9) :: [(0, .ref (ad 0)), (1, .int p0), (2, .int p1), (3, .ref ao)]) hx hb dL_component_13 hl (by decide) rfl (fun ls hl => ?_)
    refine lv_iconst (v := 1) hx hb dL_component_15 (by decide) ?_
    refine W.widen (k := 1) (n := 6) (Nat.le_of_ble_eq_true rfl) (Nat.le_of_ble_eq_true rfl) ?_
    exact W.iret (v := 1) hx hb hr (fun t ht hW => ⟨⟨1, f, rfl, trivial, by rw [ht]; exact hP, va_K.moved hW.alike hK, hD⟩, hS.F ht⟩) hS.2.2 dL_component_16
  · obtain ⟨hP1, hK1, hD1⟩ := hB
    rw [ht] at hP1
    have hP : va_P D vwCl ((ao, .inl (ka, 1, .inr (.inl f))) :: xw ad kk V L Z) H1 := va_Pcn (va_side (va_Phd hP) (dj_hd hD).sy hk1) hP1
    refine lv_i2l hx hb dL_component_8 rfl ?_
    refine va_last (D := D) (i := 0) hx hb hK hP hD hS 0 0 rfl rfl (i_in (a := 0) (by decide) (by decide)) dL_component_9 (fun H locs hP hD hS => ?_)
    have hP : va_P D vwCl ((ao, .inl (ka, 1, .inr (.inl (vp_updL f (Int32.toNatClampNeg 0) r.toInt64)))) :: xw ad kk V L Z) H := hP
    have hD : va_D A ((ao, .inl (ka, 1, .inr (.inl (vp_updL f (Int32.toNatClampNeg 0) r.toInt64)))) :: xw ad kk V L Z) := hD
    refine lv_goto (tgt := 17) hx hb dL_component_10 (by decide) ?_
    refine lv_iconst (v := 0) hx hb dL_component_17 (by decide) ?_
    refine W.widen (k := 1) (n := 6) (Nat.le_of_ble_eq_true rfl) (Nat.le_of_ble_eq_true rfl) ?_
    exact W.iret (v := 0) hx hb hr (fun t ht hW => ⟨⟨0, vp_updL f (Int32.toNatClampNeg 0) r.toInt64, rfl, trivial, by rw [ht]; exact hP, va_K.moved hW.alike hK, hD⟩, hS.F ht⟩) hS.2.2 dL_component_18
abbrev r_x_L_object : Room := { frames := 20, cells := 1, slots := 6, locals := 300 }
abbrev q_x_L_object (D : va_G) (ad : Nat → Nat) (kk : Nat → ClassId) (V : Vf) (L : Lf) (Z : XZ) (ao : Nat) (ka : ClassId) (A : Nat → Prop) : Array Value → State → Outcome → State → Prop := va_Qi (fun (_ : Int32) (_ : Nat → Int64) => True) (fun u t => gq D A ((ao, .inl (ka, 1, .inr (.inl u))) :: xw ad kk V L Z) ((ka, .long) :: xty kk Z) t) A
set_option maxHeartbeats 4000000 in
set_option maxRecDepth 100000 in
theorem x_L_object (l : Launch) (hst : l.stackTraces = false) (D : va_G) (ks : KS) (kx : KX) (sz : Nat) (ad : Nat → Nat) (kk : Nat → ClassId) (V : Vf) (L : Lf) (Z : XZ) (p0 p1 : Int32)  (ao : Nat) (ka : ClassId) (f : Nat → Int64) (hMV : rgd bX V)  : Met l yL_object (Cond.codeWith yL_object cL_object 5 (some .int) [(0, 10, 13, 13)] :: GW) r_x_L_object (va_Pc [.ref (ad 0), .int p0, .int p1, .ref ao] (gpx D ks kx ((ao, .inl (ka, 1, .inr (.inl f))) :: xw ad kk V L Z) ((ka, .long) :: xty kk Z) sz)) (q_x_L_object D ad kk V L Z ao ka (va_A ((ao, .inl (ka, 1, .inr (.inl f))) :: xw ad kk V L Z) sz)) 1 6 (va_A ((ao, .inl (ka, 1, .inr (.inl f))) :: xw ad kk V L Z) sz) := by
  refine g_metW (q_x_L_object D ad kk V L Z ao ka) (by decide) (Nat.le_of_ble_eq_true rfl) ?_
  intro p e s m below meth c A ls H locs hx hb hr hml hown hg hlocks hnw hgk hgx hT hP hK hD hS hA hl
  have hown : s.vm.findClass RL = some m.cls := hown
  have hl : lv_has ls 5 [(0, .ref (ad 0)), (1, .int p0), (2, .int p1), (3, .ref ao)] := hl
  have hP : va_P D vwCl ((ao, .inl (ka, 1, .inr (.inl f))) :: xw ad kk V L Z) H := hP
  have hD : va_D A ((ao, .inl (ka, 1, .inr (.inl f))) :: xw ad kk V L Z) := hD
  have hK : va_K D vwCl ((ka, .long) :: xty kk Z) s := hK
  refine lv_aload_n hx hb dL_object_0 rfl (lv_at hl 3 rfl) ?_
  refine lv_iconst (v := 0) hx hb dL_object_1 (by decide) ?_
  refine lv_aload_n hx hb dL_object_2 rfl (lv_at hl 0 rfl) ?_
  refine lv_iload_n hx hb dL_object_3 rfl (lv_at hl 1 rfl) ?_
  refine lv_iload_n hx hb dL_object_4 rfl (lv_at hl 2 rfl) ?_
  have hPx := va_Ptl hP
  have hDx := va_Dtl hD
  have hKx : va_K D vwCl (xty kk Z) s := ⟨hK.1, fun k q h => hK.2 (k + 1) q (by rw [List.getElem?_cons_succ]; exact h)⟩
  have hF := gA_free hDx hS hA
  refine vx_calli (gA_runX (As := [.int p0, .int p1]) (rest := [.int 0, .ref ao]) (ci := 11) (q0 := 0) hx hb hml hown hg hPx hDx hKx hS hA hnw hgk hgx (x_h_object l hst D ks kx H.size ad kk V L Z p0 p1  hMV ) w1674 w1675 w1676 w156 w1677 rfl xgHouse hdV_yX11_object ⟨Nat.le_of_ble_eq_true rfl, Nat.le_of_ble_eq_true rfl⟩ rfl hl.1 rfl (Nat.le_of_ble_eq_true rfl) dL_object_5 ⟨Nat.le_of_ble_eq_true rfl, Nat.le_of_ble_eq_true rfl⟩) hS (fun q _ h => hF q h) hF (fun q _ h => hF q h) (fun E ce q9 u t H1 locs1 ht hvm hpx hBX hz hk1 hS hce hcv hcl => ?_) (fun r u t H1 locs1 ht hvm hw hB hz hk1 hS => ?_)
  · have hBX : E = nseN ∧ gq D (va_A (xw ad kk V L Z) H.size) (xw ad kk V L Z) (xty kk Z) t := hBX
    obtain ⟨hE, hP1, hK1, hD1⟩ := hBX
    subst hE
    rw [ht] at hP1
    have hP : va_P D vwCl ((ao, .inl (ka, 1, .inr (.inl f))) :: xw ad kk V L Z) H1 := va_Pcn (va_side (va_Phd hP) (dj_hd hD).sy hk1) hP1
    refine vx_catch hown [] { startPc := 0, endPc := 10, handlerPc := 13, catchType := 13 } [] hT (fun z hz => by cases hz) (by decide) (by decide) (hg _ w1600) (va_Nw.use rfl (hgx.2.2 _ (by decide))) hce hcv hcl ?_
    refine lv_astore (lv' := (4, .ref q9) :: [(0, .ref (ad 0)), (1, .int p0), (2, .int p1), (3, .ref ao)]) hx hb dL_object_13 hl (by decide) rfl (fun ls hl => ?_)
    refine lv_iconst (v := 1) hx hb dL_object_15 (by decide) ?_
    refine W.widen (k := 1) (n := 6) (Nat.le_of_ble_eq_true rfl) (Nat.le_of_ble_eq_true rfl) ?_
    exact W.iret (v := 1) hx hb hr (fun t ht hW => ⟨⟨1, f, rfl, trivial, by rw [ht]; exact hP, va_K.moved hW.alike hK, hD⟩, hS.F ht⟩) hS.2.2 dL_object_16
  · obtain ⟨hP1, hK1, hD1⟩ := hB
    rw [ht] at hP1
    have hP : va_P D vwCl ((ao, .inl (ka, 1, .inr (.inl f))) :: xw ad kk V L Z) H1 := va_Pcn (va_side (va_Phd hP) (dj_hd hD).sy hk1) hP1
    refine lv_i2l hx hb dL_object_8 rfl ?_
    refine va_last (D := D) (i := 0) hx hb hK hP hD hS 0 0 rfl rfl (i_in (a := 0) (by decide) (by decide)) dL_object_9 (fun H locs hP hD hS => ?_)
    have hP : va_P D vwCl ((ao, .inl (ka, 1, .inr (.inl (vp_updL f (Int32.toNatClampNeg 0) r.toInt64)))) :: xw ad kk V L Z) H := hP
    have hD : va_D A ((ao, .inl (ka, 1, .inr (.inl (vp_updL f (Int32.toNatClampNeg 0) r.toInt64)))) :: xw ad kk V L Z) := hD
    refine lv_goto (tgt := 17) hx hb dL_object_10 (by decide) ?_
    refine lv_iconst (v := 0) hx hb dL_object_17 (by decide) ?_
    refine W.widen (k := 1) (n := 6) (Nat.le_of_ble_eq_true rfl) (Nat.le_of_ble_eq_true rfl) ?_
    exact W.iret (v := 0) hx hb hr (fun t ht hW => ⟨⟨0, vp_updL f (Int32.toNatClampNeg 0) r.toInt64, rfl, trivial, by rw [ht]; exact hP, va_K.moved hW.alike hK, hD⟩, hS.F ht⟩) hS.2.2 dL_object_18
