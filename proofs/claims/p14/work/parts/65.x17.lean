/-! calls that make cells: what they leave says by how much the heap has grown -/
section GZ
variable {p : Program} {l : Launch} {e : Env} {R : Room} {s : State} {m : MethodId} {args : Array Value} {below : List Frame} {meth : Method} {c : Code} {H : Heap} {locs : List Loc} {cells slots : Nat} {Q : State → Prop}
variable {pc : Nat} {ls : Array Slot} {st0 rest : List Value} {D : va_G} {A : Nat → Prop} {ws : va_W}
def qZv {S : Type} (D : va_G) (post : S → Prop) (wq : S → va_W) (tq : S → List (ClassId × FieldType)) (zc zs : S → Nat) (A : Nat → Prop) : Array Value → State → Outcome → State → Prop := fun _ st oc t => (∃ u : S, oc = .returned none ∧ post u ∧ gq D A (wq u) (tq u) t ∧ t.heap.size ≤ st.heap.size + zc u ∧ tot t.heap ≤ tot st.heap + zs u) ∧ va_F A st t
def qZi {S : Type} (D : va_G) (post : Int32 → S → Prop) (wq : S → va_W) (tq : S → List (ClassId × FieldType)) (zc zs : S → Nat) (A : Nat → Prop) : Array Value → State → Outcome → State → Prop := fun _ st oc t => (∃ (r : Int32) (u : S), oc = .returned (some (.int r)) ∧ post r u ∧ gq D A (wq u) (tq u) t ∧ t.heap.size ≤ st.heap.size + zc u ∧ tot t.heap ≤ tot st.heap + zs u) ∧ va_F A st t
def qZr {S : Type} (D : va_G) (post : S → Prop) (ra : S → Nat) (wq : S → va_W) (tq : S → List (ClassId × FieldType)) (zc zs : S → Nat) (A : Nat → Prop) : Array Value → State → Outcome → State → Prop := fun _ st oc t => (∃ u : S, oc = .returned (some (.ref (ra u))) ∧ post u ∧ gq D A (wq u) (tq u) t ∧ t.heap.size ≤ st.heap.size + zc u ∧ tot t.heap ≤ tot st.heap + zs u) ∧ va_F A st t
theorem gZ_void {S : Type} {post : S → Prop} {wq : S → va_W} {tq : S → List (ClassId × FieldType)} {zc zs : S → Nat} {mc ms : Nat} {av : Array Value} (hr : va_Run p l e R s m args below meth c H locs cells slots mc ms (F0 m pc ls st0) rest (qZv D post wq tq zc zs (va_A ws H.size) av) (va_A ws H.size))
    (hD : va_D A ws) (hS : va_S A s.heap H locs) (hA : ∀ q, s.heap.size ≤ q → A q)
    (kk : ∀ (u : S) (H1 : Heap) (locs1 : List Loc), post u → va_P D vwCl (wq u) H1 → va_D A (wq u) → va_K D vwCl (tq u) s → va_S A s.heap H1 locs1 → H1.size ≤ H.size + zc u → tot H1 ≤ tot H + zs u → W p l e R s m args below meth c H1 locs1 (cells + mc) (slots + ms) Q (F0 m (pc + 3) ls rest)) : W p l e R s m args below meth c H locs cells slots Q (F0 m pc ls st0) := by
  have hF := gA_free hD hS hA
  intro T hT X
  obtain ⟨v, st₀, t, T', L, h0, X', hL, e1, e2, ⟨⟨u, hv, hp, hb, y1, y2⟩, hz, hk⟩, st⟩ := hr T hT X
  cases hv
  rw [h0] at hz hk y1 y2
  obtain ⟨hP1, hK1, hD1⟩ := hb
  have hvm : s.vm.Alike t.vm := by rw [← e2]; exact X'.warmed.alike
  obtain ⟨t2, a1, b1⟩ := kk u T'.heap (locs ++ L) hp (by rw [e1]; exact hP1) (hD1.weaken (fun _ _ _ h => hF _ h)) (va_K.moved hvm.symm hK1)
    ⟨Nat.le_trans hS.1 (by rw [e1]; exact hz), fun q h1 h2 => by rw [e1, hk q (Nat.lt_of_lt_of_le h1 hS.1) (fun z => h2 (hF q z))]; exact hS.2.1 q h1 h2, fun q hq => by
      rcases List.mem_append.mp hq with h | h
      · exact hS.2.2 q h
      · exact hF _ (hL q h)⟩ (by rw [e1]; exact y1) (by rw [e1]; exact y2) T' rfl X'
  exact ⟨t2, st t2 a1, b1⟩
theorem gZ_int {S : Type} {post : Int32 → S → Prop} {wq : S → va_W} {tq : S → List (ClassId × FieldType)} {zc zs : S → Nat} {mc ms : Nat} {av : Array Value} (hr : va_Run p l e R s m args below meth c H locs cells slots mc ms (F0 m pc ls st0) rest (qZi D post wq tq zc zs (va_A ws H.size) av) (va_A ws H.size))
    (hD : va_D A ws) (hS : va_S A s.heap H locs) (hA : ∀ q, s.heap.size ≤ q → A q)
    (kk : ∀ (r : Int32) (u : S) (H1 : Heap) (locs1 : List Loc), post r u → va_P D vwCl (wq u) H1 → va_D A (wq u) → va_K D vwCl (tq u) s → va_S A s.heap H1 locs1 → H1.size ≤ H.size + zc u → tot H1 ≤ tot H + zs u → W p l e R s m args below meth c H1 locs1 (cells + mc) (slots + ms) Q (F0 m (pc + 3) ls (.int r :: rest))) : W p l e R s m args below meth c H locs cells slots Q (F0 m pc ls st0) := by
  have hF := gA_free hD hS hA
  intro T hT X
  obtain ⟨v, st₀, t, T', L, h0, X', hL, e1, e2, ⟨⟨r, u, hv, hp, hb, y1, y2⟩, hz, hk⟩, st⟩ := hr T hT X
  cases hv
  rw [h0] at hz hk y1 y2
  obtain ⟨hP1, hK1, hD1⟩ := hb
  have hvm : s.vm.Alike t.vm := by rw [← e2]; exact X'.warmed.alike
  obtain ⟨t2, a1, b1⟩ := kk r u T'.heap (locs ++ L) hp (by rw [e1]; exact hP1) (hD1.weaken (fun _ _ _ h => hF _ h)) (va_K.moved hvm.symm hK1)
    ⟨Nat.le_trans hS.1 (by rw [e1]; exact hz), fun q h1 h2 => by rw [e1, hk q (Nat.lt_of_lt_of_le h1 hS.1) (fun z => h2 (hF q z))]; exact hS.2.1 q h1 h2, fun q hq => by
      rcases List.mem_append.mp hq with h | h
      · exact hS.2.2 q h
      · exact hF _ (hL q h)⟩ (by rw [e1]; exact y1) (by rw [e1]; exact y2) T' rfl X'
  exact ⟨t2, st t2 a1, b1⟩
theorem gZ_ref {S : Type} {post : S → Prop} {ra : S → Nat} {wq : S → va_W} {tq : S → List (ClassId × FieldType)} {zc zs : S → Nat} {mc ms : Nat} {av : Array Value} (hr : va_Run p l e R s m args below meth c H locs cells slots mc ms (F0 m pc ls st0) rest (qZr D post ra wq tq zc zs (va_A ws H.size) av) (va_A ws H.size))
    (hD : va_D A ws) (hS : va_S A s.heap H locs) (hA : ∀ q, s.heap.size ≤ q → A q)
    (kk : ∀ (u : S) (H1 : Heap) (locs1 : List Loc), post u → va_P D vwCl (wq u) H1 → va_D A (wq u) → va_K D vwCl (tq u) s → va_S A s.heap H1 locs1 → H1.size ≤ H.size + zc u → tot H1 ≤ tot H + zs u → W p l e R s m args below meth c H1 locs1 (cells + mc) (slots + ms) Q (F0 m (pc + 3) ls (.ref (ra u) :: rest))) : W p l e R s m args below meth c H locs cells slots Q (F0 m pc ls st0) := by
  have hF := gA_free hD hS hA
  intro T hT X
  obtain ⟨v, st₀, t, T', L, h0, X', hL, e1, e2, ⟨⟨u, hv, hp, hb, y1, y2⟩, hz, hk⟩, st⟩ := hr T hT X
  cases hv
  rw [h0] at hz hk y1 y2
  obtain ⟨hP1, hK1, hD1⟩ := hb
  have hvm : s.vm.Alike t.vm := by rw [← e2]; exact X'.warmed.alike
  obtain ⟨t2, a1, b1⟩ := kk u T'.heap (locs ++ L) hp (by rw [e1]; exact hP1) (hD1.weaken (fun _ _ _ h => hF _ h)) (va_K.moved hvm.symm hK1)
    ⟨Nat.le_trans hS.1 (by rw [e1]; exact hz), fun q h1 h2 => by rw [e1, hk q (Nat.lt_of_lt_of_le h1 hS.1) (fun z => h2 (hF q z))]; exact hS.2.1 q h1 h2, fun q hq => by
      rcases List.mem_append.mp hq with h | h
      · exact hS.2.2 q h
      · exact hF _ (hL q h)⟩ (by rw [e1]; exact y1) (by rw [e1]; exact y2) T' rfl X'
  exact ⟨t2, st t2 a1, b1⟩
end GZ
theorem more_fa {Z : XZ} {q i : Nat} (h : ¬ i = Z.nf) : (Z.more q).fa i = Z.fa i := if_neg h
theorem xb_frz {ad : Nat → Nat} {kk : Nat → ClassId} {V : Vf} {L : Lf} {Z : XZ} {q : Nat} {j : Nat} (h : j < 298 + Z.nf) : xb ad kk (frz V Z.nf) L (Z.more q) j = xb ad kk V L Z j := by
  unfold xb
  by_cases h0 : j < 2
  · rw [if_pos h0, if_pos h0]
    show xeBook ad kk (frz V Z.nf) L (Z.more q) _ = xeBook ad kk V L Z _
    unfold xeBook xfBook
    rw [frz_lo (V := V) (n := Z.nf) (c := 41) (by decide), frz_lo (V := V) (n := Z.nf) (c := 42) (by decide)]
  rw [if_neg h0, if_neg h0]
  by_cases h2 : j < 12
  · rw [if_pos h2, if_pos h2]
    show xeNames ad kk (frz V Z.nf) L (Z.more q) _ = xeNames ad kk V L Z _
    unfold xeNames xfNames
    rw [frz_lo (V := V) (n := Z.nf) (c := 43) (by decide)]
  rw [if_neg h2, if_neg h2]
  by_cases h12 : j < 22
  · rw [if_pos h12, if_pos h12]
    rfl
  rw [if_neg h12, if_neg h12]
  by_cases h22 : j < 24
  · rw [if_pos h22, if_pos h22]
    show xetypeUnder ad kk (frz V Z.nf) L (Z.more q) _ = xetypeUnder ad kk V L Z _
    unfold xetypeUnder
    rw [frz_lo (V := V) (n := Z.nf) (c := 45) (by decide)]
  rw [if_neg h22, if_neg h22]
  by_cases h24 : j < 26
  · rw [if_pos h24, if_pos h24]
    show xesettingValues ad kk (frz V Z.nf) L (Z.more q) _ = xesettingValues ad kk V L Z _
    unfold xesettingValues
    rw [frz_lo (V := V) (n := Z.nf) (c := 46) (by decide)]
  rw [if_neg h24, if_neg h24]
  by_cases h26 : j < 28
  · rw [if_pos h26, if_pos h26]
    rfl
  rw [if_neg h26, if_neg h26]
  by_cases h28 : j < 30
  · rw [if_pos h28, if_pos h28]
    rfl
  rw [if_neg h28, if_neg h28]
  by_cases h30 : j < 32
  · rw [if_pos h30, if_pos h30]
    show xewrapOrder ad kk (frz V Z.nf) L (Z.more q) _ = xewrapOrder ad kk V L Z _
    unfold xewrapOrder
    rw [frz_lo (V := V) (n := Z.nf) (c := 47) (by decide)]
  rw [if_neg h30, if_neg h30]
  by_cases h32 : j < 34
  · rw [if_pos h32, if_pos h32]
    show xecode ad kk (frz V Z.nf) L (Z.more q) _ = xecode ad kk V L Z _
    unfold xecode
    rw [frz_lo (V := V) (n := Z.nf) (c := 48) (by decide)]
  rw [if_neg h32, if_neg h32]
  by_cases h34 : j < 82
  · rw [if_pos h34, if_pos h34]
    show xeComp ad kk (frz V Z.nf) L (Z.more q) _ = xeComp ad kk V L Z _
    unfold xeComp xfComp
    rw [frz_lo (V := V) (n := Z.nf) (c := 49) (by decide), frz_lo (V := V) (n := Z.nf) (c := 50) (by decide), frz_lo (V := V) (n := Z.nf) (c := 51) (by decide), frz_lo (V := V) (n := Z.nf) (c := 52) (by decide), frz_lo (V := V) (n := Z.nf) (c := 53) (by decide), frz_lo (V := V) (n := Z.nf) (c := 54) (by decide), frz_lo (V := V) (n := Z.nf) (c := 55) (by decide), frz_lo (V := V) (n := Z.nf) (c := 56) (by decide), frz_lo (V := V) (n := Z.nf) (c := 57) (by decide)]
  rw [if_neg h34, if_neg h34]
  by_cases h82 : j < 130
  · rw [if_pos h82, if_pos h82]
    show xeneedTypes ad kk (frz V Z.nf) L (Z.more q) _ = xeneedTypes ad kk V L Z _
    unfold xeneedTypes
    rw [frz_lo (V := V) (n := Z.nf) (c := 58) (by decide)]
  rw [if_neg h82, if_neg h82]
  by_cases h130 : j < 178
  · rw [if_pos h130, if_pos h130]
    show xeneedWords ad kk (frz V Z.nf) L (Z.more q) _ = xeneedWords ad kk V L Z _
    unfold xeneedWords
    rw [frz_lo (V := V) (n := Z.nf) (c := 59) (by decide)]
  rw [if_neg h130, if_neg h130]
  by_cases h178 : j < 226
  · rw [if_pos h178, if_pos h178]
    show xeneedKinds ad kk (frz V Z.nf) L (Z.more q) _ = xeneedKinds ad kk V L Z _
    unfold xeneedKinds
    rw [frz_lo (V := V) (n := Z.nf) (c := 60) (by decide)]
  rw [if_neg h178, if_neg h178]
  by_cases h226 : j < 274
  · rw [if_pos h226, if_pos h226]
    show xemethodStarts ad kk (frz V Z.nf) L (Z.more q) _ = xemethodStarts ad kk V L Z _
    unfold xemethodStarts
    rw [frz_lo (V := V) (n := Z.nf) (c := 61) (by decide)]
  rw [if_neg h226, if_neg h226]
  by_cases h274 : j < 298
  · rw [if_pos h274, if_pos h274]
    show xeWrap ad kk (frz V Z.nf) L (Z.more q) _ = xeWrap ad kk V L Z _
    unfold xeWrap xfWrap
    rw [frz_lo (V := V) (n := Z.nf) (c := 62) (by decide), frz_lo (V := V) (n := Z.nf) (c := 63) (by decide), frz_lo (V := V) (n := Z.nf) (c := 64) (by decide), frz_lo (V := V) (n := Z.nf) (c := 65) (by decide), frz_lo (V := V) (n := Z.nf) (c := 66) (by decide)]
  rw [if_neg h274, if_neg h274]
  show xeFrame ad kk (frz V Z.nf) L (Z.more q) _ = xeFrame ad kk V L Z _
  unfold xeFrame xfFrame
  have e : ∀ c, frz V Z.nf c (j - 298) = V c (j - 298) := fun c => frz_k (by omega)
  have hne : ¬ (j - 298 = Z.nf) := by omega
  have ef : (Z.more q).fa (j - 298) = Z.fa (j - 298) := more_fa hne
  rw [ef, e 67, e 68, e 69, e 70, e 71, e 72, e 73, e 74, e 75, e 76, e 77, e 78, e 79, e 80, e 81, e 82, e 83, e 84, e 85]
theorem xs_frz {ad : Nat → Nat} {kk : Nat → ClassId} {V : Vf} {L : Lf} {Z : XZ} {q : Nat} : xs ad kk (frz V Z.nf) L (Z.more q) = (xs ad kk V L Z).set 35 (ad 35, .inl (kk 35, 400, .inr (.inr (.inr (.inr (va_up (fun j => if j < Z.nf then some (Z.fa j) else none) Z.nf (some q))))))) := by
  have ef : (fun j => if j < (Z.more q).nf then some ((Z.more q).fa j) else none) = va_up (fun j => if j < Z.nf then some (Z.fa j) else none) Z.nf (some q) := by
    funext j
    show (if j < Z.nf + 1 then some (if j = Z.nf then q else Z.fa j) else none) = if j = Z.nf then some q else if j < Z.nf then some (Z.fa j) else none
    by_cases h : j = Z.nf
    · rw [if_pos h, if_pos (by omega), if_pos h]
    · rw [if_neg h]
      by_cases h2 : j < Z.nf
      · rw [if_pos h2, if_pos (by omega), if_neg h]
      · have h3 : ¬ (j < Z.nf + 1) := by omega
        rw [if_neg h2, if_neg h3, if_neg h]
  unfold xs xfHouse xfReader xfChecker xfStock xfNotes xfMachine xfTape
  rw [frz_lo (V := V) (n := Z.nf) (c := 0) (by decide), frz_lo (V := V) (n := Z.nf) (c := 1) (by decide), frz_lo (V := V) (n := Z.nf) (c := 2) (by decide), frz_lo (V := V) (n := Z.nf) (c := 3) (by decide), frz_lo (V := V) (n := Z.nf) (c := 4) (by decide), frz_lo (V := V) (n := Z.nf) (c := 5) (by decide), frz_lo (V := V) (n := Z.nf) (c := 6) (by decide), frz_lo (V := V) (n := Z.nf) (c := 10) (by decide), frz_lo (V := V) (n := Z.nf) (c := 12) (by decide), frz_lo (V := V) (n := Z.nf) (c := 13) (by decide), frz_lo (V := V) (n := Z.nf) (c := 15) (by decide), frz_lo (V := V) (n := Z.nf) (c := 16) (by decide), frz_lo (V := V) (n := Z.nf) (c := 17) (by decide), frz_lo (V := V) (n := Z.nf) (c := 18) (by decide), frz_lo (V := V) (n := Z.nf) (c := 19) (by decide), frz_lo (V := V) (n := Z.nf) (c := 20) (by decide), frz_lo (V := V) (n := Z.nf) (c := 21) (by decide), frz_lo (V := V) (n := Z.nf) (c := 22) (by decide), frz_lo (V := V) (n := Z.nf) (c := 23) (by decide), frz_lo (V := V) (n := Z.nf) (c := 24) (by decide), frz_lo (V := V) (n := Z.nf) (c := 25) (by decide), frz_lo (V := V) (n := Z.nf) (c := 26) (by decide), frz_lo (V := V) (n := Z.nf) (c := 27) (by decide), frz_lo (V := V) (n := Z.nf) (c := 28) (by decide), frz_lo (V := V) (n := Z.nf) (c := 29) (by decide), frz_lo (V := V) (n := Z.nf) (c := 30) (by decide), frz_lo (V := V) (n := Z.nf) (c := 31) (by decide), frz_lo (V := V) (n := Z.nf) (c := 32) (by decide), frz_lo (V := V) (n := Z.nf) (c := 33) (by decide), frz_lo (V := V) (n := Z.nf) (c := 34) (by decide), frz_lo (V := V) (n := Z.nf) (c := 35) (by decide), frz_lo (V := V) (n := Z.nf) (c := 36) (by decide), frz_lo (V := V) (n := Z.nf) (c := 37) (by decide), frz_lo (V := V) (n := Z.nf) (c := 39) (by decide), frz_lo (V := V) (n := Z.nf) (c := 40) (by decide), ef]
  rfl
theorem xw_frz {ad : Nat → Nat} {kk : Nat → ClassId} {V : Vf} {L : Lf} {Z : XZ} {q : Nat} : (xw ad kk V L Z ++ ([(q, Sum.inr (4, xfFrame (frz V Z.nf) Z.nf))] : va_W)).set 35 (ad 35, .inl (kk 35, 400, .inr (.inr (.inr (.inr (va_up (fun j => if j < Z.nf then some (Z.fa j) else none) Z.nf (some q))))))) = xw ad kk (frz V Z.nf) L (Z.more q) := by
  unfold xw
  rw [show 298 + (Z.more q).nf = (298 + Z.nf) + 1 from rfl, List.range_succ, List.map_append, List.append_assoc, List.set_append_left _ _ (show 35 < (xs ad kk V L Z).length from by show 35 < 38; omega), xs_frz]
  have e1 : (List.range (298 + Z.nf)).map (xb ad kk (frz V Z.nf) L (Z.more q)) = (List.range (298 + Z.nf)).map (xb ad kk V L Z) := List.map_congr_left (fun j hj => xb_frz (List.mem_range.mp hj))
  have e2 : xb ad kk (frz V Z.nf) L (Z.more q) (298 + Z.nf) = (q, Sum.inr (4, xfFrame (frz V Z.nf) Z.nf)) := by
    rw [xjFrame (Z := Z.more q) (show Z.nf < (Z.more q).nf from Nat.lt_succ_self _)]
    unfold xeFrame
    rw [show (Z.more q).fa Z.nf = q from if_pos rfl]
  rw [e1, List.map_cons, List.map_nil, e2]
/-! how much may still be made -/
def zcc (Z : XZ) : Nat := (400 - Z.nf) + (262144 - Z.ln) / 256
def zss (Z : XZ) : Nat := 19 * (400 - Z.nf) + 4 * (262144 - Z.ln)
def ZL (Z Z' : XZ) : Prop := zcc Z' ≤ zcc Z ∧ zss Z' ≤ zss Z ∧ Z.nf ≤ Z'.nf ∧ Z.ln ≤ Z'.ln ∧ ∀ i, i < Z.nf → Z'.fa i = Z.fa i
theorem ZL.rf {Z : XZ} : ZL Z Z := ⟨Nat.le_refl _, Nat.le_refl _, Nat.le_refl _, Nat.le_refl _, fun _ _ => rfl⟩
theorem ZL.tr {Z Z' Y : XZ} (h : ZL Z Z') (k : ZL Z' Y) : ZL Z Y := ⟨Nat.le_trans k.1 h.1, Nat.le_trans k.2.1 h.2.1, Nat.le_trans h.2.2.1 k.2.2.1, Nat.le_trans h.2.2.2.1 k.2.2.2.1, fun i hi => (k.2.2.2.2 i (Nat.lt_of_lt_of_le hi h.2.2.1)).trans (h.2.2.2.2 i hi)⟩
theorem zc_more {Z : XZ} (h : Z.nf < 400) (q : Nat) : zcc (Z.more q) + 1 = zcc Z ∧ zss (Z.more q) + 19 = zss Z := by
  unfold zcc zss
  have e1 : (Z.more q).nf = Z.nf + 1 := rfl
  have e2 : (Z.more q).ln = Z.ln := rfl
  rw [e1, e2]
  constructor <;> omega
theorem ZL.more {Z : XZ} {q : Nat} (h : Z.nf < 400) : ZL Z (Z.more q) := ⟨by have := zc_more h q; omega, by have := zc_more h q; omega, Nat.le_succ _, Nat.le_refl _, fun i hi => more_fa (by omega)⟩
theorem z0 {a b : Nat} : a - b + 0 ≤ a := Nat.sub_le _ _
theorem z1 {a b : Nat} (h : b ≤ a) : a - b + b ≤ a := by omega
theorem frz_z {V : Vf} {n c : Nat} (h : 67 ≤ c ∧ c ≤ 85) : frz V n c n = 0 := if_pos ⟨h, rfl⟩
theorem xf_frz {V : Vf} {n : Nat} : xfFrame (frz V n) n = [.int 0, .int 0, .int 0, .int 0, .int 0, .int 0, .int 0, .int 0, .int 0, .int 0, .int 0, .int 0, .int 0, .int 0, .int 0, .int 0, .int 0, .int 0, .int 0] := by
  unfold xfFrame
  rw [frz_z (V := V) (n := n) (c := 67) (by decide), frz_z (V := V) (n := n) (c := 68) (by decide), frz_z (V := V) (n := n) (c := 69) (by decide), frz_z (V := V) (n := n) (c := 70) (by decide), frz_z (V := V) (n := n) (c := 71) (by decide), frz_z (V := V) (n := n) (c := 72) (by decide), frz_z (V := V) (n := n) (c := 73) (by decide), frz_z (V := V) (n := n) (c := 74) (by decide), frz_z (V := V) (n := n) (c := 75) (by decide), frz_z (V := V) (n := n) (c := 76) (by decide), frz_z (V := V) (n := n) (c := 77) (by decide), frz_z (V := V) (n := n) (c := 78) (by decide), frz_z (V := V) (n := n) (c := 79) (by decide), frz_z (V := V) (n := n) (c := 80) (by decide), frz_z (V := V) (n := n) (c := 81) (by decide), frz_z (V := V) (n := n) (c := 82) (by decide), frz_z (V := V) (n := n) (c := 83) (by decide), frz_z (V := V) (n := n) (c := 84) (by decide), frz_z (V := V) (n := n) (c := 85) (by decide)]
theorem rgd_frz {V : Vf} {n : Nat} (h : rgd bX V) : rgd bX (frz V n) := by
  intro c k
  by_cases q : (67 ≤ c ∧ c ≤ 85) ∧ k = n
  · have e : frz V n c k = 0 := if_pos q
    rw [e]
    have hc : c = 67 ∨ c = 68 ∨ c = 69 ∨ c = 70 ∨ c = 71 ∨ c = 72 ∨ c = 73 ∨ c = 74 ∨ c = 75 ∨ c = 76 ∨ c = 77 ∨ c = 78 ∨ c = 79 ∨ c = 80 ∨ c = 81 ∨ c = 82 ∨ c = 83 ∨ c = 84 ∨ c = 85 := by omega
    rcases hc with rfl | rfl | rfl | rfl | rfl | rfl | rfl | rfl | rfl | rfl | rfl | rfl | rfl | rfl | rfl | rfl | rfl | rfl | rfl
    · exact ⟨(show ((-2147483648) : Int) ≤ Int32.toInt 0 from by decide), (show Int32.toInt 0 ≤ (2147483647 : Int) from by decide)⟩
    · exact ⟨(show ((-2147483648) : Int) ≤ Int32.toInt 0 from by decide), (show Int32.toInt 0 ≤ (2147483647 : Int) from by decide)⟩
    · exact ⟨(show ((-2147483648) : Int) ≤ Int32.toInt 0 from by decide), (show Int32.toInt 0 ≤ (2147483647 : Int) from by decide)⟩
    · exact ⟨(show ((-2147483648) : Int) ≤ Int32.toInt 0 from by decide), (show Int32.toInt 0 ≤ (2147483647 : Int) from by decide)⟩
    · exact ⟨(show ((-1) : Int) ≤ Int32.toInt 0 from by decide), (show Int32.toInt 0 ≤ (23 : Int) from by decide)⟩
    · exact ⟨(show (0 : Int) ≤ Int32.toInt 0 from by decide), (show Int32.toInt 0 ≤ (39 : Int) from by decide)⟩
    · exact ⟨(show (0 : Int) ≤ Int32.toInt 0 from by decide), (show Int32.toInt 0 ≤ (19 : Int) from by decide)⟩
    · exact ⟨(show ((-2147483648) : Int) ≤ Int32.toInt 0 from by decide), (show Int32.toInt 0 ≤ (2147483647 : Int) from by decide)⟩
    · exact ⟨(show (0 : Int) ≤ Int32.toInt 0 from by decide), (show Int32.toInt 0 ≤ (12 : Int) from by decide)⟩
    · exact ⟨(show ((-2147483648) : Int) ≤ Int32.toInt 0 from by decide), (show Int32.toInt 0 ≤ (2147483647 : Int) from by decide)⟩
    · exact ⟨(show (0 : Int) ≤ Int32.toInt 0 from by decide), (show Int32.toInt 0 ≤ (19 : Int) from by decide)⟩
    · exact ⟨(show ((-2147483648) : Int) ≤ Int32.toInt 0 from by decide), (show Int32.toInt 0 ≤ (2147483647 : Int) from by decide)⟩
    · exact ⟨(show ((-2147483648) : Int) ≤ Int32.toInt 0 from by decide), (show Int32.toInt 0 ≤ (2147483647 : Int) from by decide)⟩
    · exact ⟨(show (0 : Int) ≤ Int32.toInt 0 from by decide), (show Int32.toInt 0 ≤ (300 : Int) from by decide)⟩
    · exact ⟨(show ((-2147483648) : Int) ≤ Int32.toInt 0 from by decide), (show Int32.toInt 0 ≤ (2147483647 : Int) from by decide)⟩
    · exact ⟨(show ((-2147483648) : Int) ≤ Int32.toInt 0 from by decide), (show Int32.toInt 0 ≤ (2147483647 : Int) from by decide)⟩
    · exact ⟨(show (0 : Int) ≤ Int32.toInt 0 from by decide), (show Int32.toInt 0 ≤ (1 : Int) from by decide)⟩
    · exact ⟨(show (0 : Int) ≤ Int32.toInt 0 from by decide), (show Int32.toInt 0 ≤ (2147483647 : Int) from by decide)⟩
    · exact ⟨(show (0 : Int) ≤ Int32.toInt 0 from by decide), (show Int32.toInt 0 ≤ (2048 : Int) from by decide)⟩
  · have e : frz V n c k = V c k := if_neg q
    rw [e]
    exact h c k
theorem frz_ag {V : Vf} {n : Nat} : agr [] [67, 68, 69, 70, 71, 72, 73, 74, 75, 76, 77, 78, 79, 80, 81, 82, 83, 84, 85] V (frz V n) := by
  intro c k h
  by_cases q : 67 ≤ c ∧ c ≤ 85
  · exfalso
    have hc : c = 67 ∨ c = 68 ∨ c = 69 ∨ c = 70 ∨ c = 71 ∨ c = 72 ∨ c = 73 ∨ c = 74 ∨ c = 75 ∨ c = 76 ∨ c = 77 ∨ c = 78 ∨ c = 79 ∨ c = 80 ∨ c = 81 ∨ c = 82 ∨ c = 83 ∨ c = 84 ∨ c = 85 := by omega
    rcases hc with rfl | rfl | rfl | rfl | rfl | rfl | rfl | rfl | rfl | rfl | rfl | rfl | rfl | rfl | rfl | rfl | rfl | rfl | rfl <;> exact Bool.noConfusion (show true = false from h)
  · unfold frz
    rw [if_neg (fun a => q a.1)]
theorem xw_len {ad : Nat → Nat} {kk : Nat → ClassId} {V : Vf} {L : Lf} {Z : XZ} : (xw ad kk V L Z).length = 336 + Z.nf := by
  unfold xw
  rw [List.length_append, List.length_map, List.length_range, show (xs ad kk V L Z).length = 38 from rfl]
  omega
theorem xw_new {ad : Nat → Nat} {kk : Nat → ClassId} {V : Vf} {L : Lf} {Z : XZ} {e : Nat × va_E} : (xw ad kk V L Z ++ [e])[336 + Z.nf]? = some e := by
  rw [List.getElem?_append_right (by rw [xw_len]; exact Nat.le_refl _), xw_len, Nat.sub_self]
  rfl
theorem xw_frz2 {ad : Nat → Nat} {kk : Nat → ClassId} {V : Vf} {L : Lf} {Z : XZ} {q i : Nat} (h : i = Z.nf) : (xw ad kk V L Z ++ ([(q, Sum.inr (4, [.int 0, .int 0, .int 0, .int 0, .int 0, .int 0, .int 0, .int 0, .int 0, .int 0, .int 0, .int 0, .int 0, .int 0, .int 0, .int 0, .int 0, .int 0, .int 0]))] : va_W)).set 35 (ad 35, .inl (kk 35, 400, .inr (.inr (.inr (.inr (va_up (fun j => if j < Z.nf then some (Z.fa j) else none) i (some q))))))) = xw ad kk (frz V Z.nf) L (Z.more q) := by
  rw [h, ← xf_frz (V := V) (n := Z.nf)]
  exact xw_frz

theorem w1188 : Cond.methodLink RX4 1 objectInit ∈ GW := gw_k tk9_5 73 (by decide +kernel) rfl
theorem dk9_dX4_init_0_0 : dOk cX4_init [(0, .aload_n 0, 1), (1, .invokespecial 1, 3), (4, .return_, 1)] = true := by decide +kernel
theorem dX4_init_0 : decode cX4_init 0 = .ok (.aload_n 0, 1) := dr9 dk9_dX4_init_0_0 0 (0, .aload_n 0, 1) rfl
theorem dX4_init_1 : decode cX4_init 1 = .ok (.invokespecial 1, 3) := dr9 dk9_dX4_init_0_0 1 (1, .invokespecial 1, 3) rfl
theorem dX4_init_4 : decode cX4_init 4 = .ok (.return_, 1) := dr9 dk9_dX4_init_0_0 2 (4, .return_, 1) rfl
abbrev r_c_Frame_init : Room := { frames := 1, cells := 0, slots := 0, locals := 20 }
abbrev q_c_Frame_init (D : va_G) (h0 : Nat) (A : Nat → Prop) : Array Value → State → Outcome → State → Prop := va_Qv (fun (_ : Unit) => True) (fun u t => gq D A ((fun (_ : Unit) => []) u) ((fun (_ : Unit) => ([] : List (ClassId × FieldType))) u) t) A
set_option maxHeartbeats 4000000 in
set_option maxRecDepth 100000 in
theorem c_Frame_init (l : Launch) (D : va_G) (ks : KS) (sz : Nat) (h0 : Nat) : Met l yX4_init (Cond.code yX4_init cX4_init 1 none :: GW) r_c_Frame_init (va_Pc [.ref h0] (gp D ks [] [] sz)) (q_c_Frame_init D h0 (va_A [] sz)) 0 0 (va_A [] sz) := by
  refine g_met (q_c_Frame_init D h0) (by decide) (Nat.le_of_ble_eq_true rfl) ?_
  intro p e s m below meth c A ls H locs hx hb hr hml hown hg hlocks hin hnw hgk hP hK hD hS hA hl
  have hown : s.vm.findClass RX4 = some m.cls := hown
  have hin : meth.name = "<init>" := hin
  have hl : lv_has ls 1 [(0, .ref h0)] := hl
  refine lv_aload_n hx hb dX4_init_0 rfl (lv_at hl 0 rfl) ?_
  refine W.objInit hx hb hown (hg _ w1188) (hg _ w188) (hg _ wobj) rfl (by rw [hml]; exact hl.1) rfl dX4_init_1 (Nat.le_of_ble_eq_true rfl) (Nat.le_of_ble_eq_true rfl) ?_
  refine W.eq (g2 := F0 m 4 ls []) rfl ?_
  refine W.widen (k := 0) (n := 0) (Nat.le_of_ble_eq_true rfl) (Nat.le_of_ble_eq_true rfl) ?_
  have hP9 := hP.sub (ws' := []) [] rfl
  have hD9 := hD.sub (ws' := []) [] (by decide) rfl
  have hK9 := hK.sub (tys' := []) [] rfl
  exact W.vret hx hb hr (fun t ht hW => ⟨⟨(), rfl, (by first | rfl | trivial | assumption | decide), by rw [ht]; exact hP9, va_K.moved hW.alike hK9, hD9⟩, hS.F ht⟩) hS.2.2 dX4_init_4
