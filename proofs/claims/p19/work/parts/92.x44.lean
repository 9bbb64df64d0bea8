

/-! what the Statement gives of the start: the constants -/
theorem st_mem {b : Nat} {s : State} (hts : ∀ w ∈ lw_tbl, w.before #[Value.ref b] s = true) {w : Cond} (i : Nat) (h : lw_tbl[i]? = some w) : w.before #[Value.ref b] s = true := hts w (List.mem_of_getElem? h)
def kw_c (j : Nat) : Cond := Cond.eq (.elem (.field (.string "WiringHouse$Tape" 29) "java/lang/String" "value" "[B") (.int (Int32.ofNat j))) (.int (kw_byt.getD j 0))
set_option maxRecDepth 100000 in
theorem kw_all : ((flatC (Jvm.Cond.and given_1 narrow_1)).drop 28).take 155 = (List.range 155).map kw_c := by decide +kernel
theorem kw_el (j : Nat) (hj : j < 155) : kw_c j ∈ flatC (Jvm.Cond.and given_1 narrow_1) := by
  have h : kw_c j ∈ (List.range 155).map kw_c := List.mem_map.mpr ⟨j, List.mem_range.mpr hj, rfl⟩
  rw [← kw_all] at h
  exact List.mem_of_mem_drop (List.mem_of_mem_take h)
def sg_c (j : Nat) : Cond := Cond.eq (.elem (.field (.string "WiringHouse$Tape" 88) "java/lang/String" "value" "[B") (.int (Int32.ofNat j))) (.int (sg_byt.getD j 0))
set_option maxRecDepth 100000 in
theorem sg_all9 : ((flatC (Jvm.Cond.and given_1 narrow_1)).drop 187).take 12 = (List.range 12).map sg_c := by decide +kernel
theorem sg_el (j : Nat) (hj : j < 12) : sg_c j ∈ flatC (Jvm.Cond.and given_1 narrow_1) := by
  have h : sg_c j ∈ (List.range 12).map sg_c := List.mem_map.mpr ⟨j, List.mem_range.mpr hj, rfl⟩
  rw [← sg_all9] at h
  exact List.mem_of_mem_drop (List.mem_of_mem_take h)
theorem eqR {args : Array Value} {s : State} {t u : Term} {a b : Nat} (h : (Cond.eq t u).before args s = true) (ht : t.eval args s none [] s = some (.ref a)) (hu : u.eval args s none [] s = some (.ref b)) : b = a := by
  simp [Cond.before, Cond.holds, Cond.value, ht, hu] at h
  exact h.symm
theorem law_known {s : State} {b : Nat} {A : Nat → Prop} (hts : ∀ w ∈ lw_tbl, w.before #[Value.ref b] s = true) (hgv : (Jvm.Cond.and given_1 narrow_1).before #[Value.ref b] s = true) (hA : ∀ a : Nat, a < s.heap.size → ¬ A a) : ∃ (ks : KS) (kx : KX), gk ks A s s.heap ∧ gx kx A s s.heap := by
  have hs := flat_of_before _ hgv
  obtain ⟨adK, adV, hS, hT⟩ := vk_Sof (args := #[Value.ref b]) (s := s) (N := 1) (tm := fun _ => .string "WiringHouse$Tape" 29) (len := [155]) (byt := [kw_byt]) (A := A) (by decide) (fun _ _ => hs _ (by decide +kernel)) (fun _ _ => hs _ (by decide +kernel)) (fun _ _ => hs _ (by decide +kernel)) (fun i hi => by obtain rfl : i = 0 := (by omega); exact hs _ (by decide +kernel)) (fun i hi j hj => by obtain rfl : i = 0 := (by omega); exact hs _ (kw_el j hj)) (fun i j hi hj h => absurd (show i = j by omega) h) hA
  obtain ⟨adS, adW, hS2, hT2⟩ := vk_Sof (args := #[Value.ref b]) (s := s) (N := 1) (tm := fun _ => .string "WiringHouse$Tape" 88) (len := [12]) (byt := [sg_byt]) (A := A) (by decide) (fun _ _ => hs _ (by decide +kernel)) (fun _ _ => hs _ (by decide +kernel)) (fun _ _ => hs _ (by decide +kernel)) (fun i hi => by obtain rfl : i = 0 := (by omega); exact hs _ (by decide +kernel)) (fun i hi j hj => by obtain rfl : i = 0 := (by omega); exact hs _ (sg_el j hj)) (fun i j hi hj h => absurd (show i = j by omega) h) hA
  obtain ⟨a2, -, -, -, q2, -⟩ := Cond.exactly_spec (args := #[Value.ref b]) (first := s) (o := none) (s := s) (idx := []) (t := .string "WiringHouseModel" 34) (cls := "java/lang/String") (hs _ (by decide +kernel))
  obtain ⟨a3, -, -, -, q3, -⟩ := Cond.exactly_spec (args := #[Value.ref b]) (first := s) (o := none) (s := s) (idx := []) (t := .string "WiringHouse" 142) (cls := "java/lang/String") (hs _ (by decide +kernel))
  obtain ⟨a4, -, -, -, q4, -⟩ := Cond.exactly_spec (args := #[Value.ref b]) (first := s) (o := none) (s := s) (idx := []) (t := .string "WiringHouse" 168) (cls := "java/lang/String") (hs _ (by decide +kernel))
  obtain ⟨a5, -, -, -, q5, -⟩ := Cond.exactly_spec (args := #[Value.ref b]) (first := s) (o := none) (s := s) (idx := []) (t := .string "WiringHouse" 252) (cls := "java/lang/String") (hs _ (by decide +kernel))
  obtain ⟨a6, -, -, -, q6, -⟩ := Cond.exactly_spec (args := #[Value.ref b]) (first := s) (o := none) (s := s) (idx := []) (t := .string "WiringHouse" 262) (cls := "java/lang/String") (hs _ (by decide +kernel))
  have e2 : a2 = adK 0 := eqR (t := .string "WiringHouse$Tape" 29) (u := .string "WiringHouseModel" 34) (hs _ (by decide +kernel)) (hT 0 (by decide)) q2
  subst e2
  have hZ1 : va_Z "java/lang/String" "COMPACT_STRINGS" "Z" (.int 1) A s s.heap := va_Zof (st_mem hts 206 (by decide +kernel)) (st_mem hts 158 (by decide +kernel)) (va_eqt (hs _ (by decide +kernel))) hA
  have hZ2 : ∃ r : Option Nat, va_Z "jdk/internal/util/Preconditions" "SIOOBE_FORMATTER" "Ljava/util/function/BiFunction;" (va_rf r) A s s.heap := by
    rcases va_Zqof (st_mem hts 222 (by decide +kernel)) (st_mem hts 160 (by decide +kernel)) (hs (Cond.isRef (.static "jdk/internal/util/Preconditions" "SIOOBE_FORMATTER" "Ljava/util/function/BiFunction;")) (by decide +kernel)) hA with h | ⟨t, h⟩
    · exact ⟨none, h⟩
    · exact ⟨some t, h⟩
  obtain ⟨r, hZ2⟩ := hZ2
  refine ⟨(adK 0, adV 0, r, adS 0, adW 0), (a3, a4, a5, a6), ⟨⟨⟨fun i hi => ?_, fun i j hi hj _ => by omega⟩, vk_R.of (st_mem hts 196 (by decide +kernel)) (hT 0 (by decide)), vk_R.of (st_mem hts 1695 (by decide +kernel)) q2⟩, ⟨hZ1, hZ2⟩, va_AO.of (st_mem hts 491 (by decide +kernel)), va_AO.of (st_mem hts 493 (by decide +kernel)), va_AO.of (st_mem hts 666 (by decide +kernel)), ⟨fun i hi => ?_, fun i j hi hj _ => by omega⟩, vk_R.of (st_mem hts 791 (by decide +kernel)) (hT2 0 (by decide))⟩, ⟨vk_R.of (st_mem hts 1644 (by decide +kernel)) q3, vk_R.of (st_mem hts 1670 (by decide +kernel)) q4, vk_R.of (st_mem hts 1679 (by decide +kernel)) q5, vk_R.of (st_mem hts 1680 (by decide +kernel)) q6⟩, ⟨vx_Zqof (st_mem hts 1632 (by decide +kernel)) (st_mem hts 176 (by decide +kernel)) (hs (Cond.isRef (.static "java/lang/Throwable" "UNASSIGNED_STACK" "[Ljava/lang/StackTraceElement;")) (by decide +kernel)) hA, vx_Zqof (st_mem hts 1634 (by decide +kernel)) (st_mem hts 176 (by decide +kernel)) (hs (Cond.isRef (.static "java/lang/Throwable" "SUPPRESSED_SENTINEL" "Ljava/util/List;")) (by decide +kernel)) hA⟩, fun w hw => va_Nw.of (xw_on w hw) (hts w (XW_tbl w hw))⟩
  · obtain rfl : i = 0 := by omega
    exact hS.1 0 hi
  · obtain rfl : i = 0 := by omega
    exact hS2.1 0 hi
set_option maxHeartbeats 4000000 in
set_option maxRecDepth 100000 in
/-- THE LAW, from its entry -/
theorem whole_start {p : Program} {e : Env} {s : State} {m : MethodId} {below : List Frame} {meth : Method} {c : Code} (l : Launch) (hst : l.stackTraces = false) {b L : Nat} {xs : Nat → Int32} (hL : L ≤ 3584) (C0 : lw_At p s m meth c b L xs) : W p l e room_1 s m #[Value.ref b] below meth c s.heap [] 0 0 (lw_Z below #[Value.ref b] s) (entryFrame m ([Value.ref b] : List Value).toArray 7) := by
  obtain ⟨hx, hb, hr, hml, hown, hts, hX, hbl, hlocks, hgv⟩ := id C0
  have hg : ∀ w ∈ GW, w.before #[Value.ref b] s = true := fun w h => hts w (gw_tbl h)
  obtain ⟨ks, kx, hgk, hgx⟩ := law_known (A := fun q : Nat => s.heap.size ≤ q) hts hgv (fun a h => Nat.not_le.mpr h)
  obtain ⟨c0, iS0, hKn0⟩ := u_known (C := RX0) (T := TX0) (N := 13) (n := 13) hg inX0 (hg _ w468)
  obtain ⟨c1, iS1, hKn1⟩ := u_known (C := RX1) (T := TX1) (N := 9) (n := 9) hg inX1 (hg _ w299)
  obtain ⟨c2, iS2, hKn2⟩ := u_known (C := RX2) (T := TX2) (N := 8) (n := 8) hg inX2 (hg _ w333)
  obtain ⟨c3, iS3, hKn3⟩ := u_known (C := RX3) (T := TX3) (N := 13) (n := 13) hg inX3 (hg _ w494)
  obtain ⟨c4, iS4, hKn4⟩ := u_known (C := RX4) (T := TX4) (N := 19) (n := 19) hg inX4 (hg _ w1184)
  obtain ⟨c5, iS5, hKn5⟩ := u_known (C := RX5) (T := TX5) (N := 15) (n := 15) hg inX5 (hg _ w660)
  obtain ⟨c6, iS6, hKn6⟩ := u_known (C := RX6) (T := TX6) (N := 2) (n := 2) hg inX6 (hg _ w474)
  obtain ⟨c7, iS7, hKn7⟩ := u_known (C := RX7) (T := TX7) (N := 10) (n := 10) hg inX7 (hg _ w430)
  obtain ⟨c8, iS8, hKn8⟩ := u_known (C := RX8) (T := TX8) (N := 16) (n := 16) hg inX8 (hg _ w365)
  obtain ⟨c9, iS9, hKn9⟩ := u_known (C := RX9) (T := TX9) (N := 12) (n := 12) hg inX9 (hg _ w191)
  obtain ⟨c10, iS10, hKn10⟩ := u_known (C := RX10) (T := TX10) (N := 5) (n := 5) hg inX10 (hg _ w570)
  obtain ⟨c11, iS11, hKn11⟩ := u_known (C := RX11) (T := TX11) (N := 10) (n := 10) hg inX11 (hg _ w183)
  obtain ⟨c12, iS12, hKn12⟩ := u_known (C := RX12) (T := TX12) (N := 100) (n := 100) hg inX12 (hg _ w1688)
  obtain ⟨D, hKc⟩ : ∃ (D : va_G), ∀ (k : Nat) (q : vw_C), vwCl[k]? = some q → u_Kn s q.1 q.2.1 q.2.2 (D.1 k) (D.2 k) := by
    refine ⟨(fun k => List.getD [c0, c1, c2, c3, c4, c5, c6, c7, c8, c9, c10, c11, c12] k c0, fun k => List.getD [iS0, iS1, iS2, iS3, iS4, iS5, iS6, iS7, iS8, iS9, iS10, iS11, iS12] k iS0), ?_⟩
    intro k q hq
    match k, hq with
    | 0, hq => cases hq; exact hKn0
    | 1, hq => cases hq; exact hKn1
    | 2, hq => cases hq; exact hKn2
    | 3, hq => cases hq; exact hKn3
    | 4, hq => cases hq; exact hKn4
    | 5, hq => cases hq; exact hKn5
    | 6, hq => cases hq; exact hKn6
    | 7, hq => cases hq; exact hKn7
    | 8, hq => cases hq; exact hKn8
    | 9, hq => cases hq; exact hKn9
    | 10, hq => cases hq; exact hKn10
    | 11, hq => cases hq; exact hKn11
    | 12, hq => cases hq; exact hKn12
    | k + 13, hq => simp [vwCl] at hq
  have hS : va_S (fun q : Nat => s.heap.size ≤ q) s.heap s.heap [] := va_S.rf
  have hK : va_K D vwCl [] s := ⟨hKc, fun k q h => by simp at h⟩
  have hP : va_P D vwCl [] s.heap := fun k q h => by simp at h
  have hD : va_D (fun q : Nat => s.heap.size ≤ q) [] := ⟨fun i j p q h => by simp at h, fun k q h => by simp at h⟩
  have hnw : nw s := nw.of hts
  have hl := lv_entry ([.ref b]) (n := 7) (Nat.le_of_ble_eq_true rfl)
  rw [lg_entry_eq]
  generalize (lg_sl ([.ref b]) ++ List.replicate (7 - (lg_sl ([.ref b])).length) Slot.unset).toArray = ls at hl ⊢
  have hl : lv_has ls 7 [(0, .ref b)] := hl
  exact law_body l hst hL C0 (fun _ h => h) (fun _ h => h) D ks kx hnw hgk hgx hK hP hD hS hl

set_option maxHeartbeats 4000000 in
theorem lw_walk (l : Launch) (hst : l.stackTraces = false) (b : Addr) (xs : List Int32) : MetFree l x (headSpec (Jvm.Cond.code x code maxLocals ret :: tables_1) room_1) (lw_P b xs) (fun _ _ _ _ _ => True) lw_Q := by
  refine MetFree.of_bodyS (code := code) (maxLocals := maxLocals) (ret := ret) (by decide) ?_ ?_
  · intro args s m h hn
    obtain ⟨meth, c, h1, h2, h3, h4, h5, h6, -, -⟩ := Cond.code_spec hn (atoms_spec (ws := Jvm.Cond.code x code maxLocals ret :: tables_1) h _ List.mem_cons_self)
    exact ⟨meth, c, h1, h2, h3, h4, h5, h6⟩
  · intro p e s m args below meth c s₁ B hml0 hP _
    obtain ⟨rfl, hx, hbd, hgv⟩ := hP
    obtain ⟨scr, harrAt, hlist, hof, hsmall⟩ := hx
    obtain ⟨hcb, hkn, -, -⟩ := State.arrayAt?_spec harrAt
    have hown : s.vm.findClass R_law = some m.cls := findClass_of_methodNamed B.named
    have hts0 : ∀ c ∈ (Jvm.Cond.code x code maxLocals ret :: tables_1), c.before #[Value.ref b] s = true := atoms_spec (ws := Jvm.Cond.code x code maxLocals ret :: tables_1) B.pre
    have hts : ∀ w ∈ lw_tbl, w.before #[Value.ref b] s = true := k2_hts_sels lw_privs (fun w hw => hts0 w (List.mem_cons_of_mem _ hw)) lw_privs_ok
    have hml : c.maxLocals = 7 := B.maxLocals_eq (hts0 _ List.mem_cons_self)
    have X₀ : Stand p l e room_1 s m #[Value.ref b] below meth c s₁ [] 0 0 := Stand.of_body B
    have hh0 : s₁.heap = s.heap := by rw [B.state]; rfl
    have hsz : scr.slots.size = xs.length := by rw [← Array.length_toList, hlist, List.length_map]
    have hval : ∀ j : Nat, j < xs.length → scr.slots[j]? = some (.int (xs.getD j 0)) := fun j hj => by
      rw [← Array.getElem?_toList, hlist]
      simp [hj]
    have hbl : b < s.heap.size := (Array.getElem?_eq_some_iff.mp hcb).1
    have hX : va_X b xs.length (fun j => xs.getD j 0) s s.heap := ⟨scr, hcb, hof, hkn, hsz, hval⟩
    have K : W p l e room_1 s m #[Value.ref b] below meth c s₁.heap [] 0 0 (lw_Z below #[Value.ref b] s) (entryFrame m ([Value.ref b] : List Value).toArray 7) := by
      rw [hh0]
      exact whole_start l hst hbd ⟨B.exec, B.bytes, B.returns, hml, hown, hts, hX, hbl, B.notSynchronized, hgv⟩
    obtain ⟨t, a1, o, b1, b2, b3⟩ := K s₁ rfl X₀
    exact ⟨t, o, a1, b1, b2, b3⟩
theorem lw_pre_spec {args : Array Value} {s : State} (h : (Jvm.Cond.and given_1 narrow_1).before args s = true) (hr : rest_1_c.before args s = true) : ∃ (b : Addr) (xs : List Int32), lw_P b xs args s := by
  have hs := flat_of_before _ h
  have hq := flat_of_before _ hr
  have hc : (Cond.count 1).before args s = true := hs _ (by decide +kernel)
  have harr : (Cond.arrayOf (.arg 0) .int).before args s = true := hs _ (by decide +kernel)
  have hle : (Cond.le (.length (.arg 0)) (.int 3584)).before args s = true := hs _ (by decide +kernel)
  have hlen : (Cond.isInt (.length (.arg 0))).before args s = true := hq _ (by decide +kernel)
  have hall : (Cond.all (.arg 0) (.isInt (.elem (.arg 0) (.index 0)))).before args s = true := hq _ (by decide +kernel)
  obtain ⟨b, xs, hb, hx⟩ := State.ints_of_pre rfl harr hlen hall
  have hsm : xs.length < 2 ^ 31 := hx.choose_spec.2.2.2
  have hev : (Term.length (.arg 0)).eval args s none [] s = some (.int xs.length.toInt32) := hx.length_eval hb
  have hv := Cond.le_ints hev (show (Term.int 3584).eval args s none [] s = some (.int 3584) from rfl)
  have hd : xs.length.toInt32 ≤ 3584 := by
    simpa [Cond.before, Cond.holds, hv] using hle
  have hN : xs.length ≤ 3584 := (Int32.ofNat_le_ofNat hsm (by decide)).mp (show Int32.ofNat xs.length ≤ Int32.ofNat 3584 from hd)
  exact ⟨b, xs, Cond.one_arg hc (show args[0]? = some (.ref b) from hb), hx, hN, h⟩
theorem lw_comes (l : Launch) (hst : l.stackTraces = false) : Comes l x (Jvm.Cond.code x code maxLocals ret :: tables_1) room_1 (fun tb e args s => Calls_1 tb e args s ∧ rest_1 tb e args s ∧ Pre_1 tb e args s)
    (fun _ _ args s o t => lw_Q args s o t) := by
  intro p e ha hc hk s m args below hf hfit hheap happ hpre
  obtain ⟨b, xs, hP⟩ := lw_pre_spec hpre.2.2 hpre.2.1
  obtain ⟨k, o, h1, h2, h3, hQ⟩ := lw_walk l hst b xs p e ha hc hk s m args below hf ((Spec.applies_iff_loose hf).mp happ).1 hP trivial
  exact ⟨k, o, h1, h2, h3, hQ⟩
theorem lw_frame {s t : State} {o : Outcome} {args : Array Value} (h : Framed s o t [] 601024 7293034) :
    Framed s o t (fieldLocs frame_1_writes args s ++ arrayLocs frame_1_arrays args s ++ staticLocs frame_1_statics s) 601024 7293034 := h
theorem lw_limb (L : Cond) (hL : ∀ (args : Array Value) (s t : State), L.after args s (.returned (some (.int 1))) t = true) :
    ArmFor flags0 classFile x code maxLocals ret World_1 tables_1 room_1 Calls_1 rest_1 Pre_1
      (fun tb e a s o t => postC L tb e a s o t ∧ Framed s o t (fieldLocs frame_1_writes a s ++ arrayLocs frame_1_arrays a s ++ staticLocs frame_1_statics s) 601024 7293034) := by
  intro l hfl _ _ p e ha hc hk s m args below hf hfit hheap happ hpre
  obtain ⟨k, o, h1, h2, h3, rfl, hF⟩ := lw_comes l (by unfold Launch.stackTraces; rw [hfl]; decide +kernel) p e ha hc hk s m args below hf hfit hheap happ hpre
  exact ⟨k, _, h1, h2, h3, hL args s _, lw_frame hF⟩
theorem i_vc : Claimed_1_1 ∧ Claimed_1_2 := ⟨lw_limb limb_1_1 (fun args s t => by simp [limb_1_1, Cond.after, Cond.holds, Cond.value]), lw_limb limb_1_2 (fun args s t => Cond.after_iff.mpr (by
  first | (rw [show limb_1_2 = Cond.eq .result (.int 1) from rfl, Cond.eq_ints (x := 1) (y := 1) rfl rfl]; simp; done) | (simp [limb_1_2, Cond.value, Term.eval]; done)))⟩
