/-! the scope's step -/
theorem RelC.sc {V : Vf} {L : Lf} {b : Nat} {T : Tk} {s : St} (h : RelC V L b T (nx s 1)) (hn : (V 1 2).toInt < 0) : RelC V L b T (scopeS s) := ⟨h.1, h.2.1, h.2.2.1, h.2.2.2.1, fun q => absurd q (by omega)⟩
theorem keepT.tr {s A c : St} {n m : Nat} (h : keepS s n (nx A 1)) (k : keepS (scopeS A) m c) : True ∧ True ∧ (∀ j, j < 3 → c.2.1 j = s.2.1 j) ∧ True := ⟨trivial, trivial, fun j hj => (k.2.2.1 j hj).trans (h.2.2.1 j hj), trivial⟩


abbrev r_x_readComponent3 : Room := { frames := 4, cells := 0, slots := 0, locals := 85 }
abbrev q_x_readComponent3 (D : va_G) (ks : KS) (ad : Nat → Nat) (kk : Nat → ClassId) (V : Vf) (L : Lf) (Z : XZ) (b : Nat) (gT : Tk) (gs : St) (A : Nat → Prop) : Array Value → State → Outcome → State → Prop := va_Qi (fun (r : Int32) (u : Vf × Lf) => rgd bX u.1 ∧ agr [(1, 2), (1, 3), (1, 6), (1, 7), (1, 8), (6, 8), (6, 9), (6, 10)] [43, 44, 49, 50, 51, 52, 53, 54, 55, 56, 57, 61] V u.1 ∧ agL [1, 6, 44] L u.2 ∧ (0 ≤ r.toInt ∧ r.toInt ≤ 1) ∧ (Imp (r.toInt = 1) (24 * (b : Int) ≤ (u.1 1 2).toInt ∧ (u.1 1 2).toInt < 24 * (b : Int) + 24)) ∧ (Rd gT gs (fun k => Istmt :: k) (fun k => Imember :: k) r.toInt (u.1 1 3).toInt (fun s9 => RelC u.1 u.2 b gT s9 ∧ gs.1 0 + 1 ≤ s9.1 0))) (fun u t => gq D A (xw ad kk u.1 u.2 Z) (xty kk Z) t) A
set_option maxHeartbeats 4000000 in
set_option maxRecDepth 100000 in
theorem x_readComponent3 (l : Launch) (D : va_G) (ks : KS) (sz : Nat) (ad : Nat → Nat) (kk : Nat → ClassId) (V : Vf) (L : Lf) (Z : XZ) (b : Nat) (gT : Tk) (gs : St) (hMV : rgd bX V) (hb2 : b < 2) (rbk : (V 1 1).toInt = (b : Int)) (own : (V 1 2).toInt = -1) (rel : RelC V L b gT gs) (kd9 : (V 6 9).toInt = 131)  : Met l yX1_readComponent (Cond.code yX1_readComponent cX1_readComponent 4 (some .boolean) :: GW) r_x_readComponent3 (va_Pc [.ref (ad 1)] (gp D ks (xw ad kk V L Z) (xty kk Z) sz)) (q_x_readComponent3 D ks ad kk V L Z  b gT gs (va_A (xw ad kk V L Z) sz)) 0 0 (va_A (xw ad kk V L Z) sz) := by
  refine g_met (q_x_readComponent3 D ks ad kk V L Z  b gT gs) (by decide) (Nat.le_of_ble_eq_true rfl) ?_
  intro p e s m below meth c A ls H locs hx hb hr hml hown hg hlocks hin hnw hgk hP hK hD hS hA hl
  have hown : s.vm.findClass RX1 = some m.cls := hown
  have hl : lv_has ls 4 [(0, .ref (ad 1))] := hl
  have hP : va_P D vwCl (xw ad kk V L Z) H := hP
  have hD : va_D A (xw ad kk V L Z) := hD
  have hK : va_K D vwCl (xty kk Z) s := hK
  have agV : agr [(1, 2), (1, 3), (1, 6), (1, 7), (1, 8), (6, 8), (6, 9), (6, 10)] [43, 44, 49, 50, 51, 52, 53, 54, 55, 56, 57, 61] V V := agr.rf
  have alL : agL [1, 6, 44] L L := agL.rf
  have r1 : (-1) ≤ ((V 1 1)).toInt ∧ ((V 1 1)).toInt ≤ 1 := hMV 1 1
  have r2 : (-1) ≤ ((V 1 2)).toInt ∧ ((V 1 2)).toInt ≤ 47 := hMV 1 2
  have ln0 := (rel.2.2.1 2 (by decide)).1
  have r3 : xcap (5 * b + 2) = 24 := xcap_2
  refine lv_aload_n hx hb dX1_readComponent_0 rfl (lv_at hl 0 rfl) ?_
  refine va_get (D := D) (ci := 1) (v := rfN ad 38 (V 1 1)) (fs := (xfReader ad V L Z)) (C := RX1) (T := TX1) (N := 9) hx hb hg inX1 hown hK hP 1 xgReader rfl 1 (by decide) (hg _ w305) (fun _ h9 => h9) rfl dX1_readComponent_1 ?_
  refine g_topv (v := .ref (ad (38 + b))) (rfN_r (by omega)) ?_
  refine va_getN (D := D) (ci := 0) (v := .ref (ad (40 + (5 * b + 2)))) (fs := (xfBook ad V b)) (C := RX0) (T := TX0) (N := 13) hx hb hg inX0 hown hK hP (38 + b) (xgBook hb2) rfl 2 (by decide) (hnw.use 601 n601 rfl) (fun _ h9 => h9) rfl dX1_readComponent_4 ?_
  have il4 : (5 * b + 2) < 10 := by omega
  refine gA_int (gA_runV (As := []) (rest := []) (ci := 6) (q0 := (40 + (5 * b + 2))) hx hb hml hown hg hP hD hK hS hA hnw hgk (x_isFull2 l D ks H.size ad kk V L Z ((5 * b + 2)) hMV (show (5 * b + 2) < 10 from by omega)) w863 w864 w865 w168 w866 rfl (xgNames il4) hdV_yX6_isFull ⟨Nat.le_of_ble_eq_true rfl, Nat.le_of_ble_eq_true rfl⟩ rfl hl.1 rfl (Nat.le_of_ble_eq_true rfl) dX1_readComponent_7 ⟨Nat.le_of_ble_eq_true rfl, Nat.le_of_ble_eq_true rfl⟩) hP hD hK hS hA (fun z5 u6 H locs w7 hP hD hK hS => ?_)
  obtain ⟨rgz5, t8, t9⟩ := w7
  have rgz5 : 0 ≤ z5.toInt ∧ z5.toInt ≤ 1 := rgz5
  have t8 : Imp (z5.toInt = 0) ((V 43 (5 * b + 2)).toInt < ((xcap (5 * b + 2) : Nat) : Int)) := t8
  have t9 : Imp (z5.toInt = 1) (((xcap (5 * b + 2) : Nat) : Int) ≤ (V 43 (5 * b + 2)).toInt) := t9
  refine lv_if_eq (tgt := 19) hx hb dX1_readComponent_10 (by decide) (fun c10 => ?_) (fun c10 => ?_)
  · skip
    have f11 : z5.toInt = 0 := b_eq rfl (by decide) c10
    refine lv_aload_n hx hb dX1_readComponent_19 rfl (lv_at hl 0 rfl) ?_
    refine va_get (D := D) (ci := 1) (v := .ref (ad 6)) (fs := (xfReader ad V L Z)) (C := RX1) (T := TX1) (N := 9) hx hb hg inX1 hown hK hP 1 xgReader rfl 0 (by decide) (hg _ w304) (fun _ h9 => h9) rfl dX1_readComponent_20 ?_
    have hr12 : ∀ k, Rc gT (Crun gs (Istmt :: k)) (Crun gs (Istmt :: k)) := fun k => Rc.rf
    have kd13 : gT.1 (gs.1 0) = ((V 6 9)).toInt := RelC.kd rel
    have hr14 : ∀ k, Rc gT (Crun gs (Istmt :: k)) (Crun (nx gs 1) (InewComp :: k)) := fun k => Rc.go1 (hr12 k) (st_131 (kd13.trans kd9) (by first | omega | ((try (have i_t9 := Imp.go t9 (by omega))); (try (have i_t8 := Imp.go t8 (by omega))); (try (have i_t8 := Imp.go t8 (by omega))); (try (have i_t9 := Imp.go t9 (by omega))); omega)))
    have l815 := RelC.l8 rel
    have r16 : 0 ≤ ((V 6 8)).toInt ∧ ((V 6 8)).toInt ≤ 4000 := hMV 6 8
    have r17 : 0 ≤ ((V 6 7)).toInt ∧ ((V 6 7)).toInt ≤ 4000 := hMV 6 7
    have lk18 := RelC.lk rel (show (V 6 9).toInt ≠ 0 from by omega)
    refine gA_void (gA_runV (As := []) (rest := []) (ci := 9) (q0 := 6) hx hb hml hown hg hP hD hK hS hA hnw hgk (x_next2 l D ks H.size ad kk V L Z  hMV (show (V 6 8).toInt ≤ (V 6 7).toInt from by first | omega | ((try (have i_t9 := Imp.go t9 (by omega))); (try (have i_t8 := Imp.go t8 (by omega))); (try (have i_t8 := Imp.go t8 (by omega))); (try (have i_t9 := Imp.go t9 (by omega))); omega))) w871 w852 w853 w157 w854 rfl xgTape hdV_yX9_next ⟨Nat.le_of_ble_eq_true rfl, Nat.le_of_ble_eq_true rfl⟩ rfl hl.1 rfl (Nat.le_of_ble_eq_true rfl) dX1_readComponent_23 ⟨Nat.le_of_ble_eq_true rfl, Nat.le_of_ble_eq_true rfl⟩) hP hD hK hS hA (fun u20 H locs w21 hP hD hK hS => ?_)
    obtain ⟨V24, L25⟩ := u20
    obtain ⟨hMV24, ajV24, axL25, t22, t23⟩ := w21
    have alL25 : agL [1, 6, 44] L L25 := agL.tr alL axL25 (by decide)
    have hP : va_P D vwCl (xw ad kk V24 L25 Z) H := hP
    have hD : va_D A (xw ad kk V24 L25 Z) := hD
    have hMV24 : rgd bX V24 := hMV24
    have ajV24 : agr [(6, 8), (6, 9), (6, 10)] [] V V24 := ajV24
    have agV24 : agr [(1, 2), (1, 3), (1, 6), (1, 7), (1, 8), (6, 8), (6, 9), (6, 10)] [43, 44, 49, 50, 51, 52, 53, 54, 55, 56, 57, 61] V V24 := agV.tr ajV24 (by decide) (by decide)
    have t22 : (V24 6 8).toInt ≤ (V24 6 7).toInt := t22
    have t23 : CUR V24 L25 (Int32.toNatClampNeg (V 6 8)) := t23
    have r26 : 0 ≤ ((V24 6 8)).toInt ∧ ((V24 6 8)).toInt ≤ 4000 := hMV24 6 8
    have pq27 : (V24 6 7).toInt = ((V 6 7)).toInt := congrArg Int32.toInt (ajV24 6 7 rfl)
    have rl28 : RelC V24 L25 b gT (nx gs 1) := RelC.nx1 rel ajV24 (by decide) axL25 (by decide) (by rw [← lk18]; exact t23) (ajV24 1 3 rfl)
    refine lv_aload_n hx hb dX1_readComponent_26 rfl (lv_at hl 0 rfl) ?_
    have pq29 : (V24 1 1).toInt = ((V 1 1)).toInt := congrArg Int32.toInt (ajV24 1 1 rfl)
    refine gA_int (gA_runV (As := []) (rest := []) (ci := 1) (q0 := 1) hx hb hml hown hg hP hD hK hS hA hnw hgk (x_takeNewName3 l D ks H.size ad kk V24 L25 Z (b) (gT) ((nx gs 1)) hMV24 (show b < 2 from by first | omega | ((try (have i_t9 := Imp.go t9 (by omega))); (try (have i_t8 := Imp.go t8 (by omega))); (try (have i_t8 := Imp.go t8 (by omega))); (try (have i_t9 := Imp.go t9 (by omega))); omega)) (show (V24 1 1).toInt = (b : Int) from by first | omega | ((try (have i_t9 := Imp.go t9 (by omega))); (try (have i_t8 := Imp.go t8 (by omega))); (try (have i_t8 := Imp.go t8 (by omega))); (try (have i_t9 := Imp.go t9 (by omega))); omega)) rl28) w872 w874 w7 w162 w875 rfl xgReader hdV_yX1_takeNewName ⟨Nat.le_of_ble_eq_true rfl, Nat.le_of_ble_eq_true rfl⟩ rfl hl.1 rfl (Nat.le_of_ble_eq_true rfl) dX1_readComponent_27 ⟨Nat.le_of_ble_eq_true rfl, Nat.le_of_ble_eq_true rfl⟩) hP hD hK hS hA (fun z30 u31 H locs w32 hP hD hK hS => ?_)
    obtain ⟨V34, L35⟩ := u31
    obtain ⟨hMV34, ajV34, axL35, rgz30, t33⟩ := w32
    have alL35 : agL [1, 6, 44] L L35 := agL.tr alL25 axL35 (by decide)
    have hP : va_P D vwCl (xw ad kk V34 L35 Z) H := hP
    have hD : va_D A (xw ad kk V34 L35 Z) := hD
    have hMV34 : rgd bX V34 := hMV34
    have ajV34 : agr [(1, 3), (6, 8), (6, 9), (6, 10)] [] V24 V34 := ajV34
    have agV34 : agr [(1, 2), (1, 3), (1, 6), (1, 7), (1, 8), (6, 8), (6, 9), (6, 10)] [43, 44, 49, 50, 51, 52, 53, 54, 55, 56, 57, 61] V V34 := agV24.tr ajV34 (by decide) (by decide)
    have rgz30 : 0 ≤ z30.toInt ∧ z30.toInt ≤ 1 := rgz30
    have t33 : KcW (newN gT (nx gs 1)) z30.toInt (V34 1 3).toInt (fun w9 => RelC V34 L35 b gT (nx (nx gs 1) 1) ∧ L35 1 5 = w9) := t33
    rcases t33 with ⟨q36, wx37, h38, rl39, hw40⟩ | ⟨q36, h38⟩
    · skip
      have hr41 : ∀ k, Rc gT (Crun gs (Istmt :: k)) (Crun (nx (nx gs 1) 1) (Itake 132 :: Itypes 0 [] :: Iscope wx37 :: k)) := fun k => Rc.go1 (hr14 k) (nc_y h38)
      refine lv_if_ne (tgt := 35) hx hb dX1_readComponent_30 (by decide) (fun c42 => ?_) (fun c42 => ?_)
      · skip
        have f43 : z30.toInt ≠ 0 := b_neq rfl (by decide) c42
        refine lv_aload_n hx hb dX1_readComponent_35 rfl (lv_at hl 0 rfl) ?_
        refine va_get (D := D) (ci := 1) (v := .long (L35 1 5)) (fs := (xfReader ad V34 L35 Z)) (C := RX1) (T := TX1) (N := 9) hx hb hg inX1 hown hK hP 1 xgReader rfl 5 (by decide) (hg _ w309) (fun _ h9 => h9) rfl dX1_readComponent_36 ?_
        refine lv_lstore_n (lv' := [(1, .long (L35 1 5)), (0, .ref (ad 1))]) hx hb dX1_readComponent_39 rfl hl (by decide) rfl (fun ls hl => ?_)
        refine lv_aload_n hx hb dX1_readComponent_40 rfl (lv_at hl 1 rfl) ?_
        refine lv_sipush (v := 132) hx hb dX1_readComponent_41 (by decide) ?_
        have r44 : Int32.toInt 132 = 132 := by decide
        refine gA_int (gA_runV (As := [.int 132]) (rest := []) (ci := 1) (q0 := 1) hx hb hml hown hg hP hD hK hS hA hnw hgk (x_take2 l D ks H.size ad kk V34 L35 Z 132 (((nx (nx gs 1) 1).1 0)) hMV34 (rl39).1 (rl39).2.1.1 (show 1 ≤ (Int32.toInt 132) from by first | omega | ((try (have i_t9 := Imp.go t9 (by omega))); (try (have i_t8 := Imp.go t8 (by omega))); (try (have i_t8 := Imp.go t8 (by omega))); (try (have i_t9 := Imp.go t9 (by omega))); omega))) w893 w895 w10 w162 w896 rfl xgReader hdV_yX1_take ⟨Nat.le_of_ble_eq_true rfl, Nat.le_of_ble_eq_true rfl⟩ rfl hl.1 rfl (Nat.le_of_ble_eq_true rfl) dX1_readComponent_44 ⟨Nat.le_of_ble_eq_true rfl, Nat.le_of_ble_eq_true rfl⟩) hP hD hK hS hA (fun z45 u46 H locs w47 hP hD hK hS => ?_)
        obtain ⟨V50, L51⟩ := u46
        obtain ⟨hMV50, ajV50, axL51, rgz45, t48, t49⟩ := w47
        have alL51 : agL [1, 6, 44] L L51 := agL.tr alL35 axL51 (by decide)
        have hP : va_P D vwCl (xw ad kk V50 L51 Z) H := hP
        have hD : va_D A (xw ad kk V50 L51 Z) := hD
        have hMV50 : rgd bX V50 := hMV50
        have ajV50 : agr [(1, 3), (6, 8), (6, 9), (6, 10)] [] V34 V50 := ajV50
        have agV50 : agr [(1, 2), (1, 3), (1, 6), (1, 7), (1, 8), (6, 8), (6, 9), (6, 10)] [43, 44, 49, 50, 51, 52, 53, 54, 55, 56, 57, 61] V V50 := agV34.tr ajV50 (by decide) (by decide)
        have rgz45 : 0 ≤ z45.toInt ∧ z45.toInt ≤ 1 := rgz45
        have t48 : Imp (z45.toInt = 0) (1 ≤ (V50 1 3).toInt) := t48
        have t49 : (z45.toInt = 1 ∧ (V34 12 ((nx (nx gs 1) 1).1 0)).toInt = (Int32.toInt 132) ∧ CUR V50 L51 (((nx (nx gs 1) 1).1 0) + 1) ∧ V50 1 3 = V34 1 3) ∨ (z45.toInt = 0 ∧ (V34 12 ((nx (nx gs 1) 1).1 0)).toInt ≠ (Int32.toInt 132) ∧ (V50 1 3).toInt = 1 + 16 * (V34 13 ((nx (nx gs 1) 1).1 0)).toInt) := t49
        rcases t49 with ⟨q52, h53, k54, k55⟩ | ⟨q52, h53, k54⟩
        · skip
          have rl56 : RelC V50 L51 b gT (nx (nx (nx gs 1) 1) 1) := RelC.nx1 rl39 ajV50 (by decide) axL51 (by decide) k54 k55
          have hr57 : ∀ k, Rc gT (Crun gs (Istmt :: k)) (Crun (nx (nx (nx gs 1) 1) 1) (Itypes 0 [] :: Iscope wx37 :: k)) := fun k => Rc.go1 (hr41 k) (tk_y (rl39.tok.1.trans (h53.trans (by decide))))
          refine lv_if_eq (tgt := 57) hx hb dX1_readComponent_47 (by decide) (fun c58 => ?_) (fun c58 => ?_)
          · skip
            have f59 : z45.toInt = 0 := b_eq rfl (by decide) c58
            exfalso; first | omega | ((try (have i_t48 := Imp.go t48 (by omega))); (try (have i_t9 := Imp.go t9 (by omega))); (try (have i_t8 := Imp.go t8 (by omega))); (try (have i_t8 := Imp.go t8 (by omega))); (try (have i_t9 := Imp.go t9 (by omega))); (try (have i_t48 := Imp.go t48 (by omega))); omega)
          · skip
            have f60 : z45.toInt ≠ 0 := b_neq rfl (by decide) c58
            refine lv_aload_n hx hb dX1_readComponent_50 rfl (lv_at hl 1 rfl) ?_
            have pq61 : (V50 1 1).toInt = ((V 1 1)).toInt := congrArg Int32.toInt ((ajV50 1 1 rfl).trans ((ajV34 1 1 rfl).trans (ajV24 1 1 rfl)))
            refine gA_int (gA_runV (As := []) (rest := []) (ci := 1) (q0 := 1) hx hb hml hown hg hP hD hK hS hA hnw hgk (x_takeTypes3 l D ks H.size ad kk V50 L51 Z (b) (gT) ((nx (nx (nx gs 1) 1) 1)) hMV50 (show b < 2 from by first | omega | ((try (have i_t48 := Imp.go t48 (by omega))); (try (have i_t9 := Imp.go t9 (by omega))); (try (have i_t8 := Imp.go t8 (by omega))); (try (have i_t8 := Imp.go t8 (by omega))); (try (have i_t9 := Imp.go t9 (by omega))); (try (have i_t48 := Imp.go t48 (by omega))); omega)) (show (V50 1 1).toInt = (b : Int) from by first | omega | ((try (have i_t48 := Imp.go t48 (by omega))); (try (have i_t9 := Imp.go t9 (by omega))); (try (have i_t8 := Imp.go t8 (by omega))); (try (have i_t8 := Imp.go t8 (by omega))); (try (have i_t9 := Imp.go t9 (by omega))); (try (have i_t48 := Imp.go t48 (by omega))); omega)) rl56) w884 w886 w8 w162 w887 rfl xgReader hdV_yX1_takeTypes ⟨Nat.le_of_ble_eq_true rfl, Nat.le_of_ble_eq_true rfl⟩ rfl hl.1 rfl (Nat.le_of_ble_eq_true rfl) dX1_readComponent_51 ⟨Nat.le_of_ble_eq_true rfl, Nat.le_of_ble_eq_true rfl⟩) hP hD hK hS hA (fun z62 u63 H locs w64 hP hD hK hS => ?_)
            obtain ⟨V66, L67⟩ := u63
            obtain ⟨hMV66, ajV66, axL67, rgz62, t65⟩ := w64
            have alL67 : agL [1, 6, 44] L L67 := agL.tr alL51 axL67 (by decide)
            have hP : va_P D vwCl (xw ad kk V66 L67 Z) H := hP
            have hD : va_D A (xw ad kk V66 L67 Z) := hD
            have hMV66 : rgd bX V66 := hMV66
            have ajV66 : agr [(1, 3), (1, 6), (1, 7), (6, 8), (6, 9), (6, 10)] [] V50 V66 := ajV66
            have agV66 : agr [(1, 2), (1, 3), (1, 6), (1, 7), (1, 8), (6, 8), (6, 9), (6, 10)] [43, 44, 49, 50, 51, 52, 53, 54, 55, 56, 57, 61] V V66 := agV50.tr ajV66 (by decide) (by decide)
            have rgz62 : 0 ≤ z62.toInt ∧ z62.toInt ≤ 1 := rgz62
            have t65 : Rd gT (nx (nx (nx gs 1) 1) 1) (fun k => Itypes 0 [] :: k) (fun k => k) z62.toInt (V66 1 3).toInt (fun s9 => RelC V66 L67 b gT s9 ∧ keepS (nx (nx (nx gs 1) 1) 1) 1 s9) := t65
            rcases t65 with ⟨q68, sx69, h70, rl71, kp72⟩ | ⟨q68, h70⟩
            · skip
              have hr73 : ∀ k, Rc gT (Crun gs (Istmt :: k)) (Crun sx69 (Iscope wx37 :: k)) := fun k => (hr57 k).tr (h70 (Iscope wx37 :: k))
              refine lv_if_ne (tgt := 59) hx hb dX1_readComponent_54 (by decide) (fun c74 => ?_) (fun c74 => ?_)
              · skip
                have f75 : z62.toInt ≠ 0 := b_neq rfl (by decide) c74
                refine lv_aload_n hx hb dX1_readComponent_59 rfl (lv_at hl 1 rfl) ?_
                refine va_get (D := D) (ci := 1) (v := .ref (ad 6)) (fs := (xfReader ad V66 L67 Z)) (C := RX1) (T := TX1) (N := 9) hx hb hg inX1 hown hK hP 1 xgReader rfl 0 (by decide) (hg _ w304) (fun _ h9 => h9) rfl dX1_readComponent_60 ?_
                refine va_getN (D := D) (ci := 9) (v := .int (V66 6 9)) (fs := (xfTape ad V66 L67 Z)) (C := RX9) (T := TX9) (N := 12) hx hb hg inX9 hown hK hP 6 xgTape rfl 9 (by decide) (hnw.use 262 n262 rfl) (fun _ h9 => h9) rfl dX1_readComponent_63 ?_
                refine lv_sipush (v := 148) hx hb dX1_readComponent_66 (by decide) ?_
                refine lv_icmp_lt (tgt := 85) hx hb dX1_readComponent_69 (by decide) (fun c76 => ?_) (fun c76 => ?_)
                · skip
                  have f77 : ((V66 6 9)).toInt < 148 := b_lt rfl (by decide) c76
                  refine lv_aload_n hx hb dX1_readComponent_85 rfl (lv_at hl 1 rfl) ?_
                  refine lv_iconst (v := 1) hx hb dX1_readComponent_86 (by decide) ?_
                  have kd78 : gT.1 (sx69.1 0) = ((V66 6 9)).toInt := RelC.kd rl71
                  have r79 : Int32.toInt 1 = 1 := by decide
                  refine gA_int (gA_runV (As := [.int 1]) (rest := []) (ci := 1) (q0 := 1) hx hb hml hown hg hP hD hK hS hA hnw hgk (x_wrong2 l D ks H.size ad kk V66 L67 Z 1 hMV66 (by decide)) w867 w869 w6 w162 w870 rfl xgReader hdV_yX1_wrong ⟨Nat.le_of_ble_eq_true rfl, Nat.le_of_ble_eq_true rfl⟩ rfl hl.1 rfl (Nat.le_of_ble_eq_true rfl) dX1_readComponent_87 ⟨Nat.le_of_ble_eq_true rfl, Nat.le_of_ble_eq_true rfl⟩) hP hD hK hS hA (fun z80 u81 H locs w82 hP hD hK hS => ?_)
                  obtain ⟨V85, L86⟩ := u81
                  obtain ⟨hMV85, ajV85, axL86, rgz80, t83, t84⟩ := w82
                  have axL86 : L67 = L86 := Eq.symm axL86
                  subst axL86
                  have hP : va_P D vwCl (xw ad kk V85 L67 Z) H := hP
                  have hD : va_D A (xw ad kk V85 L67 Z) := hD
                  have hMV85 : rgd bX V85 := hMV85
                  have ajV85 : agr [(1, 3)] [] V66 V85 := ajV85
                  have agV85 : agr [(1, 2), (1, 3), (1, 6), (1, 7), (1, 8), (6, 8), (6, 9), (6, 10)] [43, 44, 49, 50, 51, 52, 53, 54, 55, 56, 57, 61] V V85 := agV66.tr ajV85 (by decide) (by decide)
                  have rgz80 : 0 ≤ z80.toInt ∧ z80.toInt ≤ 0 := rgz80
                  have t83 : 1 ≤ (V85 1 3).toInt := t83
                  have t84 : (V85 1 3).toInt = (Int32.toInt 1) + 16 * (V66 6 10).toInt := t84
                  have r87 : 0 ≤ ((V66 6 10)).toInt ∧ ((V66 6 10)).toInt ≤ 4000 := hMV66 6 10
                  have hb88 : ∀ k, Rc gT (Crun gs (Istmt :: k)) (Cbad (V85 1 3).toInt) := fun k => Rc.go1 (hr73 k) ((sc_n wx37 (by rw [kd78]; omega)).trans (fl_eq (RelC.st rl71) (show (V85 1 3).toInt = 1 + 16 * (V66 6 10).toInt from by omega)))
                  have pq89 : (V85 1 2).toInt = ((V 1 2)).toInt := congrArg Int32.toInt ((ajV85 1 2 rfl).trans ((ajV66 1 2 rfl).trans ((ajV50 1 2 rfl).trans ((ajV34 1 2 rfl).trans (ajV24 1 2 rfl)))))
                  exact W.zret (v := z80) hx hb hr (nb_ok (by omega)) (fun t ht hW => ⟨⟨z80, (V85, L67), rfl, ⟨hMV85, agV85, alL67, (show 0 ≤ z80.toInt ∧ z80.toInt ≤ 1 from by first | omega | ((try (have i_t48 := Imp.go t48 (by omega))); (try (have i_t9 := Imp.go t9 (by omega))); (try (have i_t8 := Imp.go t8 (by omega))); (try (have i_t8 := Imp.go t8 (by omega))); (try (have i_t9 := Imp.go t9 (by omega))); (try (have i_t48 := Imp.go t48 (by omega))); omega)), (Imp.mk (fun hp => have hp : z80.toInt = 1 := hp; (show 24 * (b : Int) ≤ (V85 1 2).toInt ∧ (V85 1 2).toInt < 24 * (b : Int) + 24 from by first | omega | ((try (have i_t48 := Imp.go t48 (by omega))); (try (have i_t9 := Imp.go t9 (by omega))); (try (have i_t8 := Imp.go t8 (by omega))); (try (have i_t8 := Imp.go t8 (by omega))); (try (have i_t9 := Imp.go t9 (by omega))); (try (have i_t48 := Imp.go t48 (by omega))); omega)))), (Or.inr ⟨(by omega), hb88⟩)⟩, by rw [ht]; exact hP, va_K.moved hW.alike hK, hD⟩, hS.F ht⟩) hS.2.2 dX1_readComponent_90
                · skip
                  have f90 : 148 ≤ ((V66 6 9)).toInt := b_nlt rfl (by decide) c76
                  refine lv_aload_n hx hb dX1_readComponent_72 rfl (lv_at hl 1 rfl) ?_
                  refine va_get (D := D) (ci := 1) (v := .ref (ad 6)) (fs := (xfReader ad V66 L67 Z)) (C := RX1) (T := TX1) (N := 9) hx hb hg inX1 hown hK hP 1 xgReader rfl 0 (by decide) (hg _ w304) (fun _ h9 => h9) rfl dX1_readComponent_73 ?_
                  refine va_getN (D := D) (ci := 9) (v := .int (V66 6 9)) (fs := (xfTape ad V66 L67 Z)) (C := RX9) (T := TX9) (N := 12) hx hb hg inX9 hown hK hP 6 xgTape rfl 9 (by decide) (hnw.use 262 n262 rfl) (fun _ h9 => h9) rfl dX1_readComponent_76 ?_
                  refine lv_sipush (v := 151) hx hb dX1_readComponent_79 (by decide) ?_
                  refine lv_icmp_le (tgt := 91) hx hb dX1_readComponent_82 (by decide) (fun c91 => ?_) (fun c91 => ?_)
                  · skip
                    have f92 : ((V66 6 9)).toInt ≤ 151 := b_le rfl (by decide) c91
                    refine lv_aload_n hx hb dX1_readComponent_91 rfl (lv_at hl 1 rfl) ?_
                    refine va_get (D := D) (ci := 1) (v := rfN ad 38 (V66 1 1)) (fs := (xfReader ad V66 L67 Z)) (C := RX1) (T := TX1) (N := 9) hx hb hg inX1 hown hK hP 1 xgReader rfl 1 (by decide) (hg _ w305) (fun _ h9 => h9) rfl dX1_readComponent_92 ?_
                    have pq93 : (V66 1 1).toInt = ((V 1 1)).toInt := congrArg Int32.toInt ((ajV66 1 1 rfl).trans ((ajV50 1 1 rfl).trans ((ajV34 1 1 rfl).trans (ajV24 1 1 rfl))))
                    refine g_topv (v := .ref (ad (38 + b))) (rfN_r (by first | omega | ((try (have i_t48 := Imp.go t48 (by omega))); (try (have i_t9 := Imp.go t9 (by omega))); (try (have i_t8 := Imp.go t8 (by omega))); (try (have i_t8 := Imp.go t8 (by omega))); (try (have i_t9 := Imp.go t9 (by omega))); (try (have i_t48 := Imp.go t48 (by omega))); omega))) ?_
                    refine va_getN (D := D) (ci := 0) (v := .ref (ad (64 + b))) (fs := (xfBook ad V66 b)) (C := RX0) (T := TX0) (N := 13) hx hb hg inX0 hown hK hP (38 + b) (xgBook hb2) rfl 7 (by decide) (hnw.use 616 n616 rfl) (fun _ h9 => h9) rfl dX1_readComponent_95 ?_
                    refine lv_aload_n hx hb dX1_readComponent_98 rfl (lv_at hl 1 rfl) ?_
                    refine va_get (D := D) (ci := 1) (v := rfN ad 38 (V66 1 1)) (fs := (xfReader ad V66 L67 Z)) (C := RX1) (T := TX1) (N := 9) hx hb hg inX1 hown hK hP 1 xgReader rfl 1 (by decide) (hg _ w305) (fun _ h9 => h9) rfl dX1_readComponent_99 ?_
                    refine g_topv (v := .ref (ad (38 + b))) (rfN_r (by first | omega | ((try (have i_t48 := Imp.go t48 (by omega))); (try (have i_t9 := Imp.go t9 (by omega))); (try (have i_t8 := Imp.go t8 (by omega))); (try (have i_t8 := Imp.go t8 (by omega))); (try (have i_t9 := Imp.go t9 (by omega))); (try (have i_t48 := Imp.go t48 (by omega))); omega))) ?_
                    refine va_getN (D := D) (ci := 0) (v := .ref (ad (40 + (5 * b + 2)))) (fs := (xfBook ad V66 b)) (C := RX0) (T := TX0) (N := 13) hx hb hg inX0 hown hK hP (38 + b) (xgBook hb2) rfl 2 (by decide) (hnw.use 601 n601 rfl) (fun _ h9 => h9) rfl dX1_readComponent_102 ?_
                    refine va_getN (D := D) (ci := 6) (v := .int (V66 43 (5 * b + 2))) (fs := (xfNames ad V66 (5 * b + 2))) (C := RX6) (T := TX6) (N := 2) hx hb hg inX6 hown hK hP (40 + (5 * b + 2)) (xgNames il4) rfl 1 (by decide) (hnw.use 484 n484 rfl) (fun _ h9 => h9) rfl dX1_readComponent_105 ?_
                    refine g_top (v := (V 43 (5 * b + 2))) ((ajV66 43 (5 * b + 2) rfl).trans ((ajV50 43 (5 * b + 2) rfl).trans ((ajV34 43 (5 * b + 2) rfl).trans (ajV24 43 (5 * b + 2) rfl)))) ?_
                    have r94 : 0 ≤ ((V 43 (5 * b + 2))).toInt ∧ ((V 43 (5 * b + 2))).toInt ≤ ((xcap (5 * b + 2) : Nat) : Int) := hMV 43 (5 * b + 2)
                    have il95 : b < 2 := by first | omega | ((try (have i_t48 := Imp.go t48 (by omega))); (try (have i_t9 := Imp.go t9 (by omega))); (try (have i_t8 := Imp.go t8 (by omega))); (try (have i_t8 := Imp.go t8 (by omega))); (try (have i_t9 := Imp.go t9 (by omega))); (try (have i_t48 := Imp.go t48 (by omega))); omega)
                    refine va_aldq (D := D) (i := (V 43 (5 * b + 2))) hx hb hK hP (64 + b) (57 + b) (xgcomps il95) (xtcomps il95) (i_in (a := ((V 43 (5 * b + 2))).toInt) rfl (by first | omega | ((try (have i_t48 := Imp.go t48 (by omega))); (try (have i_t9 := Imp.go t9 (by omega))); (try (have i_t8 := Imp.go t8 (by omega))); (try (have i_t8 := Imp.go t8 (by omega))); (try (have i_t9 := Imp.go t9 (by omega))); (try (have i_t48 := Imp.go t48 (by omega))); omega))) dX1_readComponent_108 ?_
                    have kc96 := i_clamp (x := (V 43 (5 * b + 2))) rfl (by first | omega | ((try (have i_t48 := Imp.go t48 (by omega))); (try (have i_t9 := Imp.go t9 (by omega))); (try (have i_t8 := Imp.go t8 (by omega))); (try (have i_t8 := Imp.go t8 (by omega))); (try (have i_t9 := Imp.go t9 (by omega))); (try (have i_t48 := Imp.go t48 (by omega))); omega))
                    refine g_topv (v := .ref (ad (72 + (24 * b + (Int32.toNatClampNeg (V 43 (5 * b + 2))))))) (congrArg va_rf (if_pos (by first | omega | ((try (have i_t48 := Imp.go t48 (by omega))); (try (have i_t9 := Imp.go t9 (by omega))); (try (have i_t8 := Imp.go t8 (by omega))); (try (have i_t8 := Imp.go t8 (by omega))); (try (have i_t9 := Imp.go t9 (by omega))); (try (have i_t48 := Imp.go t48 (by omega))); omega)))) ?_
                    have il97 : (24 * b + (Int32.toNatClampNeg (V 43 (5 * b + 2)))) < 48 := by first | omega | ((try (have i_t48 := Imp.go t48 (by omega))); (try (have i_t9 := Imp.go t9 (by omega))); (try (have i_t8 := Imp.go t8 (by omega))); (try (have i_t8 := Imp.go t8 (by omega))); (try (have i_t9 := Imp.go t9 (by omega))); (try (have i_t48 := Imp.go t48 (by omega))); omega)
                    refine lv_astore_n (lv' := [(3, .ref (ad (72 + (24 * b + (Int32.toNatClampNeg (V 43 (5 * b + 2))))))), (1, .long (L35 1 5)), (0, .ref (ad 1))]) hx hb dX1_readComponent_109 rfl hl (by decide) rfl (fun ls hl => ?_)
                    refine lv_aload_n hx hb dX1_readComponent_110 rfl (lv_at hl 0 rfl) ?_
                    refine gA_void (gA_runV (As := []) (rest := []) (ci := 3) (q0 := (72 + (24 * b + (Int32.toNatClampNeg (V 43 (5 * b + 2)))))) hx hb hml hown hg hP hD hK hS hA hnw hgk (x_cclear l D ks H.size ad kk V66 L67 Z ((24 * b + (Int32.toNatClampNeg (V 43 (5 * b + 2))))) hMV66 (show (24 * b + (Int32.toNatClampNeg (V 43 (5 * b + 2)))) < 48 from by first | omega | ((try (have i_t48 := Imp.go t48 (by omega))); (try (have i_t9 := Imp.go t9 (by omega))); (try (have i_t8 := Imp.go t8 (by omega))); (try (have i_t8 := Imp.go t8 (by omega))); (try (have i_t9 := Imp.go t9 (by omega))); (try (have i_t48 := Imp.go t48 (by omega))); omega))) w914 w915 w916 w169 w917 rfl (xgComp il97) hdV_yX3_clear ⟨Nat.le_of_ble_eq_true rfl, Nat.le_of_ble_eq_true rfl⟩ rfl hl.1 rfl (Nat.le_of_ble_eq_true rfl) dX1_readComponent_111 ⟨Nat.le_of_ble_eq_true rfl, Nat.le_of_ble_eq_true rfl⟩) hP hD hK hS hA (fun u99 H locs w100 hP hD hK hS => ?_)
                    obtain ⟨V109, L110⟩ := u99
                    obtain ⟨hMV109, ajV109, axL110, fyV109, t101, t102, t103, t104, t105, t106, t107, t108⟩ := w100
                    have axL110 : L67 = L110 := Eq.symm axL110
                    subst axL110
                    have hP : va_P D vwCl (xw ad kk V109 L67 Z) H := hP
                    have hD : va_D A (xw ad kk V109 L67 Z) := hD
                    have hMV109 : rgd bX V109 := hMV109
                    have ajV109 : agr [] [49, 50, 51, 52, 53, 54, 55, 56, 57, 61] V66 V109 := ajV109
                    have agV109 : agr [(1, 2), (1, 3), (1, 6), (1, 7), (1, 8), (6, 8), (6, 9), (6, 10)] [43, 44, 49, 50, 51, 52, 53, 54, 55, 56, 57, 61] V V109 := agV66.tr ajV109 (by decide) (by decide)
                    have t101 : (V109 56 (24 * b + (Int32.toNatClampNeg (V 43 (5 * b + 2))))).toInt = -1 := t101
                    have t102 : (V109 57 (24 * b + (Int32.toNatClampNeg (V 43 (5 * b + 2))))).toInt = -1 := t102
                    have t103 : (V109 49 (24 * b + (Int32.toNatClampNeg (V 43 (5 * b + 2))))).toInt = 0 := t103
                    have t104 : (∀ q : Nat, (q : Int) < 20 → (V109 61 (20 * (24 * b + (Int32.toNatClampNeg (V 43 (5 * b + 2)))) + q)).toInt = -1) := t104
                    have t105 : (∀ q : Nat, ¬ (20 * (24 * b + (Int32.toNatClampNeg (V 43 (5 * b + 2)))) ≤ q ∧ q < 20 * (24 * b + (Int32.toNatClampNeg (V 43 (5 * b + 2)))) + 20) → V109 61 q = V66 61 q) := t105
                    have t106 : (∀ q : Nat, ¬ q = (24 * b + (Int32.toNatClampNeg (V 43 (5 * b + 2)))) → V109 56 q = V66 56 q) := t106
                    have t107 : (∀ q : Nat, ¬ q = (24 * b + (Int32.toNatClampNeg (V 43 (5 * b + 2)))) → V109 57 q = V66 57 q) := t107
                    have t108 : (∀ q : Nat, ¬ q = (24 * b + (Int32.toNatClampNeg (V 43 (5 * b + 2)))) → V109 49 q = V66 49 q) := t108
                    refine lv_aload_n hx hb dX1_readComponent_114 rfl (lv_at hl 0 rfl) ?_
                    refine lv_aload_n hx hb dX1_readComponent_115 rfl (lv_at hl 2 rfl) ?_
                    refine va_get (D := D) (ci := 1) (v := .int (V109 1 7)) (fs := (xfReader ad V109 L67 Z)) (C := RX1) (T := TX1) (N := 9) hx hb hg inX1 hown hK hP 1 xgReader rfl 7 (by decide) (hg _ w311) (fun _ h9 => h9) rfl dX1_readComponent_116 ?_
                    refine g_top (v := (V66 1 7)) (ajV109 1 7 rfl) ?_
                    refine va_putN (D := D) (ci := 3) (v := .int (V66 1 7)) (ty := tyX3 5) (fs := (xfComp ad V109 (24 * b + (Int32.toNatClampNeg (V 43 (5 * b + 2)))))) (C := RX3) (T := TX3) (N := 13) hx hb hg inX3 tyX3 tyX3_ok nmX3 hown hK hP hD hS (72 + (24 * b + (Int32.toNatClampNeg (V 43 (5 * b + 2))))) (xgComp il97) rfl 5 (by decide) (hnw.use 516 n516 rfl) (fun _ h9 => h9) rfl (tyX3_ok 5 (by decide)) rfl rfl (Nat.le_of_ble_eq_true rfl) dX1_readComponent_119 (fun H locs hP hD hS => ?_)
                    obtain ⟨V111, hV111⟩ : ∃ z, z = up2 V109 50 (24 * b + (Int32.toNatClampNeg (V 43 (5 * b + 2)))) (V66 1 7) := ⟨_, rfl⟩
                    have ew112 : (xw ad kk V109 L67 Z).set (72 + (24 * b + (Int32.toNatClampNeg (V 43 (5 * b + 2))))) ((ad (72 + (24 * b + (Int32.toNatClampNeg (V 43 (5 * b + 2)))))), .inr (3, (xfComp ad V109 (24 * b + (Int32.toNatClampNeg (V 43 (5 * b + 2))))).set 5 (.int (V66 1 7)))) = xw ad kk V111 L67 Z := by rw [hV111]; exact xpComp_under il97
                    have hP : va_P D vwCl (xw ad kk V111 L67 Z) H := by rw [← ew112]; exact hP
                    have hD : va_D A (xw ad kk V111 L67 Z) := by rw [← ew112]; exact hD
                    have hMV111 : rgd bX V111 := hMV109.put hV111 (i_full _)
                    have agV111 : agr [(1, 2), (1, 3), (1, 6), (1, 7), (1, 8), (6, 8), (6, 9), (6, 10)] [43, 44, 49, 50, 51, 52, 53, 54, 55, 56, 57, 61] V V111 := agV109.up hV111 rfl
                    refine lv_aload_n hx hb dX1_readComponent_122 rfl (lv_at hl 0 rfl) ?_
                    refine lv_aload_n hx hb dX1_readComponent_123 rfl (lv_at hl 2 rfl) ?_
                    refine va_get (D := D) (ci := 1) (v := .ref (ad 6)) (fs := (xfReader ad V111 L67 Z)) (C := RX1) (T := TX1) (N := 9) hx hb hg inX1 hown hK hP 1 xgReader rfl 0 (by decide) (hg _ w304) (fun _ h9 => h9) rfl dX1_readComponent_124 ?_
                    refine va_getN (D := D) (ci := 9) (v := .int (V111 6 9)) (fs := (xfTape ad V111 L67 Z)) (C := RX9) (T := TX9) (N := 12) hx hb hg inX9 hown hK hP 6 xgTape rfl 9 (by decide) (hnw.use 262 n262 rfl) (fun _ h9 => h9) rfl dX1_readComponent_127 ?_
                    refine g_top (v := (V66 6 9)) ((up2_o hV111 (by decide)).trans (ajV109 6 9 rfl)) ?_
                    refine lv_sipush (v := 148) hx hb dX1_readComponent_130 (by decide) ?_
                    refine lv_isub hx hb dX1_readComponent_133 ?_
                    refine lv_topi (fun z113 ez113 => ?_)
                    have hz113 : z113.toInt = ((V66 6 9)).toInt - 148 := i_sub ez113 rfl (by decide) (by omega)
                    refine va_putN (D := D) (ci := 3) (v := .int z113) (ty := tyX3 6) (fs := (xfComp ad V111 (24 * b + (Int32.toNatClampNeg (V 43 (5 * b + 2)))))) (C := RX3) (T := TX3) (N := 13) hx hb hg inX3 tyX3 tyX3_ok nmX3 hown hK hP hD hS (72 + (24 * b + (Int32.toNatClampNeg (V 43 (5 * b + 2))))) (xgComp il97) rfl 6 (by decide) (hnw.use 520 n520 rfl) (fun _ h9 => h9) rfl (tyX3_ok 6 (by decide)) rfl rfl (Nat.le_of_ble_eq_true rfl) dX1_readComponent_134 (fun H locs hP hD hS => ?_)
                    obtain ⟨V114, hV114⟩ : ∃ z, z = up2 V111 51 (24 * b + (Int32.toNatClampNeg (V 43 (5 * b + 2)))) z113 := ⟨_, rfl⟩
                    have ew115 : (xw ad kk V111 L67 Z).set (72 + (24 * b + (Int32.toNatClampNeg (V 43 (5 * b + 2))))) ((ad (72 + (24 * b + (Int32.toNatClampNeg (V 43 (5 * b + 2)))))), .inr (3, (xfComp ad V111 (24 * b + (Int32.toNatClampNeg (V 43 (5 * b + 2))))).set 6 (.int z113))) = xw ad kk V114 L67 Z := by rw [hV114]; exact xpComp_scope il97
                    have hP : va_P D vwCl (xw ad kk V114 L67 Z) H := by rw [← ew115]; exact hP
                    have hD : va_D A (xw ad kk V114 L67 Z) := by rw [← ew115]; exact hD
                    have hMV114 : rgd bX V114 := hMV111.put hV114 (show 0 ≤ z113.toInt ∧ z113.toInt ≤ 3 from by first | omega | ((try (have i_t48 := Imp.go t48 (by omega))); (try (have i_t9 := Imp.go t9 (by omega))); (try (have i_t8 := Imp.go t8 (by omega))); (try (have i_t8 := Imp.go t8 (by omega))); (try (have i_t9 := Imp.go t9 (by omega))); (try (have i_t48 := Imp.go t48 (by omega))); omega))
                    have agV114 : agr [(1, 2), (1, 3), (1, 6), (1, 7), (1, 8), (6, 8), (6, 9), (6, 10)] [43, 44, 49, 50, 51, 52, 53, 54, 55, 56, 57, 61] V V114 := agV111.up hV114 rfl
                    refine lv_aload_n hx hb dX1_readComponent_137 rfl (lv_at hl 2 rfl) ?_
                    refine va_get (D := D) (ci := 1) (v := .ref (ad 6)) (fs := (xfReader ad V114 L67 Z)) (C := RX1) (T := TX1) (N := 9) hx hb hg inX1 hown hK hP 1 xgReader rfl 0 (by decide) (hg _ w304) (fun _ h9 => h9) rfl dX1_readComponent_138 ?_
                    have pq117 : (V66 1 2).toInt = ((V 1 2)).toInt := congrArg Int32.toInt ((ajV66 1 2 rfl).trans ((ajV50 1 2 rfl).trans ((ajV34 1 2 rfl).trans (ajV24 1 2 rfl))))
                    have rl116 : RelC V114 L67 b gT sx69 := RelC.agn rl71 (by omega) (show agr [] [49, 50, 51, 52, 53, 54, 55, 56, 57, 61] V66 V114 from (agr.up (agr.up (agr.tr agr.rf ajV109 (by decide) (by decide)) hV111 rfl) hV114 rfl)) (by decide) (show agL [] L67 L67 from agL.rf) (by decide)
                    have kd118 : gT.1 (sx69.1 0) = ((V66 6 9)).toInt := (RelC.kd rl116).trans (congrArg Int32.toInt ((up2_o hV114 (by decide)).trans ((up2_o hV111 (by decide)).trans (ajV109 6 9 rfl))))
                    have hr119 : ∀ k, Rc gT (Crun gs (Istmt :: k)) (Crun (scopeS sx69) (Icalled :: Irank :: IwhenI :: Itake 123 :: IaddNm wx37 :: Imember :: k)) := fun k => Rc.go1 (hr73 k) (sc_y wx37 (by rw [kd118]; omega))
                    have l8120 := RelC.l8 rl116
                    have pq121 : (V114 6 8).toInt = ((V66 6 8)).toInt := congrArg Int32.toInt ((up2_o hV114 (by decide)).trans ((up2_o hV111 (by decide)).trans (ajV109 6 8 rfl)))
                    have r122 : 0 ≤ ((V66 6 8)).toInt ∧ ((V66 6 8)).toInt ≤ 4000 := hMV66 6 8
                    have pq123 : (V114 6 7).toInt = ((V 6 7)).toInt := congrArg Int32.toInt ((up2_o hV114 (by decide)).trans ((up2_o hV111 (by decide)).trans ((ajV109 6 7 rfl).trans ((ajV66 6 7 rfl).trans ((ajV50 6 7 rfl).trans ((ajV34 6 7 rfl).trans (ajV24 6 7 rfl)))))))
                    have pq124 : (V114 6 9).toInt = ((V66 6 9)).toInt := congrArg Int32.toInt ((up2_o hV114 (by decide)).trans ((up2_o hV111 (by decide)).trans (ajV109 6 9 rfl)))
                    have lk125 := RelC.lk rl116 (show (V114 6 9).toInt ≠ 0 from by omega)
                    refine gA_void (gA_runV (As := []) (rest := []) (ci := 9) (q0 := 6) hx hb hml hown hg hP hD hK hS hA hnw hgk (x_next2 l D ks H.size ad kk V114 L67 Z  hMV114 (show (V114 6 8).toInt ≤ (V114 6 7).toInt from by first | omega | ((try (have i_t48 := Imp.go t48 (by omega))); (try (have i_t9 := Imp.go t9 (by omega))); (try (have i_t8 := Imp.go t8 (by omega))); (try (have i_t8 := Imp.go t8 (by omega))); (try (have i_t9 := Imp.go t9 (by omega))); (try (have i_t48 := Imp.go t48 (by omega))); omega))) w871 w852 w853 w157 w854 rfl xgTape hdV_yX9_next ⟨Nat.le_of_ble_eq_true rfl, Nat.le_of_ble_eq_true rfl⟩ rfl hl.1 rfl (Nat.le_of_ble_eq_true rfl) dX1_readComponent_141 ⟨Nat.le_of_ble_eq_true rfl, Nat.le_of_ble_eq_true rfl⟩) hP hD hK hS hA (fun u127 H locs w128 hP hD hK hS => ?_)
                    obtain ⟨V131, L132⟩ := u127
                    obtain ⟨hMV131, ajV131, axL132, t129, t130⟩ := w128
                    have alL132 : agL [1, 6, 44] L L132 := agL.tr alL67 axL132 (by decide)
                    have hP : va_P D vwCl (xw ad kk V131 L132 Z) H := hP
                    have hD : va_D A (xw ad kk V131 L132 Z) := hD
                    have hMV131 : rgd bX V131 := hMV131
                    have ajV131 : agr [(6, 8), (6, 9), (6, 10)] [] V114 V131 := ajV131
                    have agV131 : agr [(1, 2), (1, 3), (1, 6), (1, 7), (1, 8), (6, 8), (6, 9), (6, 10)] [43, 44, 49, 50, 51, 52, 53, 54, 55, 56, 57, 61] V V131 := agV114.tr ajV131 (by decide) (by decide)
                    have t129 : (V131 6 8).toInt ≤ (V131 6 7).toInt := t129
                    have t130 : CUR V131 L132 (Int32.toNatClampNeg (V114 6 8)) := t130
                    have r133 : 0 ≤ ((V131 6 8)).toInt ∧ ((V131 6 8)).toInt ≤ 4000 := hMV131 6 8
                    have pq134 : (V131 6 7).toInt = ((V 6 7)).toInt := congrArg Int32.toInt ((ajV131 6 7 rfl).trans ((up2_o hV114 (by decide)).trans ((up2_o hV111 (by decide)).trans ((ajV109 6 7 rfl).trans ((ajV66 6 7 rfl).trans ((ajV50 6 7 rfl).trans ((ajV34 6 7 rfl).trans (ajV24 6 7 rfl))))))))
                    have rl135 : RelC V131 L132 b gT (nx sx69 1) := RelC.nx1 rl116 ajV131 (by decide) axL132 (by decide) (by rw [← lk125]; exact t130) (ajV131 1 3 rfl)
                    have pq137 : (V131 1 2).toInt = ((V 1 2)).toInt := congrArg Int32.toInt ((ajV131 1 2 rfl).trans ((up2_o hV114 (by decide)).trans ((up2_o hV111 (by decide)).trans ((ajV109 1 2 rfl).trans ((ajV66 1 2 rfl).trans ((ajV50 1 2 rfl).trans ((ajV34 1 2 rfl).trans (ajV24 1 2 rfl))))))))
                    have rl136 : RelC V131 L132 b gT (scopeS sx69) := RelC.sc rl135 (by omega)
                    refine lv_aload_n hx hb dX1_readComponent_144 rfl (lv_at hl 2 rfl) ?_
                    refine lv_aload_n hx hb dX1_readComponent_145 rfl (lv_at hl 0 rfl) ?_
                    have pq138 : (V131 1 1).toInt = ((V 1 1)).toInt := congrArg Int32.toInt ((ajV131 1 1 rfl).trans ((up2_o hV114 (by decide)).trans ((up2_o hV111 (by decide)).trans ((ajV109 1 1 rfl).trans ((ajV66 1 1 rfl).trans ((ajV50 1 1 rfl).trans ((ajV34 1 1 rfl).trans (ajV24 1 1 rfl))))))))
                    refine gA_int (gA_runV (As := [.ref (ad (72 + (24 * b + (Int32.toNatClampNeg (V 43 (5 * b + 2))))))]) (rest := []) (ci := 1) (q0 := 1) hx hb hml hown hg hP hD hK hS hA hnw hgk (x_readExtras3 l D ks H.size ad kk V131 L132 Z (b) (gT) ((scopeS sx69)) ((24 * b + (Int32.toNatClampNeg (V 43 (5 * b + 2))))) hMV131 (show b < 2 from by first | omega | ((try (have i_t48 := Imp.go t48 (by omega))); (try (have i_t9 := Imp.go t9 (by omega))); (try (have i_t8 := Imp.go t8 (by omega))); (try (have i_t8 := Imp.go t8 (by omega))); (try (have i_t9 := Imp.go t9 (by omega))); (try (have i_t48 := Imp.go t48 (by omega))); omega)) (show (V131 1 1).toInt = (b : Int) from by first | omega | ((try (have i_t48 := Imp.go t48 (by omega))); (try (have i_t9 := Imp.go t9 (by omega))); (try (have i_t8 := Imp.go t8 (by omega))); (try (have i_t8 := Imp.go t8 (by omega))); (try (have i_t9 := Imp.go t9 (by omega))); (try (have i_t48 := Imp.go t48 (by omega))); omega)) rl136 (show (24 * b + (Int32.toNatClampNeg (V 43 (5 * b + 2)))) < 48 from by first | omega | ((try (have i_t48 := Imp.go t48 (by omega))); (try (have i_t9 := Imp.go t9 (by omega))); (try (have i_t8 := Imp.go t8 (by omega))); (try (have i_t8 := Imp.go t8 (by omega))); (try (have i_t9 := Imp.go t9 (by omega))); (try (have i_t48 := Imp.go t48 (by omega))); omega)) (show 24 * b ≤ (24 * b + (Int32.toNatClampNeg (V 43 (5 * b + 2)))) from by first | omega | ((try (have i_t48 := Imp.go t48 (by omega))); (try (have i_t9 := Imp.go t9 (by omega))); (try (have i_t8 := Imp.go t8 (by omega))); (try (have i_t8 := Imp.go t8 (by omega))); (try (have i_t9 := Imp.go t9 (by omega))); (try (have i_t48 := Imp.go t48 (by omega))); omega)) (show (24 * b + (Int32.toNatClampNeg (V 43 (5 * b + 2)))) < 24 * b + 24 from by first | omega | ((try (have i_t48 := Imp.go t48 (by omega))); (try (have i_t9 := Imp.go t9 (by omega))); (try (have i_t8 := Imp.go t8 (by omega))); (try (have i_t8 := Imp.go t8 (by omega))); (try (have i_t9 := Imp.go t9 (by omega))); (try (have i_t48 := Imp.go t48 (by omega))); omega))) w919 w921 w14 w162 w922 rfl xgReader hdV_yX1_readExtras ⟨Nat.le_of_ble_eq_true rfl, Nat.le_of_ble_eq_true rfl⟩ rfl hl.1 rfl (Nat.le_of_ble_eq_true rfl) dX1_readComponent_146 ⟨Nat.le_of_ble_eq_true rfl, Nat.le_of_ble_eq_true rfl⟩) hP hD hK hS hA (fun z139 u140 H locs w141 hP hD hK hS => ?_)
                    obtain ⟨V143, L144⟩ := u140
                    obtain ⟨hMV143, ajV143, axL144, rgz139, t142⟩ := w141
                    have alL144 : agL [1, 6, 44] L L144 := agL.tr alL132 axL144 (by decide)
                    have hP : va_P D vwCl (xw ad kk V143 L144 Z) H := hP
                    have hD : va_D A (xw ad kk V143 L144 Z) := hD
                    have hMV143 : rgd bX V143 := hMV143
                    have ajV143 : agr [(1, 3), (1, 6), (1, 8), (6, 8), (6, 9), (6, 10)] [43, 44, 52, 53, 54, 55] V131 V143 := ajV143
                    have agV143 : agr [(1, 2), (1, 3), (1, 6), (1, 7), (1, 8), (6, 8), (6, 9), (6, 10)] [43, 44, 49, 50, 51, 52, 53, 54, 55, 56, 57, 61] V V143 := agV131.tr ajV143 (by decide) (by decide)
                    have rgz139 : 0 ≤ z139.toInt ∧ z139.toInt ≤ 1 := rgz139
                    have t142 : Rd gT (scopeS sx69) (fun k => Icalled :: Irank :: IwhenI :: k) (fun k => k) z139.toInt (V143 1 3).toInt (fun s9 => RelC V143 L144 b gT s9 ∧ keepS (scopeS sx69) 0 s9) := t142
                    rcases t142 with ⟨q145, sx146, h147, rl148, kp149⟩ | ⟨q145, h147⟩
                    · skip
                      have hr150 : ∀ k, Rc gT (Crun gs (Istmt :: k)) (Crun sx146 (Itake 123 :: IaddNm wx37 :: Imember :: k)) := fun k => (hr119 k).tr (h147 (Itake 123 :: IaddNm wx37 :: Imember :: k))
                      refine lv_if_eq (tgt := 161) hx hb dX1_readComponent_149 (by decide) (fun c151 => ?_) (fun c151 => ?_)
                      · skip
                        have f152 : z139.toInt = 0 := b_eq rfl (by decide) c151
                        exfalso; first | omega | ((try (have i_t48 := Imp.go t48 (by omega))); (try (have i_t9 := Imp.go t9 (by omega))); (try (have i_t8 := Imp.go t8 (by omega))); (try (have i_t8 := Imp.go t8 (by omega))); (try (have i_t9 := Imp.go t9 (by omega))); (try (have i_t48 := Imp.go t48 (by omega))); omega)
                      · skip
                        have f153 : z139.toInt ≠ 0 := b_neq rfl (by decide) c151
                        refine lv_aload_n hx hb dX1_readComponent_152 rfl (lv_at hl 2 rfl) ?_
                        refine lv_bipush (v := 123) hx hb dX1_readComponent_153 (by decide) ?_
                        have r154 : Int32.toInt 123 = 123 := by decide
                        refine gA_int (gA_runV (As := [.int 123]) (rest := []) (ci := 1) (q0 := 1) hx hb hml hown hg hP hD hK hS hA hnw hgk (x_take2 l D ks H.size ad kk V143 L144 Z 123 ((sx146.1 0)) hMV143 (rl148).1 (rl148).2.1.1 (show 1 ≤ (Int32.toInt 123) from by first | omega | ((try (have i_t48 := Imp.go t48 (by omega))); (try (have i_t9 := Imp.go t9 (by omega))); (try (have i_t8 := Imp.go t8 (by omega))); (try (have i_t8 := Imp.go t8 (by omega))); (try (have i_t9 := Imp.go t9 (by omega))); (try (have i_t48 := Imp.go t48 (by omega))); omega))) w893 w895 w10 w162 w896 rfl xgReader hdV_yX1_take ⟨Nat.le_of_ble_eq_true rfl, Nat.le_of_ble_eq_true rfl⟩ rfl hl.1 rfl (Nat.le_of_ble_eq_true rfl) dX1_readComponent_155 ⟨Nat.le_of_ble_eq_true rfl, Nat.le_of_ble_eq_true rfl⟩) hP hD hK hS hA (fun z155 u156 H locs w157 hP hD hK hS => ?_)
                        obtain ⟨V160, L161⟩ := u156
                        obtain ⟨hMV160, ajV160, axL161, rgz155, t158, t159⟩ := w157
                        have alL161 : agL [1, 6, 44] L L161 := agL.tr alL144 axL161 (by decide)
                        have hP : va_P D vwCl (xw ad kk V160 L161 Z) H := hP
                        have hD : va_D A (xw ad kk V160 L161 Z) := hD
                        have hMV160 : rgd bX V160 := hMV160
                        have ajV160 : agr [(1, 3), (6, 8), (6, 9), (6, 10)] [] V143 V160 := ajV160
                        have agV160 : agr [(1, 2), (1, 3), (1, 6), (1, 7), (1, 8), (6, 8), (6, 9), (6, 10)] [43, 44, 49, 50, 51, 52, 53, 54, 55, 56, 57, 61] V V160 := agV143.tr ajV160 (by decide) (by decide)
                        have rgz155 : 0 ≤ z155.toInt ∧ z155.toInt ≤ 1 := rgz155
                        have t158 : Imp (z155.toInt = 0) (1 ≤ (V160 1 3).toInt) := t158
                        have t159 : (z155.toInt = 1 ∧ (V143 12 (sx146.1 0)).toInt = (Int32.toInt 123) ∧ CUR V160 L161 ((sx146.1 0) + 1) ∧ V160 1 3 = V143 1 3) ∨ (z155.toInt = 0 ∧ (V143 12 (sx146.1 0)).toInt ≠ (Int32.toInt 123) ∧ (V160 1 3).toInt = 1 + 16 * (V143 13 (sx146.1 0)).toInt) := t159
                        rcases t159 with ⟨q162, h163, k164, k165⟩ | ⟨q162, h163, k164⟩
                        · skip
                          have rl166 : RelC V160 L161 b gT (nx sx146 1) := RelC.nx1 rl148 ajV160 (by decide) axL161 (by decide) k164 k165
                          have hr167 : ∀ k, Rc gT (Crun gs (Istmt :: k)) (Crun (nx sx146 1) (IaddNm wx37 :: Imember :: k)) := fun k => Rc.go1 (hr150 k) (tk_y (rl148.tok.1.trans (h163.trans (by decide))))
                          refine lv_if_ne (tgt := 163) hx hb dX1_readComponent_158 (by decide) (fun c168 => ?_) (fun c168 => ?_)
                          · skip
                            have f169 : z155.toInt ≠ 0 := b_neq rfl (by decide) c168
                            refine lv_aload_n hx hb dX1_readComponent_163 rfl (lv_at hl 2 rfl) ?_
                            refine va_get (D := D) (ci := 1) (v := rfN ad 38 (V160 1 1)) (fs := (xfReader ad V160 L161 Z)) (C := RX1) (T := TX1) (N := 9) hx hb hg inX1 hown hK hP 1 xgReader rfl 1 (by decide) (hg _ w305) (fun _ h9 => h9) rfl dX1_readComponent_164 ?_
                            have pq170 : (V160 1 1).toInt = ((V 1 1)).toInt := congrArg Int32.toInt ((ajV160 1 1 rfl).trans ((ajV143 1 1 rfl).trans ((ajV131 1 1 rfl).trans ((up2_o hV114 (by decide)).trans ((up2_o hV111 (by decide)).trans ((ajV109 1 1 rfl).trans ((ajV66 1 1 rfl).trans ((ajV50 1 1 rfl).trans ((ajV34 1 1 rfl).trans (ajV24 1 1 rfl))))))))))
                            refine g_topv (v := .ref (ad (38 + b))) (rfN_r (by first | omega | ((try (have i_t158 := Imp.go t158 (by omega))); (try (have i_t48 := Imp.go t48 (by omega))); (try (have i_t9 := Imp.go t9 (by omega))); (try (have i_t8 := Imp.go t8 (by omega))); (try (have i_t8 := Imp.go t8 (by omega))); (try (have i_t9 := Imp.go t9 (by omega))); (try (have i_t48 := Imp.go t48 (by omega))); (try (have i_t158 := Imp.go t158 (by omega))); omega))) ?_
                            refine va_getN (D := D) (ci := 0) (v := .ref (ad (40 + (5 * b + 2)))) (fs := (xfBook ad V160 b)) (C := RX0) (T := TX0) (N := 13) hx hb hg inX0 hown hK hP (38 + b) (xgBook hb2) rfl 2 (by decide) (hnw.use 601 n601 rfl) (fun _ h9 => h9) rfl dX1_readComponent_167 ?_
                            refine lv_lload_n hx hb dX1_readComponent_170 rfl (lv_at hl 1 rfl) ?_
                            have ad1 := (rl166.2.2.1 2 (by decide)).1
                            have ad2 := congrArg List.length (((keepT.tr (keepS.tr (keepS.tr (keepS.tr (keepS.tr (keepS.tr (keepS.rf : keepS gs 0 gs) (keepS.n1 1)) (keepS.n1 1)) (keepS.n1 1)) kp72) (keepS.n1 1)) (keepS.tr (keepS.tr (keepS.rf : keepS (scopeS sx69) 0 (scopeS sx69)) kp149) (keepS.n1 1)))).2.2.1 2 (by decide))
                            have ad3 := ln0
                            refine gA_int (gA_runV (As := [.long (L35 1 5)]) (rest := []) (ci := 6) (q0 := (40 + (5 * b + 2))) hx hb hml hown hg hP hD hK hS hA hnw hgk (x_add2 l D ks H.size ad kk V160 L161 Z (L35 1 5) ((5 * b + 2)) hMV160 (show (5 * b + 2) < 10 from by first | omega | ((try (have i_t158 := Imp.go t158 (by omega))); (try (have i_t48 := Imp.go t48 (by omega))); (try (have i_t9 := Imp.go t9 (by omega))); (try (have i_t8 := Imp.go t8 (by omega))); (try (have i_t8 := Imp.go t8 (by omega))); (try (have i_t9 := Imp.go t9 (by omega))); (try (have i_t48 := Imp.go t48 (by omega))); (try (have i_t158 := Imp.go t158 (by omega))); omega))) w897 w898 w899 w168 w900 rfl (xgNames il4) hdV_yX6_add ⟨Nat.le_of_ble_eq_true rfl, Nat.le_of_ble_eq_true rfl⟩ rfl hl.1 rfl (Nat.le_of_ble_eq_true rfl) dX1_readComponent_171 ⟨Nat.le_of_ble_eq_true rfl, Nat.le_of_ble_eq_true rfl⟩) hP hD hK hS hA (fun z171 u172 H locs w173 hP hD hK hS => ?_)
                            obtain ⟨V179, L180⟩ := u172
                            obtain ⟨hMV179, ajV179, axL180, fyV179, rgz171, t174, t175, t176, t177, t178⟩ := w173
                            have alL180 : agL [1, 6, 44] L L180 := agL.tr alL161 axL180 (by decide)
                            have hP : va_P D vwCl (xw ad kk V179 L180 Z) H := hP
                            have hD : va_D A (xw ad kk V179 L180 Z) := hD
                            have hMV179 : rgd bX V179 := hMV179
                            have ajV179 : agr [] [43, 44] V160 V179 := ajV179
                            have agV179 : agr [(1, 2), (1, 3), (1, 6), (1, 7), (1, 8), (6, 8), (6, 9), (6, 10)] [43, 44, 49, 50, 51, 52, 53, 54, 55, 56, 57, 61] V V179 := agV160.tr ajV179 (by decide) (by decide)
                            have rgz171 : (-1) ≤ z171.toInt ∧ z171.toInt ≤ 23 := rgz171
                            have t174 : z171.toInt < (V179 43 (5 * b + 2)).toInt := t174
                            have t175 : Imp ((V160 43 (5 * b + 2)).toInt < ((xcap (5 * b + 2) : Nat) : Int)) (z171.toInt = (V160 43 (5 * b + 2)).toInt ∧ (V179 43 (5 * b + 2)).toInt = (V160 43 (5 * b + 2)).toInt + 1) := t175
                            have t176 : Imp (((xcap (5 * b + 2) : Nat) : Int) ≤ (V160 43 (5 * b + 2)).toInt) (z171.toInt = -1 ∧ (V179 43 (5 * b + 2)).toInt = (V160 43 (5 * b + 2)).toInt) := t176
                            have t177 : ∀ n : Nat, ¬ n = (5 * b + 2) → V179 43 n = V160 43 n := t177
                            have t178 : (z171.toInt = -1 ∧ L180 = L161) ∨ (0 ≤ z171.toInt ∧ L180 = upL L161 44 (24 * (5 * b + 2) + Int32.toNatClampNeg (V160 43 (5 * b + 2))) (L35 1 5)) := t178
                            have ig183 := Imp.go t175 (by first | omega | ((try (have i_t158 := Imp.go t158 (by omega))); (try (have i_t48 := Imp.go t48 (by omega))); (try (have i_t9 := Imp.go t9 (by omega))); (try (have i_t8 := Imp.go t8 (by omega))); (try (have i_t8 := Imp.go t8 (by omega))); (try (have i_t9 := Imp.go t9 (by omega))); (try (have i_t48 := Imp.go t48 (by omega))); (try (have i_t158 := Imp.go t158 (by omega))); omega))
                            rcases t178 with ⟨q181, h182⟩ | ⟨q181, h182⟩
                            · exfalso; omega
                            · skip
                              have rl184 : RelC V179 L180 b gT (sA (nx sx146 1) 2 wx37) := RelC.add rl166 (by decide) ajV179 (by decide) t177 ig183.2 (by rw [← hw40]; exact h182) (sz24 hMV160) (by omega)
                              have hr185 : ∀ k, Rc gT (Crun gs (Istmt :: k)) (Crun (sA (nx sx146 1) 2 wx37) (Imember :: k)) := fun k => Rc.go1 (hr167 k) (m_addNm wx37)
                              refine lv_pop hx hb dX1_readComponent_174 rfl ?_
                              refine lv_aload_n hx hb dX1_readComponent_175 rfl (lv_at hl 2 rfl) ?_
                              refine lv_aload_n hx hb dX1_readComponent_176 rfl (lv_at hl 0 rfl) ?_
                              refine va_put (D := D) (ci := 1) (v := .ref (ad (72 + (24 * b + (Int32.toNatClampNeg (V 43 (5 * b + 2))))))) (ty := tyX1 2) (fs := (xfReader ad V179 L180 Z)) (C := RX1) (T := TX1) (N := 9) hx hb hg inX1 tyX1 tyX1_ok nmX1 hown hK hP hD hS 1 xgReader rfl 2 (by decide) (hg _ w306) (fun _ h9 => h9) rfl (tyX1_ok 2 (by decide)) rfl rfl (Nat.le_of_ble_eq_true rfl) dX1_readComponent_177 (fun H locs hP hD hS => ?_)
                              have r186 : (nI (24 * b + (Int32.toNatClampNeg (V 43 (5 * b + 2))))).toInt = (((24 * b + (Int32.toNatClampNeg (V 43 (5 * b + 2)))) : Nat) : Int) := nI_toInt (by omega)
                              obtain ⟨V187, hV187⟩ : ∃ z, z = up2 V179 1 2 (nI (24 * b + (Int32.toNatClampNeg (V 43 (5 * b + 2))))) := ⟨_, rfl⟩
                              have ew188 : (xw ad kk V179 L180 Z).set 1 ((ad 1), .inr (1, (xfReader ad V179 L180 Z).set 2 (.ref (ad (72 + (24 * b + (Int32.toNatClampNeg (V 43 (5 * b + 2))))))))) = xw ad kk V187 L180 Z := by rw [hV187]; exact xr_owner il97
                              have hP : va_P D vwCl (xw ad kk V187 L180 Z) H := by rw [← ew188]; exact hP
                              have hD : va_D A (xw ad kk V187 L180 Z) := by rw [← ew188]; exact hD
                              have hMV187 : rgd bX V187 := hMV179.put hV187 (show (-1) ≤ ((nI (24 * b + (Int32.toNatClampNeg (V 43 (5 * b + 2)))))).toInt ∧ ((nI (24 * b + (Int32.toNatClampNeg (V 43 (5 * b + 2)))))).toInt ≤ 47 from by first | omega | ((try (have i_t176 := Imp.go t176 (by omega))); (try (have i_t175 := Imp.go t175 (by omega))); (try (have i_t158 := Imp.go t158 (by omega))); (try (have i_t48 := Imp.go t48 (by omega))); (try (have i_t9 := Imp.go t9 (by omega))); (try (have i_t8 := Imp.go t8 (by omega))); (try (have i_t8 := Imp.go t8 (by omega))); (try (have i_t9 := Imp.go t9 (by omega))); (try (have i_t48 := Imp.go t48 (by omega))); (try (have i_t158 := Imp.go t158 (by omega))); (try (have i_t175 := Imp.go t175 (by omega))); (try (have i_t176 := Imp.go t176 (by omega))); omega))
                              have agV187 : agr [(1, 2), (1, 3), (1, 6), (1, 7), (1, 8), (6, 8), (6, 9), (6, 10)] [43, 44, 49, 50, 51, 52, 53, 54, 55, 56, 57, 61] V V187 := agV179.up hV187 rfl
                              have ow9 : OWr V179 (24 * b + (Int32.toNatClampNeg (V 43 (5 * b + 2)))) (sA (nx sx146 1) 2 wx37) := OWr.fresh (keepS.tr (keepS.tr (keepS.rf : keepS (scopeS sx69) 0 (scopeS sx69)) kp149) (keepS.n1 1)) (by rw [(show agr [(1, 3), (1, 6), (1, 8), (6, 8), (6, 9), (6, 10)] [43, 44, 50, 51, 52, 53, 54, 55] V109 V179 from (agr.tr (agr.tr (agr.tr (agr.tr (agr.up (agr.up agr.rf hV111 rfl) hV114 rfl) ajV131 (by decide) (by decide)) ajV143 (by decide) (by decide)) ajV160 (by decide) (by decide)) ajV179 (by decide) (by decide))) 49 _ rfl]; exact t103) (by rw [(show agr [(1, 3), (1, 6), (1, 8), (6, 8), (6, 9), (6, 10)] [43, 44, 50, 51, 52, 53, 54, 55] V109 V179 from (agr.tr (agr.tr (agr.tr (agr.tr (agr.up (agr.up agr.rf hV111 rfl) hV114 rfl) ajV131 (by decide) (by decide)) ajV143 (by decide) (by decide)) ajV160 (by decide) (by decide)) ajV179 (by decide) (by decide))) 56 _ rfl]; exact t101) (by rw [(show agr [(1, 3), (1, 6), (1, 8), (6, 8), (6, 9), (6, 10)] [43, 44, 50, 51, 52, 53, 54, 55] V109 V179 from (agr.tr (agr.tr (agr.tr (agr.tr (agr.up (agr.up agr.rf hV111 rfl) hV114 rfl) ajV131 (by decide) (by decide)) ajV143 (by decide) (by decide)) ajV160 (by decide) (by decide)) ajV179 (by decide) (by decide))) 57 _ rfl]; exact t102) (fun q hq => by rw [(show agr [(1, 3), (1, 6), (1, 8), (6, 8), (6, 9), (6, 10)] [43, 44, 50, 51, 52, 53, 54, 55] V109 V179 from (agr.tr (agr.tr (agr.tr (agr.tr (agr.up (agr.up agr.rf hV111 rfl) hV114 rfl) ajV131 (by decide) (by decide)) ajV143 (by decide) (by decide)) ajV160 (by decide) (by decide)) ajV179 (by decide) (by decide))) 61 _ rfl]; exact t104 q hq) wx37
                              have rl189 : RelC V187 L180 b gT (sA (nx sx146 1) 2 wx37) := RelC.os (o := (24 * b + (Int32.toNatClampNeg (V 43 (5 * b + 2))))) rl184 hV187 (nI_toInt (by omega)) ow9
                              refine lv_iconst (v := 1) hx hb dX1_readComponent_180 (by decide) ?_
                              have pq190 : (V187 1 2).toInt = ((nI (24 * b + (Int32.toNatClampNeg (V 43 (5 * b + 2)))))).toInt := congrArg Int32.toInt (up2_s hV187)
                              have ps191 : gs.1 0 + 1 ≤ (nx gs 1).1 0 := ((keepS.n1 1)).1
                              have ps192 : (nx gs 1).1 0 + 1 ≤ (nx (nx gs 1) 1).1 0 := ((keepS.n1 1)).1
                              have ps193 : (nx (nx gs 1) 1).1 0 + 1 ≤ (nx (nx (nx gs 1) 1) 1).1 0 := ((keepS.n1 1)).1
                              have ps194 : (nx (nx (nx gs 1) 1) 1).1 0 + 1 ≤ sx69.1 0 := (kp72).1
                              have ps195 : sx69.1 0 + 1 ≤ (nx sx69 1).1 0 := ((keepS.n1 1)).1
                              have ps196 : (scopeS sx69).1 0 = (nx sx69 1).1 0 := rfl
                              have ps197 : (scopeS sx69).1 0 + 0 ≤ sx146.1 0 := (kp149).1
                              have ps198 : sx146.1 0 + 1 ≤ (nx sx146 1).1 0 := ((keepS.n1 1)).1
                              have ps199 : (sA (nx sx146 1) 2 wx37).1 0 = (nx sx146 1).1 0 := rfl
                              exact W.zret (v := 1) hx hb hr rfl (fun t ht hW => ⟨⟨1, (V187, L180), rfl, ⟨hMV187, agV187, alL180, (by decide), (Imp.mk (fun _ => (show 24 * (b : Int) ≤ (V187 1 2).toInt ∧ (V187 1 2).toInt < 24 * (b : Int) + 24 from by first | omega | ((try (have i_t176 := Imp.go t176 (by omega))); (try (have i_t175 := Imp.go t175 (by omega))); (try (have i_t158 := Imp.go t158 (by omega))); (try (have i_t48 := Imp.go t48 (by omega))); (try (have i_t9 := Imp.go t9 (by omega))); (try (have i_t8 := Imp.go t8 (by omega))); (try (have i_t8 := Imp.go t8 (by omega))); (try (have i_t9 := Imp.go t9 (by omega))); (try (have i_t48 := Imp.go t48 (by omega))); (try (have i_t158 := Imp.go t158 (by omega))); (try (have i_t175 := Imp.go t175 (by omega))); (try (have i_t176 := Imp.go t176 (by omega))); omega)))), (Or.inl ⟨rfl, (sA (nx sx146 1) 2 wx37), hr185, rl189, (by omega)⟩)⟩, by rw [ht]; exact hP, va_K.moved hW.alike hK, hD⟩, hS.F ht⟩) hS.2.2 dX1_readComponent_181
                          · skip
                            have f200 : z155.toInt = 0 := b_eq rfl (by decide) c168
                            exfalso; first | omega | ((try (have i_t158 := Imp.go t158 (by omega))); (try (have i_t48 := Imp.go t48 (by omega))); (try (have i_t9 := Imp.go t9 (by omega))); (try (have i_t8 := Imp.go t8 (by omega))); (try (have i_t8 := Imp.go t8 (by omega))); (try (have i_t9 := Imp.go t9 (by omega))); (try (have i_t48 := Imp.go t48 (by omega))); (try (have i_t158 := Imp.go t158 (by omega))); omega)
                        · skip
                          have hb201 : ∀ k, Rc gT (Crun gs (Istmt :: k)) (Cbad (V160 1 3).toInt) := fun k => Rc.go1 (hr150 k) ((tk_n (fun h9 => h163 (rl148.tok.1.symm.trans (h9.trans (by decide))))).trans (fl_eq rl148.tok.2.2 k164))
                          refine lv_if_ne (tgt := 163) hx hb dX1_readComponent_158 (by decide) (fun c202 => ?_) (fun c202 => ?_)
                          · skip
                            have f203 : z155.toInt ≠ 0 := b_neq rfl (by decide) c202
                            exfalso; first | omega | ((try (have i_t158 := Imp.go t158 (by omega))); (try (have i_t48 := Imp.go t48 (by omega))); (try (have i_t9 := Imp.go t9 (by omega))); (try (have i_t8 := Imp.go t8 (by omega))); (try (have i_t8 := Imp.go t8 (by omega))); (try (have i_t9 := Imp.go t9 (by omega))); (try (have i_t48 := Imp.go t48 (by omega))); (try (have i_t158 := Imp.go t158 (by omega))); omega)
                          · skip
                            have f204 : z155.toInt = 0 := b_eq rfl (by decide) c202
                            refine lv_iconst (v := 0) hx hb dX1_readComponent_161 (by decide) ?_
                            have pq205 : (V160 1 2).toInt = ((V 1 2)).toInt := congrArg Int32.toInt ((ajV160 1 2 rfl).trans ((ajV143 1 2 rfl).trans ((ajV131 1 2 rfl).trans ((up2_o hV114 (by decide)).trans ((up2_o hV111 (by decide)).trans ((ajV109 1 2 rfl).trans ((ajV66 1 2 rfl).trans ((ajV50 1 2 rfl).trans ((ajV34 1 2 rfl).trans (ajV24 1 2 rfl))))))))))
                            exact W.zret (v := 0) hx hb hr rfl (fun t ht hW => ⟨⟨0, (V160, L161), rfl, ⟨hMV160, agV160, alL161, (by decide), (Imp.mk (fun hp => absurd hp (by decide))), (Or.inr ⟨rfl, hb201⟩)⟩, by rw [ht]; exact hP, va_K.moved hW.alike hK, hD⟩, hS.F ht⟩) hS.2.2 dX1_readComponent_162
                    · skip
                      have hb206 : ∀ k, Rc gT (Crun gs (Istmt :: k)) (Cbad (V143 1 3).toInt) := fun k => (hr119 k).tr (h147 (Itake 123 :: IaddNm wx37 :: Imember :: k))
                      refine lv_if_eq (tgt := 161) hx hb dX1_readComponent_149 (by decide) (fun c207 => ?_) (fun c207 => ?_)
                      · skip
                        have f208 : z139.toInt = 0 := b_eq rfl (by decide) c207
                        refine lv_iconst (v := 0) hx hb dX1_readComponent_161 (by decide) ?_
                        have pq209 : (V143 1 2).toInt = ((V 1 2)).toInt := congrArg Int32.toInt ((ajV143 1 2 rfl).trans ((ajV131 1 2 rfl).trans ((up2_o hV114 (by decide)).trans ((up2_o hV111 (by decide)).trans ((ajV109 1 2 rfl).trans ((ajV66 1 2 rfl).trans ((ajV50 1 2 rfl).trans ((ajV34 1 2 rfl).trans (ajV24 1 2 rfl)))))))))
                        exact W.zret (v := 0) hx hb hr rfl (fun t ht hW => ⟨⟨0, (V143, L144), rfl, ⟨hMV143, agV143, alL144, (by decide), (Imp.mk (fun hp => absurd hp (by decide))), (Or.inr ⟨rfl, hb206⟩)⟩, by rw [ht]; exact hP, va_K.moved hW.alike hK, hD⟩, hS.F ht⟩) hS.2.2 dX1_readComponent_162
                      · skip
                        have f210 : z139.toInt ≠ 0 := b_neq rfl (by decide) c207
                        exfalso; first | omega | ((try (have i_t48 := Imp.go t48 (by omega))); (try (have i_t9 := Imp.go t9 (by omega))); (try (have i_t8 := Imp.go t8 (by omega))); (try (have i_t8 := Imp.go t8 (by omega))); (try (have i_t9 := Imp.go t9 (by omega))); (try (have i_t48 := Imp.go t48 (by omega))); omega)
                  · skip
                    have f211 : 151 < ((V66 6 9)).toInt := b_nle rfl (by decide) c91
                    refine lv_aload_n hx hb dX1_readComponent_85 rfl (lv_at hl 1 rfl) ?_
                    refine lv_iconst (v := 1) hx hb dX1_readComponent_86 (by decide) ?_
                    have kd212 : gT.1 (sx69.1 0) = ((V66 6 9)).toInt := RelC.kd rl71
                    have r213 : Int32.toInt 1 = 1 := by decide
                    refine gA_int (gA_runV (As := [.int 1]) (rest := []) (ci := 1) (q0 := 1) hx hb hml hown hg hP hD hK hS hA hnw hgk (x_wrong2 l D ks H.size ad kk V66 L67 Z 1 hMV66 (by decide)) w867 w869 w6 w162 w870 rfl xgReader hdV_yX1_wrong ⟨Nat.le_of_ble_eq_true rfl, Nat.le_of_ble_eq_true rfl⟩ rfl hl.1 rfl (Nat.le_of_ble_eq_true rfl) dX1_readComponent_87 ⟨Nat.le_of_ble_eq_true rfl, Nat.le_of_ble_eq_true rfl⟩) hP hD hK hS hA (fun z214 u215 H locs w216 hP hD hK hS => ?_)
                    obtain ⟨V219, L220⟩ := u215
                    obtain ⟨hMV219, ajV219, axL220, rgz214, t217, t218⟩ := w216
                    have axL220 : L67 = L220 := Eq.symm axL220
                    subst axL220
                    have hP : va_P D vwCl (xw ad kk V219 L67 Z) H := hP
                    have hD : va_D A (xw ad kk V219 L67 Z) := hD
                    have hMV219 : rgd bX V219 := hMV219
                    have ajV219 : agr [(1, 3)] [] V66 V219 := ajV219
                    have agV219 : agr [(1, 2), (1, 3), (1, 6), (1, 7), (1, 8), (6, 8), (6, 9), (6, 10)] [43, 44, 49, 50, 51, 52, 53, 54, 55, 56, 57, 61] V V219 := agV66.tr ajV219 (by decide) (by decide)
                    have rgz214 : 0 ≤ z214.toInt ∧ z214.toInt ≤ 0 := rgz214
                    have t217 : 1 ≤ (V219 1 3).toInt := t217
                    have t218 : (V219 1 3).toInt = (Int32.toInt 1) + 16 * (V66 6 10).toInt := t218
                    have r221 : 0 ≤ ((V66 6 10)).toInt ∧ ((V66 6 10)).toInt ≤ 4000 := hMV66 6 10
                    have hb222 : ∀ k, Rc gT (Crun gs (Istmt :: k)) (Cbad (V219 1 3).toInt) := fun k => Rc.go1 (hr73 k) ((sc_n wx37 (by rw [kd212]; omega)).trans (fl_eq (RelC.st rl71) (show (V219 1 3).toInt = 1 + 16 * (V66 6 10).toInt from by omega)))
                    have pq223 : (V219 1 2).toInt = ((V 1 2)).toInt := congrArg Int32.toInt ((ajV219 1 2 rfl).trans ((ajV66 1 2 rfl).trans ((ajV50 1 2 rfl).trans ((ajV34 1 2 rfl).trans (ajV24 1 2 rfl)))))
                    exact W.zret (v := z214) hx hb hr (nb_ok (by omega)) (fun t ht hW => ⟨⟨z214, (V219, L67), rfl, ⟨hMV219, agV219, alL67, (show 0 ≤ z214.toInt ∧ z214.toInt ≤ 1 from by first | omega | ((try (have i_t48 := Imp.go t48 (by omega))); (try (have i_t9 := Imp.go t9 (by omega))); (try (have i_t8 := Imp.go t8 (by omega))); (try (have i_t8 := Imp.go t8 (by omega))); (try (have i_t9 := Imp.go t9 (by omega))); (try (have i_t48 := Imp.go t48 (by omega))); omega)), (Imp.mk (fun hp => have hp : z214.toInt = 1 := hp; (show 24 * (b : Int) ≤ (V219 1 2).toInt ∧ (V219 1 2).toInt < 24 * (b : Int) + 24 from by first | omega | ((try (have i_t48 := Imp.go t48 (by omega))); (try (have i_t9 := Imp.go t9 (by omega))); (try (have i_t8 := Imp.go t8 (by omega))); (try (have i_t8 := Imp.go t8 (by omega))); (try (have i_t9 := Imp.go t9 (by omega))); (try (have i_t48 := Imp.go t48 (by omega))); omega)))), (Or.inr ⟨(by omega), hb222⟩)⟩, by rw [ht]; exact hP, va_K.moved hW.alike hK, hD⟩, hS.F ht⟩) hS.2.2 dX1_readComponent_90
              · skip
                have f224 : z62.toInt = 0 := b_eq rfl (by decide) c74
                exfalso; first | omega | ((try (have i_t48 := Imp.go t48 (by omega))); (try (have i_t9 := Imp.go t9 (by omega))); (try (have i_t8 := Imp.go t8 (by omega))); (try (have i_t8 := Imp.go t8 (by omega))); (try (have i_t9 := Imp.go t9 (by omega))); (try (have i_t48 := Imp.go t48 (by omega))); omega)
            · skip
              have hb225 : ∀ k, Rc gT (Crun gs (Istmt :: k)) (Cbad (V66 1 3).toInt) := fun k => (hr57 k).tr (h70 (Iscope wx37 :: k))
              refine lv_if_ne (tgt := 59) hx hb dX1_readComponent_54 (by decide) (fun c226 => ?_) (fun c226 => ?_)
              · skip
                have f227 : z62.toInt ≠ 0 := b_neq rfl (by decide) c226
                exfalso; first | omega | ((try (have i_t48 := Imp.go t48 (by omega))); (try (have i_t9 := Imp.go t9 (by omega))); (try (have i_t8 := Imp.go t8 (by omega))); (try (have i_t8 := Imp.go t8 (by omega))); (try (have i_t9 := Imp.go t9 (by omega))); (try (have i_t48 := Imp.go t48 (by omega))); omega)
              · skip
                have f228 : z62.toInt = 0 := b_eq rfl (by decide) c226
                refine lv_iconst (v := 0) hx hb dX1_readComponent_57 (by decide) ?_
                have pq229 : (V66 1 2).toInt = ((V 1 2)).toInt := congrArg Int32.toInt ((ajV66 1 2 rfl).trans ((ajV50 1 2 rfl).trans ((ajV34 1 2 rfl).trans (ajV24 1 2 rfl))))
                exact W.zret (v := 0) hx hb hr rfl (fun t ht hW => ⟨⟨0, (V66, L67), rfl, ⟨hMV66, agV66, alL67, (by decide), (Imp.mk (fun hp => absurd hp (by decide))), (Or.inr ⟨rfl, hb225⟩)⟩, by rw [ht]; exact hP, va_K.moved hW.alike hK, hD⟩, hS.F ht⟩) hS.2.2 dX1_readComponent_58
        · skip
          have hb230 : ∀ k, Rc gT (Crun gs (Istmt :: k)) (Cbad (V50 1 3).toInt) := fun k => Rc.go1 (hr41 k) ((tk_n (fun h9 => h53 (rl39.tok.1.symm.trans (h9.trans (by decide))))).trans (fl_eq rl39.tok.2.2 k54))
          refine lv_if_eq (tgt := 57) hx hb dX1_readComponent_47 (by decide) (fun c231 => ?_) (fun c231 => ?_)
          · skip
            have f232 : z45.toInt = 0 := b_eq rfl (by decide) c231
            refine lv_iconst (v := 0) hx hb dX1_readComponent_57 (by decide) ?_
            have pq233 : (V50 1 2).toInt = ((V 1 2)).toInt := congrArg Int32.toInt ((ajV50 1 2 rfl).trans ((ajV34 1 2 rfl).trans (ajV24 1 2 rfl)))
            exact W.zret (v := 0) hx hb hr rfl (fun t ht hW => ⟨⟨0, (V50, L51), rfl, ⟨hMV50, agV50, alL51, (by decide), (Imp.mk (fun hp => absurd hp (by decide))), (Or.inr ⟨rfl, hb230⟩)⟩, by rw [ht]; exact hP, va_K.moved hW.alike hK, hD⟩, hS.F ht⟩) hS.2.2 dX1_readComponent_58
          · skip
            have f234 : z45.toInt ≠ 0 := b_neq rfl (by decide) c231
            exfalso; first | omega | ((try (have i_t48 := Imp.go t48 (by omega))); (try (have i_t9 := Imp.go t9 (by omega))); (try (have i_t8 := Imp.go t8 (by omega))); (try (have i_t8 := Imp.go t8 (by omega))); (try (have i_t9 := Imp.go t9 (by omega))); (try (have i_t48 := Imp.go t48 (by omega))); omega)
      · skip
        have f235 : z30.toInt = 0 := b_eq rfl (by decide) c42
        exfalso; first | omega | ((try (have i_t9 := Imp.go t9 (by omega))); (try (have i_t8 := Imp.go t8 (by omega))); (try (have i_t8 := Imp.go t8 (by omega))); (try (have i_t9 := Imp.go t9 (by omega))); omega)
    · skip
      have hb236 : ∀ k, Rc gT (Crun gs (Istmt :: k)) (Cbad (V34 1 3).toInt) := fun k => Rc.go1 (hr14 k) (nc_b h38)
      refine lv_if_ne (tgt := 35) hx hb dX1_readComponent_30 (by decide) (fun c237 => ?_) (fun c237 => ?_)
      · skip
        have f238 : z30.toInt ≠ 0 := b_neq rfl (by decide) c237
        exfalso; first | omega | ((try (have i_t9 := Imp.go t9 (by omega))); (try (have i_t8 := Imp.go t8 (by omega))); (try (have i_t8 := Imp.go t8 (by omega))); (try (have i_t9 := Imp.go t9 (by omega))); omega)
      · skip
        have f239 : z30.toInt = 0 := b_eq rfl (by decide) c237
        refine lv_iconst (v := 0) hx hb dX1_readComponent_33 (by decide) ?_
        have pq240 : (V34 1 2).toInt = ((V 1 2)).toInt := congrArg Int32.toInt ((ajV34 1 2 rfl).trans (ajV24 1 2 rfl))
        exact W.zret (v := 0) hx hb hr rfl (fun t ht hW => ⟨⟨0, (V34, L35), rfl, ⟨hMV34, agV34, alL35, (by decide), (Imp.mk (fun hp => absurd hp (by decide))), (Or.inr ⟨rfl, hb236⟩)⟩, by rw [ht]; exact hP, va_K.moved hW.alike hK, hD⟩, hS.F ht⟩) hS.2.2 dX1_readComponent_34
  · skip
    have f241 : z5.toInt ≠ 0 := b_neq rfl (by decide) c10
    refine lv_aload_n hx hb dX1_readComponent_13 rfl (lv_at hl 0 rfl) ?_
    refine lv_iconst (v := 5) hx hb dX1_readComponent_14 (by decide) ?_
    have kd242 : gT.1 (gs.1 0) = ((V 6 9)).toInt := RelC.kd rel
    have r243 : Int32.toInt 5 = 5 := by decide
    refine gA_int (gA_runV (As := [.int 5]) (rest := []) (ci := 1) (q0 := 1) hx hb hml hown hg hP hD hK hS hA hnw hgk (x_wrong2 l D ks H.size ad kk V L Z 5 hMV (by decide)) w867 w869 w6 w162 w870 rfl xgReader hdV_yX1_wrong ⟨Nat.le_of_ble_eq_true rfl, Nat.le_of_ble_eq_true rfl⟩ rfl hl.1 rfl (Nat.le_of_ble_eq_true rfl) dX1_readComponent_15 ⟨Nat.le_of_ble_eq_true rfl, Nat.le_of_ble_eq_true rfl⟩) hP hD hK hS hA (fun z244 u245 H locs w246 hP hD hK hS => ?_)
    obtain ⟨V249, L250⟩ := u245
    obtain ⟨hMV249, ajV249, axL250, rgz244, t247, t248⟩ := w246
    have axL250 : L = L250 := Eq.symm axL250
    subst axL250
    have hP : va_P D vwCl (xw ad kk V249 L Z) H := hP
    have hD : va_D A (xw ad kk V249 L Z) := hD
    have hMV249 : rgd bX V249 := hMV249
    have ajV249 : agr [(1, 3)] [] V V249 := ajV249
    have agV249 : agr [(1, 2), (1, 3), (1, 6), (1, 7), (1, 8), (6, 8), (6, 9), (6, 10)] [43, 44, 49, 50, 51, 52, 53, 54, 55, 56, 57, 61] V V249 := agV.tr ajV249 (by decide) (by decide)
    have rgz244 : 0 ≤ z244.toInt ∧ z244.toInt ≤ 0 := rgz244
    have t247 : 1 ≤ (V249 1 3).toInt := t247
    have t248 : (V249 1 3).toInt = (Int32.toInt 5) + 16 * (V 6 10).toInt := t248
    have r251 : 0 ≤ ((V 6 10)).toInt ∧ ((V 6 10)).toInt ≤ 4000 := hMV 6 10
    have hr252 : ∀ k, Rc gT (Crun gs (Istmt :: k)) (Crun gs (Istmt :: k)) := fun k => Rc.rf
    have hb253 : ∀ k, Rc gT (Crun gs (Istmt :: k)) (Cbad (V249 1 3).toInt) := fun k => Rc.go1 (hr252 k) ((st_131f (kd242.trans kd9) (by first | omega | ((try (have i_t9 := Imp.go t9 (by omega))); (try (have i_t8 := Imp.go t8 (by omega))); (try (have i_t8 := Imp.go t8 (by omega))); (try (have i_t9 := Imp.go t9 (by omega))); omega))).trans (fl_eq (RelC.st rel) (show (V249 1 3).toInt = 5 + 16 * (V 6 10).toInt from by omega)))
    have pq254 : (V249 1 2).toInt = ((V 1 2)).toInt := congrArg Int32.toInt (ajV249 1 2 rfl)
    exact W.zret (v := z244) hx hb hr (nb_ok (by omega)) (fun t ht hW => ⟨⟨z244, (V249, L), rfl, ⟨hMV249, agV249, alL, (show 0 ≤ z244.toInt ∧ z244.toInt ≤ 1 from by first | omega | ((try (have i_t9 := Imp.go t9 (by omega))); (try (have i_t8 := Imp.go t8 (by omega))); (try (have i_t8 := Imp.go t8 (by omega))); (try (have i_t9 := Imp.go t9 (by omega))); omega)), (Imp.mk (fun hp => have hp : z244.toInt = 1 := hp; (show 24 * (b : Int) ≤ (V249 1 2).toInt ∧ (V249 1 2).toInt < 24 * (b : Int) + 24 from by first | omega | ((try (have i_t9 := Imp.go t9 (by omega))); (try (have i_t8 := Imp.go t8 (by omega))); (try (have i_t8 := Imp.go t8 (by omega))); (try (have i_t9 := Imp.go t9 (by omega))); omega)))), (Or.inr ⟨(by omega), hb253⟩)⟩, by rw [ht]; exact hP, va_K.moved hW.alike hK, hD⟩, hS.F ht⟩) hS.2.2 dX1_readComponent_18
abbrev r_x_readWrap3 : Room := { frames := 91, cells := 0, slots := 0, locals := 2683 }
abbrev q_x_readWrap3 (D : va_G) (ks : KS) (ad : Nat → Nat) (kk : Nat → ClassId) (V : Vf) (L : Lf) (Z : XZ) (b : Nat) (gT : Tk) (gs : St) (A : Nat → Prop) : Array Value → State → Outcome → State → Prop := va_Qi (fun (r : Int32) (u : Vf × Lf) => rgd bX u.1 ∧ agr [(1, 3), (1, 4), (1, 6), (1, 8), (6, 8), (6, 9), (6, 10)] [41, 42, 43, 44, 47, 48, 62, 63, 64, 65, 66] V u.1 ∧ agL [6, 44] L u.2 ∧ (0 ≤ r.toInt ∧ r.toInt ≤ 1) ∧ (Rd gT gs (fun k => Istmt :: k) (fun k => Istmt :: k) r.toInt (u.1 1 3).toInt (fun s9 => RelC u.1 u.2 b gT s9 ∧ gs.1 0 + 1 ≤ s9.1 0))) (fun u t => gq D A (xw ad kk u.1 u.2 Z) (xty kk Z) t) A
set_option maxHeartbeats 4000000 in
set_option maxRecDepth 100000 in
theorem x_readWrap3 (l : Launch) (D : va_G) (ks : KS) (sz : Nat) (ad : Nat → Nat) (kk : Nat → ClassId) (V : Vf) (L : Lf) (Z : XZ) (b : Nat) (gT : Tk) (gs : St) (hMV : rgd bX V) (hb2 : b < 2) (rbk : (V 1 1).toInt = (b : Int)) (own : (V 1 2).toInt = -1) (rel : RelC V L b gT gs) (kd9 : (V 6 9).toInt = 136)  : Met l yX1_readWrap (Cond.code yX1_readWrap cX1_readWrap 6 (some .boolean) :: GW) r_x_readWrap3 (va_Pc [.ref (ad 1)] (gp D ks (xw ad kk V L Z) (xty kk Z) sz)) (q_x_readWrap3 D ks ad kk V L Z  b gT gs (va_A (xw ad kk V L Z) sz)) 0 0 (va_A (xw ad kk V L Z) sz) := by
  refine g_met (q_x_readWrap3 D ks ad kk V L Z  b gT gs) (by decide) (Nat.le_of_ble_eq_true rfl) ?_
  intro p e s m below meth c A ls H locs hx hb hr hml hown hg hlocks hin hnw hgk hP hK hD hS hA hl
  have hown : s.vm.findClass RX1 = some m.cls := hown
  have hl : lv_has ls 6 [(0, .ref (ad 1))] := hl
  have hP : va_P D vwCl (xw ad kk V L Z) H := hP
  have hD : va_D A (xw ad kk V L Z) := hD
  have hK : va_K D vwCl (xty kk Z) s := hK
  have agV : agr [(1, 3), (1, 4), (1, 6), (1, 8), (6, 8), (6, 9), (6, 10)] [41, 42, 43, 44, 47, 48, 62, 63, 64, 65, 66] V V := agr.rf
  have alL : agL [6, 44] L L := agL.rf
  have r1 : (-1) ≤ ((V 1 1)).toInt ∧ ((V 1 1)).toInt ≤ 1 := hMV 1 1
  have r2 : (-1) ≤ ((V 1 2)).toInt ∧ ((V 1 2)).toInt ≤ 47 := hMV 1 2
  have ln0 := rel.2.2.2.1.1
  refine lv_aload_n hx hb dX1_readWrap_0 rfl (lv_at hl 0 rfl) ?_
  refine va_get (D := D) (ci := 1) (v := rfN ad 38 (V 1 1)) (fs := (xfReader ad V L Z)) (C := RX1) (T := TX1) (N := 9) hx hb hg inX1 hown hK hP 1 xgReader rfl 1 (by decide) (hg _ w305) (fun _ h9 => h9) rfl dX1_readWrap_1 ?_
  refine g_topv (v := .ref (ad (38 + b))) (rfN_r (by omega)) ?_
  refine va_getN (D := D) (ci := 0) (v := .int (V 41 b)) (fs := (xfBook ad V b)) (C := RX0) (T := TX0) (N := 13) hx hb hg inX0 hown hK hP (38 + b) (xgBook hb2) rfl 11 (by decide) (hnw.use 626 n626 rfl) (fun _ h9 => h9) rfl dX1_readWrap_4 ?_
  have r3 : 0 ≤ ((V 41 b)).toInt ∧ ((V 41 b)).toInt ≤ 12 := hMV 41 b
  refine lv_bipush (v := 12) hx hb dX1_readWrap_7 (by decide) ?_
  refine lv_icmp_lt (tgt := 18) hx hb dX1_readWrap_9 (by decide) (fun c4 => ?_) (fun c4 => ?_)
  · skip
    have f5 : ((V 41 b)).toInt < 12 := b_lt rfl (by decide) c4
    refine lv_aload_n hx hb dX1_readWrap_18 rfl (lv_at hl 0 rfl) ?_
    refine va_get (D := D) (ci := 1) (v := .ref (ad 6)) (fs := (xfReader ad V L Z)) (C := RX1) (T := TX1) (N := 9) hx hb hg inX1 hown hK hP 1 xgReader rfl 0 (by decide) (hg _ w304) (fun _ h9 => h9) rfl dX1_readWrap_19 ?_
    have hr6 : ∀ k, Rc gT (Crun gs (Istmt :: k)) (Crun gs (Istmt :: k)) := fun k => Rc.rf
    have kd7 : gT.1 (gs.1 0) = ((V 6 9)).toInt := RelC.kd rel
    have hr8 : ∀ k, Rc gT (Crun gs (Istmt :: k)) (Crun (nx gs 1) (IwrapType :: k)) := fun k => Rc.go1 (hr6 k) (st_136 (kd7.trans kd9) (by omega))
    have l89 := RelC.l8 rel
    have r10 : 0 ≤ ((V 6 8)).toInt ∧ ((V 6 8)).toInt ≤ 4000 := hMV 6 8
    have r11 : 0 ≤ ((V 6 7)).toInt ∧ ((V 6 7)).toInt ≤ 4000 := hMV 6 7
    have lk12 := RelC.lk rel (show (V 6 9).toInt ≠ 0 from by omega)
    refine gA_void (gA_runV (As := []) (rest := []) (ci := 9) (q0 := 6) hx hb hml hown hg hP hD hK hS hA hnw hgk (x_next2 l D ks H.size ad kk V L Z  hMV (show (V 6 8).toInt ≤ (V 6 7).toInt from by omega)) w871 w852 w853 w157 w854 rfl xgTape hdV_yX9_next ⟨Nat.le_of_ble_eq_true rfl, Nat.le_of_ble_eq_true rfl⟩ rfl hl.1 rfl (Nat.le_of_ble_eq_true rfl) dX1_readWrap_22 ⟨Nat.le_of_ble_eq_true rfl, Nat.le_of_ble_eq_true rfl⟩) hP hD hK hS hA (fun u14 H locs w15 hP hD hK hS => ?_)
    obtain ⟨V18, L19⟩ := u14
    obtain ⟨hMV18, ajV18, axL19, t16, t17⟩ := w15
    have alL19 : agL [6, 44] L L19 := agL.tr alL axL19 (by decide)
    have hP : va_P D vwCl (xw ad kk V18 L19 Z) H := hP
    have hD : va_D A (xw ad kk V18 L19 Z) := hD
    have hMV18 : rgd bX V18 := hMV18
    have ajV18 : agr [(6, 8), (6, 9), (6, 10)] [] V V18 := ajV18
    have agV18 : agr [(1, 3), (1, 4), (1, 6), (1, 8), (6, 8), (6, 9), (6, 10)] [41, 42, 43, 44, 47, 48, 62, 63, 64, 65, 66] V V18 := agV.tr ajV18 (by decide) (by decide)
    have t16 : (V18 6 8).toInt ≤ (V18 6 7).toInt := t16
    have t17 : CUR V18 L19 (Int32.toNatClampNeg (V 6 8)) := t17
    have r20 : 0 ≤ ((V18 6 8)).toInt ∧ ((V18 6 8)).toInt ≤ 4000 := hMV18 6 8
    have pq21 : (V18 6 7).toInt = ((V 6 7)).toInt := congrArg Int32.toInt (ajV18 6 7 rfl)
    have rl22 : RelC V18 L19 b gT (nx gs 1) := RelC.nx1 rel ajV18 (by decide) axL19 (by decide) (by rw [← lk12]; exact t17) (ajV18 1 3 rfl)
    refine lv_aload_n hx hb dX1_readWrap_25 rfl (lv_at hl 0 rfl) ?_
    have pq23 : (V18 1 1).toInt = ((V 1 1)).toInt := congrArg Int32.toInt (ajV18 1 1 rfl)
    refine gA_int (gA_runV (As := []) (rest := []) (ci := 1) (q0 := 1) hx hb hml hown hg hP hD hK hS hA hnw hgk (x_isToldType3 l D ks H.size ad kk V18 L19 Z (b) (gT) ((nx gs 1)) hMV18 (show b < 2 from by omega) (show (V18 1 1).toInt = (b : Int) from by omega) rl22) w888 w890 w9 w162 w891 rfl xgReader hdV_yX1_isToldType ⟨Nat.le_of_ble_eq_true rfl, Nat.le_of_ble_eq_true rfl⟩ rfl hl.1 rfl (Nat.le_of_ble_eq_true rfl) dX1_readWrap_26 ⟨Nat.le_of_ble_eq_true rfl, Nat.le_of_ble_eq_true rfl⟩) hP hD hK hS hA (fun z24 u25 H locs w26 hP hD hK hS => ?_)
    obtain ⟨V28, L29⟩ := u25
    obtain ⟨hMV28, ajV28, axL29, rgz24, t27⟩ := w26
    have axL29 : L19 = L29 := Eq.symm axL29
    subst axL29
    have hP : va_P D vwCl (xw ad kk V28 L19 Z) H := hP
    have hD : va_D A (xw ad kk V28 L19 Z) := hD
    have hMV28 : rgd bX V28 := hMV28
    have ajV28 : agr [(1, 3), (1, 6)] [] V18 V28 := ajV28
    have agV28 : agr [(1, 3), (1, 4), (1, 6), (1, 8), (6, 8), (6, 9), (6, 10)] [41, 42, 43, 44, 47, 48, 62, 63, 64, 65, 66] V V28 := agV18.tr ajV28 (by decide) (by decide)
    have rgz24 : 0 ≤ z24.toInt ∧ z24.toInt ≤ 1 := rgz24
    have t27 : KcN (look gT (nx gs 1) ((nx gs 1).2.1 0)) z24.toInt (V28 1 3).toInt (fun f9 => RelC V28 L19 b gT (nx gs 1) ∧ (V28 1 6).toInt = ((f9 : Nat) : Int) ∧ f9 < 24) := t27
    rcases t27 with ⟨q30, fx31, h32, rl33, hf34, hb35⟩ | ⟨q30, h32⟩
    · skip
      have kn36 := look_ne h32
      have kd37 : gT.1 ((nx gs 1).1 0) = ((V18 6 9)).toInt := (RelC.kd rl33).trans (congrArg Int32.toInt (ajV28 6 9 rfl))
      refine lv_if_ne (tgt := 34) hx hb dX1_readWrap_29 (by decide) (fun c38 => ?_) (fun c38 => ?_)
      · skip
        have f39 : z24.toInt ≠ 0 := b_neq rfl (by decide) c38
        refine lv_aload_n hx hb dX1_readWrap_34 rfl (lv_at hl 0 rfl) ?_
        refine va_get (D := D) (ci := 1) (v := .int (V28 1 6)) (fs := (xfReader ad V28 L19 Z)) (C := RX1) (T := TX1) (N := 9) hx hb hg inX1 hown hK hP 1 xgReader rfl 6 (by decide) (hg _ w310) (fun _ h9 => h9) rfl dX1_readWrap_35 ?_
        have r40 : (-1) ≤ ((V28 1 6)).toInt ∧ ((V28 1 6)).toInt ≤ 23 := hMV28 1 6
        refine lv_istore_n (lv' := [(1, .int (V28 1 6)), (0, .ref (ad 1))]) hx hb dX1_readWrap_38 rfl hl (by decide) rfl (fun ls hl => ?_)
        refine lv_aload_n hx hb dX1_readWrap_39 rfl (lv_at hl 1 rfl) ?_
        refine va_get (D := D) (ci := 1) (v := .ref (ad 6)) (fs := (xfReader ad V28 L19 Z)) (C := RX1) (T := TX1) (N := 9) hx hb hg inX1 hown hK hP 1 xgReader rfl 0 (by decide) (hg _ w304) (fun _ h9 => h9) rfl dX1_readWrap_40 ?_
        have hr41 : ∀ k, Rc gT (Crun gs (Istmt :: k)) (Crun (nx (nx gs 1) 1) (Itake 46 :: IwrapMeth :: k)) := fun k => Rc.go1 (hr8 k) (wt_y h32)
        have l842 := RelC.l8 rl33
        have pq43 : (V28 6 8).toInt = ((V18 6 8)).toInt := congrArg Int32.toInt (ajV28 6 8 rfl)
        have pq44 : (V28 6 7).toInt = ((V 6 7)).toInt := congrArg Int32.toInt ((ajV28 6 7 rfl).trans (ajV18 6 7 rfl))
        have pq45 : (V28 6 9).toInt = ((V18 6 9)).toInt := congrArg Int32.toInt (ajV28 6 9 rfl)
        have lk46 := RelC.lk rl33 (show (V28 6 9).toInt ≠ 0 from by omega)
        refine gA_void (gA_runV (As := []) (rest := []) (ci := 9) (q0 := 6) hx hb hml hown hg hP hD hK hS hA hnw hgk (x_next2 l D ks H.size ad kk V28 L19 Z  hMV28 (show (V28 6 8).toInt ≤ (V28 6 7).toInt from by omega)) w871 w852 w853 w157 w854 rfl xgTape hdV_yX9_next ⟨Nat.le_of_ble_eq_true rfl, Nat.le_of_ble_eq_true rfl⟩ rfl hl.1 rfl (Nat.le_of_ble_eq_true rfl) dX1_readWrap_43 ⟨Nat.le_of_ble_eq_true rfl, Nat.le_of_ble_eq_true rfl⟩) hP hD hK hS hA (fun u48 H locs w49 hP hD hK hS => ?_)
        obtain ⟨V52, L53⟩ := u48
        obtain ⟨hMV52, ajV52, axL53, t50, t51⟩ := w49
        have alL53 : agL [6, 44] L L53 := agL.tr alL19 axL53 (by decide)
        have hP : va_P D vwCl (xw ad kk V52 L53 Z) H := hP
        have hD : va_D A (xw ad kk V52 L53 Z) := hD
        have hMV52 : rgd bX V52 := hMV52
        have ajV52 : agr [(6, 8), (6, 9), (6, 10)] [] V28 V52 := ajV52
        have agV52 : agr [(1, 3), (1, 4), (1, 6), (1, 8), (6, 8), (6, 9), (6, 10)] [41, 42, 43, 44, 47, 48, 62, 63, 64, 65, 66] V V52 := agV28.tr ajV52 (by decide) (by decide)
        have t50 : (V52 6 8).toInt ≤ (V52 6 7).toInt := t50
        have t51 : CUR V52 L53 (Int32.toNatClampNeg (V28 6 8)) := t51
        have r54 : 0 ≤ ((V52 6 8)).toInt ∧ ((V52 6 8)).toInt ≤ 4000 := hMV52 6 8
        have pq55 : (V52 6 7).toInt = ((V 6 7)).toInt := congrArg Int32.toInt ((ajV52 6 7 rfl).trans ((ajV28 6 7 rfl).trans (ajV18 6 7 rfl)))
        have rl56 : RelC V52 L53 b gT (nx (nx gs 1) 1) := RelC.nx1 rl33 ajV52 (by decide) axL53 (by decide) (by rw [← lk46]; exact t51) (ajV52 1 3 rfl)
        refine lv_aload_n hx hb dX1_readWrap_46 rfl (lv_at hl 1 rfl) ?_
        refine lv_bipush (v := 46) hx hb dX1_readWrap_47 (by decide) ?_
        have r57 : Int32.toInt 46 = 46 := by decide
        refine gA_int (gA_runV (As := [.int 46]) (rest := []) (ci := 1) (q0 := 1) hx hb hml hown hg hP hD hK hS hA hnw hgk (x_take2 l D ks H.size ad kk V52 L53 Z 46 (((nx (nx gs 1) 1).1 0)) hMV52 (rl56).1 (rl56).2.1.1 (show 1 ≤ (Int32.toInt 46) from by omega)) w893 w895 w10 w162 w896 rfl xgReader hdV_yX1_take ⟨Nat.le_of_ble_eq_true rfl, Nat.le_of_ble_eq_true rfl⟩ rfl hl.1 rfl (Nat.le_of_ble_eq_true rfl) dX1_readWrap_49 ⟨Nat.le_of_ble_eq_true rfl, Nat.le_of_ble_eq_true rfl⟩) hP hD hK hS hA (fun z58 u59 H locs w60 hP hD hK hS => ?_)
        obtain ⟨V63, L64⟩ := u59
        obtain ⟨hMV63, ajV63, axL64, rgz58, t61, t62⟩ := w60
        have alL64 : agL [6, 44] L L64 := agL.tr alL53 axL64 (by decide)
        have hP : va_P D vwCl (xw ad kk V63 L64 Z) H := hP
        have hD : va_D A (xw ad kk V63 L64 Z) := hD
        have hMV63 : rgd bX V63 := hMV63
        have ajV63 : agr [(1, 3), (6, 8), (6, 9), (6, 10)] [] V52 V63 := ajV63
        have agV63 : agr [(1, 3), (1, 4), (1, 6), (1, 8), (6, 8), (6, 9), (6, 10)] [41, 42, 43, 44, 47, 48, 62, 63, 64, 65, 66] V V63 := agV52.tr ajV63 (by decide) (by decide)
        have rgz58 : 0 ≤ z58.toInt ∧ z58.toInt ≤ 1 := rgz58
        have t61 : Imp (z58.toInt = 0) (1 ≤ (V63 1 3).toInt) := t61
        have t62 : (z58.toInt = 1 ∧ (V52 12 ((nx (nx gs 1) 1).1 0)).toInt = (Int32.toInt 46) ∧ CUR V63 L64 (((nx (nx gs 1) 1).1 0) + 1) ∧ V63 1 3 = V52 1 3) ∨ (z58.toInt = 0 ∧ (V52 12 ((nx (nx gs 1) 1).1 0)).toInt ≠ (Int32.toInt 46) ∧ (V63 1 3).toInt = 1 + 16 * (V52 13 ((nx (nx gs 1) 1).1 0)).toInt) := t62
        rcases t62 with ⟨q65, h66, k67, k68⟩ | ⟨q65, h66, k67⟩
        · skip
          have rl69 : RelC V63 L64 b gT (nx (nx (nx gs 1) 1) 1) := RelC.nx1 rl56 ajV63 (by decide) axL64 (by decide) k67 k68
          have hr70 : ∀ k, Rc gT (Crun gs (Istmt :: k)) (Crun (nx (nx (nx gs 1) 1) 1) (IwrapMeth :: k)) := fun k => Rc.go1 (hr41 k) (tk_y (rl56.tok.1.trans (h66.trans (by decide))))
          refine lv_if_eq (tgt := 63) hx hb dX1_readWrap_52 (by decide) (fun c71 => ?_) (fun c71 => ?_)
          · skip
            have f72 : z58.toInt = 0 := b_eq rfl (by decide) c71
            exfalso; first | omega | ((try (have i_t61 := Imp.go t61 (by omega))); omega)
          · skip
            have f73 : z58.toInt ≠ 0 := b_neq rfl (by decide) c71
            refine lv_aload_n hx hb dX1_readWrap_55 rfl (lv_at hl 1 rfl) ?_
            refine lv_null hx hb dX1_readWrap_56 ?_
            have pq74 : (V63 1 1).toInt = ((V 1 1)).toInt := congrArg Int32.toInt ((ajV63 1 1 rfl).trans ((ajV52 1 1 rfl).trans ((ajV28 1 1 rfl).trans (ajV18 1 1 rfl))))
            refine gA_int (gA_runV (As := [.null]) (rest := []) (ci := 1) (q0 := 1) hx hb hml hown hg hP hD hK hS hA hnw hgk (x_takeMethodN3 l D ks H.size ad kk V63 L64 Z (b) (gT) ((nx (nx (nx gs 1) 1) 1)) hMV63 (show b < 2 from by first | omega | ((try (have i_t61 := Imp.go t61 (by omega))); omega)) (show (V63 1 1).toInt = (b : Int) from by first | omega | ((try (have i_t61 := Imp.go t61 (by omega))); omega)) rl69) w939 w941 w19 w162 w942 rfl xgReader hdV_yX1_takeMethod ⟨Nat.le_of_ble_eq_true rfl, Nat.le_of_ble_eq_true rfl⟩ rfl hl.1 rfl (Nat.le_of_ble_eq_true rfl) dX1_readWrap_57 ⟨Nat.le_of_ble_eq_true rfl, Nat.le_of_ble_eq_true rfl⟩) hP hD hK hS hA (fun z75 u76 H locs w77 hP hD hK hS => ?_)
            obtain ⟨V79, L80⟩ := u76
            obtain ⟨hMV79, ajV79, axL80, rgz75, t78⟩ := w77
            have alL80 : agL [6, 44] L L80 := agL.tr alL64 axL80 (by decide)
            have hP : va_P D vwCl (xw ad kk V79 L80 Z) H := hP
            have hD : va_D A (xw ad kk V79 L80 Z) := hD
            have hMV79 : rgd bX V79 := hMV79
            have ajV79 : agr [(1, 3), (1, 6), (6, 8), (6, 9), (6, 10)] [43, 44] V63 V79 := ajV79
            have agV79 : agr [(1, 3), (1, 4), (1, 6), (1, 8), (6, 8), (6, 9), (6, 10)] [41, 42, 43, 44, 47, 48, 62, 63, 64, 65, 66] V V79 := agV63.tr ajV79 (by decide) (by decide)
            have rgz75 : 0 ≤ z75.toInt ∧ z75.toInt ≤ 1 := rgz75
            have t78 : KcS (mthW gT (nx (nx (nx gs 1) 1) 1) 3) z75.toInt (V79 1 3).toInt (fun x9 => RelC V79 L80 b gT x9.2 ∧ (V79 1 6).toInt = ((x9.1 : Nat) : Int) ∧ x9.1 < 20 ∧ keepS (nx (nx (nx gs 1) 1) 1) 1 x9.2) := t78
            rcases t78 with ⟨q81, mx82, h83, rl84, hf85, hb86, kp87⟩ | ⟨q81, h83⟩
            · skip
              have hr88 : ∀ k, Rc gT (Crun gs (Istmt :: k)) (Crun mx82.2 (Inum 0 99 :: Iphase mx82.1 :: k)) := fun k => Rc.go1 (hr70 k) (wm_y h83)
              refine lv_if_ne (tgt := 65) hx hb dX1_readWrap_60 (by decide) (fun c89 => ?_) (fun c89 => ?_)
              · skip
                have f90 : z75.toInt ≠ 0 := b_neq rfl (by decide) c89
                refine lv_aload_n hx hb dX1_readWrap_65 rfl (lv_at hl 1 rfl) ?_
                refine va_get (D := D) (ci := 1) (v := .int (V79 1 6)) (fs := (xfReader ad V79 L80 Z)) (C := RX1) (T := TX1) (N := 9) hx hb hg inX1 hown hK hP 1 xgReader rfl 6 (by decide) (hg _ w310) (fun _ h9 => h9) rfl dX1_readWrap_66 ?_
                have r91 : (-1) ≤ ((V79 1 6)).toInt ∧ ((V79 1 6)).toInt ≤ 23 := hMV79 1 6
                refine lv_istore_n (lv' := [(2, .int (V79 1 6)), (1, .int (V28 1 6)), (0, .ref (ad 1))]) hx hb dX1_readWrap_69 rfl hl (by decide) rfl (fun ls hl => ?_)
                refine lv_aload_n hx hb dX1_readWrap_70 rfl (lv_at hl 2 rfl) ?_
                refine lv_iconst (v := 0) hx hb dX1_readWrap_71 (by decide) ?_
                refine lv_bipush (v := 99) hx hb dX1_readWrap_72 (by decide) ?_
                have r92 : Int32.toInt 0 = 0 := by decide
                have r93 : Int32.toInt 99 = 99 := by decide
                refine gA_int (gA_runV (As := [.int 0, .int 99]) (rest := []) (ci := 1) (q0 := 1) hx hb hml hown hg hP hD hK hS hA hnw hgk (x_takeNumber2 l D ks H.size ad kk V79 L80 Z 0 99 ((mx82.2.1 0)) hMV79 (rl84).1 (rl84).2.1.1 (show 0 ≤ (Int32.toInt 0) from by first | omega | ((try (have i_t61 := Imp.go t61 (by omega))); omega)) (show (Int32.toInt 99) ≤ 999999999 from by first | omega | ((try (have i_t61 := Imp.go t61 (by omega))); omega))) w906 w908 w12 w162 w909 rfl xgReader hdV_yX1_takeNumber ⟨Nat.le_of_ble_eq_true rfl, Nat.le_of_ble_eq_true rfl⟩ rfl hl.1 rfl (Nat.le_of_ble_eq_true rfl) dX1_readWrap_74 ⟨Nat.le_of_ble_eq_true rfl, Nat.le_of_ble_eq_true rfl⟩) hP hD hK hS hA (fun z94 u95 H locs w96 hP hD hK hS => ?_)
                obtain ⟨V100, L101⟩ := u95
                obtain ⟨hMV100, ajV100, axL101, rgz94, t97, t98, t99⟩ := w96
                have alL101 : agL [6, 44] L L101 := agL.tr alL80 axL101 (by decide)
                have hP : va_P D vwCl (xw ad kk V100 L101 Z) H := hP
                have hD : va_D A (xw ad kk V100 L101 Z) := hD
                have hMV100 : rgd bX V100 := hMV100
                have ajV100 : agr [(1, 3), (1, 8), (6, 8), (6, 9), (6, 10)] [] V79 V100 := ajV100
                have agV100 : agr [(1, 3), (1, 4), (1, 6), (1, 8), (6, 8), (6, 9), (6, 10)] [41, 42, 43, 44, 47, 48, 62, 63, 64, 65, 66] V V100 := agV79.tr ajV100 (by decide) (by decide)
                have rgz94 : 0 ≤ z94.toInt ∧ z94.toInt ≤ 1 := rgz94
                have t97 : Imp (z94.toInt = 1) ((Int32.toInt 0) ≤ (V100 1 8).toInt ∧ (V100 1 8).toInt ≤ (Int32.toInt 99)) := t97
                have t98 : Imp (z94.toInt = 0) (1 ≤ (V100 1 3).toInt) := t98
                have t99 : (z94.toInt = 1 ∧ (V79 12 (mx82.2.1 0)).toInt = 2 ∧ (Int32.toInt 0) ≤ (L80 14 (mx82.2.1 0)).toInt ∧ (L80 14 (mx82.2.1 0)).toInt ≤ (Int32.toInt 99) ∧ CUR V100 L101 ((mx82.2.1 0) + 1) ∧ (V100 1 8).toInt = (L80 14 (mx82.2.1 0)).toInt ∧ V100 1 3 = V79 1 3) ∨ (z94.toInt = 0 ∧ (((V79 12 (mx82.2.1 0)).toInt ≠ 2 ∧ (V100 1 3).toInt = 1 + 16 * (V79 13 (mx82.2.1 0)).toInt) ∨ ((V79 12 (mx82.2.1 0)).toInt = 2 ∧ ((L80 14 (mx82.2.1 0)).toInt < (Int32.toInt 0) ∨ (Int32.toInt 99) < (L80 14 (mx82.2.1 0)).toInt) ∧ (V100 1 3).toInt = 4 + 16 * (V79 13 (mx82.2.1 0)).toInt))) := t99
                have r102 : 0 ≤ ((V100 1 8)).toInt ∧ ((V100 1 8)).toInt ≤ 999999999 := hMV100 1 8
                have nv110 := congrArg Int64.toInt rl84.tok.2.1
                rcases t99 with ⟨q103, h104, h105, h106, k107, k108, k109⟩ | ⟨q103, ⟨h104, k107⟩ | ⟨h104, h105, k107⟩⟩
                · skip
                  have rl111 : RelC V100 L101 b gT (nx mx82.2 1) := RelC.nx1 rl84 ajV100 (by decide) axL101 (by decide) k107 k109
                  have hr112 : ∀ k, Rc gT (Crun gs (Istmt :: k)) (Crun (nx mx82.2 1) (Iphase mx82.1 :: k)) := fun k => Rc.go1 (hr88 k) (nm_y (rl84.tok.1.trans h104) (by omega) (by omega))
                  refine lv_if_ne (tgt := 82) hx hb dX1_readWrap_77 (by decide) (fun c113 => ?_) (fun c113 => ?_)
                  · skip
                    have f114 : z94.toInt ≠ 0 := b_neq rfl (by decide) c113
                    refine lv_aload_n hx hb dX1_readWrap_82 rfl (lv_at hl 2 rfl) ?_
                    refine va_get (D := D) (ci := 1) (v := .int (V100 1 8)) (fs := (xfReader ad V100 L101 Z)) (C := RX1) (T := TX1) (N := 9) hx hb hg inX1 hown hK hP 1 xgReader rfl 8 (by decide) (hg _ w312) (fun _ h9 => h9) rfl dX1_readWrap_83 ?_
                    refine lv_istore_n (lv' := [(3, .int (V100 1 8)), (2, .int (V79 1 6)), (1, .int (V28 1 6)), (0, .ref (ad 1))]) hx hb dX1_readWrap_86 rfl hl (by decide) rfl (fun ls hl => ?_)
                    refine lv_aload_n hx hb dX1_readWrap_87 rfl (lv_at hl 3 rfl) ?_
                    refine va_get (D := D) (ci := 1) (v := .ref (ad 6)) (fs := (xfReader ad V100 L101 Z)) (C := RX1) (T := TX1) (N := 9) hx hb hg inX1 hown hK hP 1 xgReader rfl 0 (by decide) (hg _ w304) (fun _ h9 => h9) rfl dX1_readWrap_88 ?_
                    refine va_getN (D := D) (ci := 9) (v := .int (V100 6 9)) (fs := (xfTape ad V100 L101 Z)) (C := RX9) (T := TX9) (N := 12) hx hb hg inX9 hown hK hP 6 xgTape rfl 9 (by decide) (hnw.use 262 n262 rfl) (fun _ h9 => h9) rfl dX1_readWrap_91 ?_
                    refine lv_sipush (v := 152) hx hb dX1_readWrap_94 (by decide) ?_
                    refine lv_icmp_lt (tgt := 113) hx hb dX1_readWrap_97 (by decide) (fun c115 => ?_) (fun c115 => ?_)
                    · skip
                      have f116 : ((V100 6 9)).toInt < 152 := b_lt rfl (by decide) c115
                      refine lv_aload_n hx hb dX1_readWrap_113 rfl (lv_at hl 3 rfl) ?_
                      refine lv_iconst (v := 1) hx hb dX1_readWrap_114 (by decide) ?_
                      have kd117 : gT.1 ((nx mx82.2 1).1 0) = ((V100 6 9)).toInt := RelC.kd rl111
                      have r118 : Int32.toInt 1 = 1 := by decide
                      refine gA_int (gA_runV (As := [.int 1]) (rest := []) (ci := 1) (q0 := 1) hx hb hml hown hg hP hD hK hS hA hnw hgk (x_wrong2 l D ks H.size ad kk V100 L101 Z 1 hMV100 (by decide)) w867 w869 w6 w162 w870 rfl xgReader hdV_yX1_wrong ⟨Nat.le_of_ble_eq_true rfl, Nat.le_of_ble_eq_true rfl⟩ rfl hl.1 rfl (Nat.le_of_ble_eq_true rfl) dX1_readWrap_115 ⟨Nat.le_of_ble_eq_true rfl, Nat.le_of_ble_eq_true rfl⟩) hP hD hK hS hA (fun z119 u120 H locs w121 hP hD hK hS => ?_)
                      obtain ⟨V124, L125⟩ := u120
                      obtain ⟨hMV124, ajV124, axL125, rgz119, t122, t123⟩ := w121
                      have axL125 : L101 = L125 := Eq.symm axL125
                      subst axL125
                      have hP : va_P D vwCl (xw ad kk V124 L101 Z) H := hP
                      have hD : va_D A (xw ad kk V124 L101 Z) := hD
                      have hMV124 : rgd bX V124 := hMV124
                      have ajV124 : agr [(1, 3)] [] V100 V124 := ajV124
                      have agV124 : agr [(1, 3), (1, 4), (1, 6), (1, 8), (6, 8), (6, 9), (6, 10)] [41, 42, 43, 44, 47, 48, 62, 63, 64, 65, 66] V V124 := agV100.tr ajV124 (by decide) (by decide)
                      have rgz119 : 0 ≤ z119.toInt ∧ z119.toInt ≤ 0 := rgz119
                      have t122 : 1 ≤ (V124 1 3).toInt := t122
                      have t123 : (V124 1 3).toInt = (Int32.toInt 1) + 16 * (V100 6 10).toInt := t123
                      have r126 : 0 ≤ ((V100 6 10)).toInt ∧ ((V100 6 10)).toInt ≤ 4000 := hMV100 6 10
                      have hb127 : ∀ k, Rc gT (Crun gs (Istmt :: k)) (Cbad (V124 1 3).toInt) := fun k => Rc.go1 (hr112 k) ((ph_1 mx82.1 (by rw [kd117]; omega)).trans (fl_eq (RelC.st rl111) (show (V124 1 3).toInt = 1 + 16 * (V100 6 10).toInt from by omega)))
                      exact W.zret (v := z119) hx hb hr (nb_ok (by omega)) (fun t ht hW => ⟨⟨z119, (V124, L101), rfl, ⟨hMV124, agV124, alL101, (show 0 ≤ z119.toInt ∧ z119.toInt ≤ 1 from by first | omega | ((try (have i_t98 := Imp.go t98 (by omega))); (try (have i_t97 := Imp.go t97 (by omega))); (try (have i_t61 := Imp.go t61 (by omega))); (try (have i_t61 := Imp.go t61 (by omega))); (try (have i_t97 := Imp.go t97 (by omega))); (try (have i_t98 := Imp.go t98 (by omega))); omega)), (Or.inr ⟨(by omega), hb127⟩)⟩, by rw [ht]; exact hP, va_K.moved hW.alike hK, hD⟩, hS.F ht⟩) hS.2.2 dX1_readWrap_118
                    · skip
                      have f128 : 152 ≤ ((V100 6 9)).toInt := b_nlt rfl (by decide) c115
                      refine lv_aload_n hx hb dX1_readWrap_100 rfl (lv_at hl 3 rfl) ?_
                      refine va_get (D := D) (ci := 1) (v := .ref (ad 6)) (fs := (xfReader ad V100 L101 Z)) (C := RX1) (T := TX1) (N := 9) hx hb hg inX1 hown hK hP 1 xgReader rfl 0 (by decide) (hg _ w304) (fun _ h9 => h9) rfl dX1_readWrap_101 ?_
                      refine va_getN (D := D) (ci := 9) (v := .int (V100 6 9)) (fs := (xfTape ad V100 L101 Z)) (C := RX9) (T := TX9) (N := 12) hx hb hg inX9 hown hK hP 6 xgTape rfl 9 (by decide) (hnw.use 262 n262 rfl) (fun _ h9 => h9) rfl dX1_readWrap_104 ?_
                      refine lv_sipush (v := 155) hx hb dX1_readWrap_107 (by decide) ?_
                      refine lv_icmp_le (tgt := 119) hx hb dX1_readWrap_110 (by decide) (fun c129 => ?_) (fun c129 => ?_)
                      · skip
                        have f130 : ((V100 6 9)).toInt ≤ 155 := b_le rfl (by decide) c129
                        refine lv_aload_n hx hb dX1_readWrap_119 rfl (lv_at hl 3 rfl) ?_
                        refine va_get (D := D) (ci := 1) (v := .ref (ad 6)) (fs := (xfReader ad V100 L101 Z)) (C := RX1) (T := TX1) (N := 9) hx hb hg inX1 hown hK hP 1 xgReader rfl 0 (by decide) (hg _ w304) (fun _ h9 => h9) rfl dX1_readWrap_120 ?_
                        refine va_getN (D := D) (ci := 9) (v := .int (V100 6 9)) (fs := (xfTape ad V100 L101 Z)) (C := RX9) (T := TX9) (N := 12) hx hb hg inX9 hown hK hP 6 xgTape rfl 9 (by decide) (hnw.use 262 n262 rfl) (fun _ h9 => h9) rfl dX1_readWrap_123 ?_
                        refine lv_sipush (v := 152) hx hb dX1_readWrap_126 (by decide) ?_
                        refine lv_isub hx hb dX1_readWrap_129 ?_
                        refine lv_topi (fun z131 ez131 => ?_)
                        have hz131 : z131.toInt = ((V100 6 9)).toInt - 152 := i_sub ez131 rfl (by decide) (by omega)
                        refine lv_istore (lv' := [(4, .int z131), (3, .int (V100 1 8)), (2, .int (V79 1 6)), (1, .int (V28 1 6)), (0, .ref (ad 1))]) hx hb dX1_readWrap_130 hl (by decide) rfl (fun ls hl => ?_)
                        refine lv_iload hx hb dX1_readWrap_132 (lv_at hl 0 rfl) ?_
                        refine lv_iconst (v := 1) hx hb dX1_readWrap_134 (by decide) ?_
                        refine lv_icmp_ne (tgt := 156) hx hb dX1_readWrap_135 (by decide) (fun c132 => ?_) (fun c132 => ?_)
                        · skip
                          have f133 : z131.toInt ≠ 1 := b_neq rfl (by decide) c132
                          have kd134 : gT.1 ((nx mx82.2 1).1 0) = ((V100 6 9)).toInt := RelC.kd rl111
                          have hr135 : ∀ k, Rc gT (Crun gs (Istmt :: k)) (Crun (sN (nx (nx mx82.2 1) 1) 4 1) (Iexpr 0 :: Itake 59 :: IaddWr mx82.1 (gT.1 ((nx mx82.2 1).1 0) - 152) :: Istmt :: k)) := fun k => Rc.go1 (hr112 k) (ph_y mx82.1 (by rw [kd134]; omega) (by rw [kd134]; omega))
                          refine lv_aload_n hx hb dX1_readWrap_156 rfl (lv_at hl 4 rfl) ?_
                          refine va_get (D := D) (ci := 1) (v := rfN ad 38 (V100 1 1)) (fs := (xfReader ad V100 L101 Z)) (C := RX1) (T := TX1) (N := 9) hx hb hg inX1 hown hK hP 1 xgReader rfl 1 (by decide) (hg _ w305) (fun _ h9 => h9) rfl dX1_readWrap_157 ?_
                          have pq136 : (V100 1 1).toInt = ((V 1 1)).toInt := congrArg Int32.toInt ((ajV100 1 1 rfl).trans ((ajV79 1 1 rfl).trans ((ajV63 1 1 rfl).trans ((ajV52 1 1 rfl).trans ((ajV28 1 1 rfl).trans (ajV18 1 1 rfl))))))
                          refine g_topv (v := .ref (ad (38 + b))) (rfN_r (by first | omega | ((try (have i_t98 := Imp.go t98 (by omega))); (try (have i_t97 := Imp.go t97 (by omega))); (try (have i_t61 := Imp.go t61 (by omega))); (try (have i_t61 := Imp.go t61 (by omega))); (try (have i_t97 := Imp.go t97 (by omega))); (try (have i_t98 := Imp.go t98 (by omega))); omega))) ?_
                          refine va_getN (D := D) (ci := 0) (v := .int (V100 42 b)) (fs := (xfBook ad V100 b)) (C := RX0) (T := TX0) (N := 13) hx hb hg inX0 hown hK hP (38 + b) (xgBook hb2) rfl 12 (by decide) (hnw.use 630 n630 rfl) (fun _ h9 => h9) rfl dX1_readWrap_160 ?_
                          refine g_top (v := (V 42 b)) ((ajV100 42 b rfl).trans ((ajV79 42 b rfl).trans ((ajV63 42 b rfl).trans ((ajV52 42 b rfl).trans ((ajV28 42 b rfl).trans (ajV18 42 b rfl)))))) ?_
                          have r137 : 0 ≤ ((V 42 b)).toInt ∧ ((V 42 b)).toInt ≤ 8200 := hMV 42 b
                          refine lv_istore (lv' := [(5, .int (V 42 b)), (4, .int z131), (3, .int (V100 1 8)), (2, .int (V79 1 6)), (1, .int (V28 1 6)), (0, .ref (ad 1))]) hx hb dX1_readWrap_163 hl (by decide) rfl (fun ls hl => ?_)
                          refine lv_aload_n hx hb dX1_readWrap_165 rfl (lv_at hl 5 rfl) ?_
                          refine va_get (D := D) (ci := 1) (v := .ref (ad 6)) (fs := (xfReader ad V100 L101 Z)) (C := RX1) (T := TX1) (N := 9) hx hb hg inX1 hown hK hP 1 xgReader rfl 0 (by decide) (hg _ w304) (fun _ h9 => h9) rfl dX1_readWrap_166 ?_
                          have l8138 := RelC.l8 rl111
                          have r139 : 0 ≤ ((V100 6 8)).toInt ∧ ((V100 6 8)).toInt ≤ 4000 := hMV100 6 8
                          have pq140 : (V100 6 7).toInt = ((V 6 7)).toInt := congrArg Int32.toInt ((ajV100 6 7 rfl).trans ((ajV79 6 7 rfl).trans ((ajV63 6 7 rfl).trans ((ajV52 6 7 rfl).trans ((ajV28 6 7 rfl).trans (ajV18 6 7 rfl))))))
                          have lk141 := RelC.lk rl111 (show (V100 6 9).toInt ≠ 0 from by omega)
                          refine gA_void (gA_runV (As := []) (rest := []) (ci := 9) (q0 := 6) hx hb hml hown hg hP hD hK hS hA hnw hgk (x_next2 l D ks H.size ad kk V100 L101 Z  hMV100 (show (V100 6 8).toInt ≤ (V100 6 7).toInt from by first | omega | ((try (have i_t98 := Imp.go t98 (by omega))); (try (have i_t97 := Imp.go t97 (by omega))); (try (have i_t61 := Imp.go t61 (by omega))); (try (have i_t61 := Imp.go t61 (by omega))); (try (have i_t97 := Imp.go t97 (by omega))); (try (have i_t98 := Imp.go t98 (by omega))); omega))) w871 w852 w853 w157 w854 rfl xgTape hdV_yX9_next ⟨Nat.le_of_ble_eq_true rfl, Nat.le_of_ble_eq_true rfl⟩ rfl hl.1 rfl (Nat.le_of_ble_eq_true rfl) dX1_readWrap_169 ⟨Nat.le_of_ble_eq_true rfl, Nat.le_of_ble_eq_true rfl⟩) hP hD hK hS hA (fun u143 H locs w144 hP hD hK hS => ?_)
                          obtain ⟨V147, L148⟩ := u143
                          obtain ⟨hMV147, ajV147, axL148, t145, t146⟩ := w144
                          have alL148 : agL [6, 44] L L148 := agL.tr alL101 axL148 (by decide)
                          have hP : va_P D vwCl (xw ad kk V147 L148 Z) H := hP
                          have hD : va_D A (xw ad kk V147 L148 Z) := hD
                          have hMV147 : rgd bX V147 := hMV147
                          have ajV147 : agr [(6, 8), (6, 9), (6, 10)] [] V100 V147 := ajV147
                          have agV147 : agr [(1, 3), (1, 4), (1, 6), (1, 8), (6, 8), (6, 9), (6, 10)] [41, 42, 43, 44, 47, 48, 62, 63, 64, 65, 66] V V147 := agV100.tr ajV147 (by decide) (by decide)
                          have t145 : (V147 6 8).toInt ≤ (V147 6 7).toInt := t145
                          have t146 : CUR V147 L148 (Int32.toNatClampNeg (V100 6 8)) := t146
                          have r149 : 0 ≤ ((V147 6 8)).toInt ∧ ((V147 6 8)).toInt ≤ 4000 := hMV147 6 8
                          have pq150 : (V147 6 7).toInt = ((V 6 7)).toInt := congrArg Int32.toInt ((ajV147 6 7 rfl).trans ((ajV100 6 7 rfl).trans ((ajV79 6 7 rfl).trans ((ajV63 6 7 rfl).trans ((ajV52 6 7 rfl).trans ((ajV28 6 7 rfl).trans (ajV18 6 7 rfl)))))))
                          have rl151 : RelC V147 L148 b gT (nx (nx mx82.2 1) 1) := RelC.nx1 rl111 ajV147 (by decide) axL148 (by decide) (by rw [← lk141]; exact t146) (ajV147 1 3 rfl)
                          have pq153 : (V147 1 2).toInt = ((V 1 2)).toInt := congrArg Int32.toInt ((ajV147 1 2 rfl).trans ((ajV100 1 2 rfl).trans ((ajV79 1 2 rfl).trans ((ajV63 1 2 rfl).trans ((ajV52 1 2 rfl).trans ((ajV28 1 2 rfl).trans (ajV18 1 2 rfl)))))))
                          have rl152 : RelC V147 L148 b gT (sN (nx (nx mx82.2 1) 1) 4 1) := RelC.s4 rl151 (by omega)
                          refine lv_aload_n hx hb dX1_readWrap_172 rfl (lv_at hl 5 rfl) ?_
                          refine lv_iload hx hb dX1_readWrap_173 (lv_at hl 1 rfl) ?_
                          refine lv_iconst (v := 1) hx hb dX1_readWrap_175 (by decide) ?_
                          refine lv_icmp_ne (tgt := 183) hx hb dX1_readWrap_176 (by decide) (fun c154 => ?_) (fun c154 => ?_)
                          · skip
                            have f155 : z131.toInt ≠ 1 := b_neq rfl (by decide) c154
                            refine lv_iconst (v := 1) hx hb dX1_readWrap_183 (by decide) ?_
                            have w4156 : (sN (nx (nx mx82.2 1) 1) 4 1).1 4 = 1 := rfl
                            have r157 : Int32.toInt 1 = 1 := by decide
                            have pq158 : (V147 1 1).toInt = ((V 1 1)).toInt := congrArg Int32.toInt ((ajV147 1 1 rfl).trans ((ajV100 1 1 rfl).trans ((ajV79 1 1 rfl).trans ((ajV63 1 1 rfl).trans ((ajV52 1 1 rfl).trans ((ajV28 1 1 rfl).trans (ajV18 1 1 rfl)))))))
                            refine gA_int (gA_runV (As := [.int 1]) (rest := []) (ci := 1) (q0 := 1) hx hb hml hown hg hP hD hK hS hA hnw hgk (x_readE3 l D ks H.size ad kk V147 L148 Z 1 (b) (gT) ((sN (nx (nx mx82.2 1) 1) 4 1)) hMV147 (by decide) (show b < 2 from by first | omega | ((try (have i_t98 := Imp.go t98 (by omega))); (try (have i_t97 := Imp.go t97 (by omega))); (try (have i_t61 := Imp.go t61 (by omega))); (try (have i_t61 := Imp.go t61 (by omega))); (try (have i_t97 := Imp.go t97 (by omega))); (try (have i_t98 := Imp.go t98 (by omega))); omega)) (show (V147 1 1).toInt = (b : Int) from by first | omega | ((try (have i_t98 := Imp.go t98 (by omega))); (try (have i_t97 := Imp.go t97 (by omega))); (try (have i_t61 := Imp.go t61 (by omega))); (try (have i_t61 := Imp.go t61 (by omega))); (try (have i_t97 := Imp.go t97 (by omega))); (try (have i_t98 := Imp.go t98 (by omega))); omega)) rl152 (show (Int32.toInt 1) = (((sN (nx (nx mx82.2 1) 1) 4 1).1 4 : Nat) : Int) from by first | omega | ((try (have i_t98 := Imp.go t98 (by omega))); (try (have i_t97 := Imp.go t97 (by omega))); (try (have i_t61 := Imp.go t61 (by omega))); (try (have i_t61 := Imp.go t61 (by omega))); (try (have i_t97 := Imp.go t97 (by omega))); (try (have i_t98 := Imp.go t98 (by omega))); omega)) (fun h9 => by exfalso; omega)) w947 w949 w20 w162 w950 rfl xgReader hdV_yX1_readE ⟨Nat.le_of_ble_eq_true rfl, Nat.le_of_ble_eq_true rfl⟩ rfl hl.1 rfl (Nat.le_of_ble_eq_true rfl) dX1_readWrap_184 ⟨Nat.le_of_ble_eq_true rfl, Nat.le_of_ble_eq_true rfl⟩) hP hD hK hS hA (fun z159 u160 H locs w161 hP hD hK hS => ?_)
                            obtain ⟨V163, L164⟩ := u160
                            obtain ⟨hMV163, ajV163, axL164, rgz159, t162⟩ := w161
                            have alL164 : agL [6, 44] L L164 := agL.tr alL148 axL164 (by decide)
                            have hP : va_P D vwCl (xw ad kk V163 L164 Z) H := hP
                            have hD : va_D A (xw ad kk V163 L164 Z) := hD
                            have hMV163 : rgd bX V163 := hMV163
                            have ajV163 : agr [(1, 3), (1, 4), (1, 6), (1, 8), (6, 8), (6, 9), (6, 10)] [42, 43, 44, 48] V147 V163 := ajV163
                            have agV163 : agr [(1, 3), (1, 4), (1, 6), (1, 8), (6, 8), (6, 9), (6, 10)] [41, 42, 43, 44, 47, 48, 62, 63, 64, 65, 66] V V163 := agV147.tr ajV163 (by decide) (by decide)
                            have rgz159 : 0 ≤ z159.toInt ∧ z159.toInt ≤ 1 := rgz159
                            have t162 : Rd gT (sN (nx (nx mx82.2 1) 1) 4 1) (fun k => Iexpr 0 :: Itake 59 :: k) (fun k => k) z159.toInt (V163 1 3).toInt (fun s9 => RelC V163 L164 b gT s9 ∧ keepS (sN (nx (nx mx82.2 1) 1) 4 1) 2 s9) := t162
                            rcases t162 with ⟨q165, sx166, h167, rl168, kp169⟩ | ⟨q165, h167⟩
                            · skip
                              have hr170 : ∀ k, Rc gT (Crun gs (Istmt :: k)) (Crun sx166 (IaddWr mx82.1 (gT.1 ((nx mx82.2 1).1 0) - 152) :: Istmt :: k)) := fun k => (hr135 k).tr (h167 (IaddWr mx82.1 (gT.1 ((nx mx82.2 1).1 0) - 152) :: Istmt :: k))
                              refine lv_if_ne (tgt := 192) hx hb dX1_readWrap_187 (by decide) (fun c171 => ?_) (fun c171 => ?_)
                              · skip
                                have f172 : z159.toInt ≠ 0 := b_neq rfl (by decide) c171
                                refine lv_aload_n hx hb dX1_readWrap_192 rfl (lv_at hl 5 rfl) ?_
                                refine va_get (D := D) (ci := 1) (v := rfN ad 38 (V163 1 1)) (fs := (xfReader ad V163 L164 Z)) (C := RX1) (T := TX1) (N := 9) hx hb hg inX1 hown hK hP 1 xgReader rfl 1 (by decide) (hg _ w305) (fun _ h9 => h9) rfl dX1_readWrap_193 ?_
                                have pq173 : (V163 1 1).toInt = ((V 1 1)).toInt := congrArg Int32.toInt ((ajV163 1 1 rfl).trans ((ajV147 1 1 rfl).trans ((ajV100 1 1 rfl).trans ((ajV79 1 1 rfl).trans ((ajV63 1 1 rfl).trans ((ajV52 1 1 rfl).trans ((ajV28 1 1 rfl).trans (ajV18 1 1 rfl))))))))
                                refine g_topv (v := .ref (ad (38 + b))) (rfN_r (by first | omega | ((try (have i_t98 := Imp.go t98 (by omega))); (try (have i_t97 := Imp.go t97 (by omega))); (try (have i_t61 := Imp.go t61 (by omega))); (try (have i_t61 := Imp.go t61 (by omega))); (try (have i_t97 := Imp.go t97 (by omega))); (try (have i_t98 := Imp.go t98 (by omega))); omega))) ?_
                                refine lv_iload_n hx hb dX1_readWrap_196 rfl (lv_at hl 4 rfl) ?_
                                refine lv_iload_n hx hb dX1_readWrap_197 rfl (lv_at hl 3 rfl) ?_
                                refine lv_iload_n hx hb dX1_readWrap_198 rfl (lv_at hl 2 rfl) ?_
                                refine lv_iload hx hb dX1_readWrap_199 (lv_at hl 1 rfl) ?_
                                refine lv_iload hx hb dX1_readWrap_201 (lv_at hl 0 rfl) ?_
                                refine gA_void (gA_runV (As := [.int (V28 1 6), .int (V79 1 6), .int (V100 1 8), .int z131, .int (V 42 b)]) (rest := []) (ci := 0) (q0 := (38 + b)) hx hb hml hown hg hP hD hK hS hA hnw hgk (x_addWrap3 l D ks H.size ad kk V163 L164 Z (V28 1 6) (V79 1 6) (V100 1 8) z131 (V 42 b) (b) hMV163 (by first | omega | ((try (have i_t98 := Imp.go t98 (by omega))); (try (have i_t97 := Imp.go t97 (by omega))); (try (have i_t61 := Imp.go t61 (by omega))); (try (have i_t61 := Imp.go t61 (by omega))); (try (have i_t97 := Imp.go t97 (by omega))); (try (have i_t98 := Imp.go t98 (by omega))); omega)) (show b < 2 from by first | omega | ((try (have i_t98 := Imp.go t98 (by omega))); (try (have i_t97 := Imp.go t97 (by omega))); (try (have i_t61 := Imp.go t61 (by omega))); (try (have i_t61 := Imp.go t61 (by omega))); (try (have i_t97 := Imp.go t97 (by omega))); (try (have i_t98 := Imp.go t98 (by omega))); omega))) w999 w1000 w1001 w167 w1002 rfl (xgBook hb2) hdV_yX0_addWrap ⟨Nat.le_of_ble_eq_true rfl, Nat.le_of_ble_eq_true rfl⟩ rfl hl.1 rfl (Nat.le_of_ble_eq_true rfl) dX1_readWrap_203 ⟨Nat.le_of_ble_eq_true rfl, Nat.le_of_ble_eq_true rfl⟩) hP hD hK hS hA (fun u175 H locs w176 hP hD hK hS => ?_)
                                obtain ⟨V180, L181⟩ := u175
                                obtain ⟨hMV180, ajV180, axL181, t177, t178, t179⟩ := w176
                                have axL181 : L164 = L181 := Eq.symm axL181
                                subst axL181
                                have hP : va_P D vwCl (xw ad kk V180 L164 Z) H := hP
                                have hD : va_D A (xw ad kk V180 L164 Z) := hD
                                have hMV180 : rgd bX V180 := hMV180
                                have ajV180 : agr [] [41, 47, 62, 63, 64, 65, 66] V163 V180 := ajV180
                                have agV180 : agr [(1, 3), (1, 4), (1, 6), (1, 8), (6, 8), (6, 9), (6, 10)] [41, 42, 43, 44, 47, 48, 62, 63, 64, 65, 66] V V180 := agV163.tr ajV180 (by decide) (by decide)
                                have t177 : Imp ((V163 41 b).toInt < 12) ((V180 41 b).toInt = (V163 41 b).toInt + 1) := t177
                                have t178 : Imp ((V163 41 b).toInt < 12) (V180 63 = upd (V163 63) (12 * b + Int32.toNatClampNeg (V163 41 b)) (V79 1 6)) := t178
                                have t179 : Imp ((V163 41 b).toInt < 12) (V180 65 = upd (V163 65) (12 * b + Int32.toNatClampNeg (V163 41 b)) z131) := t179
                                have pq182 : (V163 41 b).toInt = ((V 41 b)).toInt := congrArg Int32.toInt ((ajV163 41 b rfl).trans ((ajV147 41 b rfl).trans ((ajV100 41 b rfl).trans ((ajV79 41 b rfl).trans ((ajV63 41 b rfl).trans ((ajV52 41 b rfl).trans ((ajV28 41 b rfl).trans (ajV18 41 b rfl))))))))
                                have w41 := rl168.2.2.2.1.1
                                have w42 := congrArg (fun q9 : List (Nat × Bool) × List Nat => q9.1.length) ((kp169).2.2.2.trans ((rfl : (sN (nx (nx mx82.2 1) 1) 4 1).2.2 = (nx (nx mx82.2 1) 1).2.2).trans (((keepS.n1 1)).2.2.2.trans (((keepS.n1 1)).2.2.2.trans ((kp87).2.2.2.trans (((keepS.n1 1)).2.2.2.trans (((keepS.n1 1)).2.2.2.trans (((keepS.n1 1)).2.2.2.trans (rfl : gs.2.2 = gs.2.2)))))))))
                                have w43 : (sx166.2.2.1.length) = gs.2.2.1.length := w42
                                have l41184 : (V163 41 b).toInt < 12 := by omega
                                have rl183 : RelC V180 L164 b gT (sW sx166 (mx82.1, decide (z131.toInt = 1))) := RelC.wr rl168 ajV180 (by decide) (hMV163 41 b).1 (Imp.go t177 l41184) (Imp.go t178 l41184) (Imp.go t179 l41184) (by omega)
                                have ph9 : z131.toInt = (gT.1 ((nx mx82.2 1).1 0) - 152) := by rw [kd134]; omega
                                have rl185 : RelC V180 L164 b gT (sW sx166 (mx82.1, decide ((gT.1 ((nx mx82.2 1).1 0) - 152) = 1))) := by have h9 := rl183; rw [ph9] at h9; exact h9
                                have hr186 : ∀ k, Rc gT (Crun gs (Istmt :: k)) (Crun (sW sx166 (mx82.1, decide ((gT.1 ((nx mx82.2 1).1 0) - 152) = 1))) (Istmt :: k)) := fun k => Rc.go1 (hr170 k) (m_addWr mx82.1 (gT.1 ((nx mx82.2 1).1 0) - 152))
                                refine lv_iconst (v := 1) hx hb dX1_readWrap_206 (by decide) ?_
                                have ps187 : gs.1 0 + 1 ≤ (nx gs 1).1 0 := ((keepS.n1 1)).1
                                have ps188 : (nx gs 1).1 0 + 1 ≤ (nx (nx gs 1) 1).1 0 := ((keepS.n1 1)).1
                                have ps189 : (nx (nx gs 1) 1).1 0 + 1 ≤ (nx (nx (nx gs 1) 1) 1).1 0 := ((keepS.n1 1)).1
                                have ps190 : (nx (nx (nx gs 1) 1) 1).1 0 + 1 ≤ mx82.2.1 0 := (kp87).1
                                have ps191 : mx82.2.1 0 + 1 ≤ (nx mx82.2 1).1 0 := ((keepS.n1 1)).1
                                have ps192 : (nx mx82.2 1).1 0 + 1 ≤ (nx (nx mx82.2 1) 1).1 0 := ((keepS.n1 1)).1
                                have ps193 : (sN (nx (nx mx82.2 1) 1) 4 1).1 0 = (nx (nx mx82.2 1) 1).1 0 := rfl
                                have ps194 : (sN (nx (nx mx82.2 1) 1) 4 1).1 0 + 2 ≤ sx166.1 0 := (kp169).1
                                have ps195 : (sW sx166 (mx82.1, decide ((gT.1 ((nx mx82.2 1).1 0) - 152) = 1))).1 0 = sx166.1 0 := rfl
                                exact W.zret (v := 1) hx hb hr rfl (fun t ht hW => ⟨⟨1, (V180, L164), rfl, ⟨hMV180, agV180, alL164, (by decide), (Or.inl ⟨rfl, (sW sx166 (mx82.1, decide ((gT.1 ((nx mx82.2 1).1 0) - 152) = 1))), hr186, rl185, (by omega)⟩)⟩, by rw [ht]; exact hP, va_K.moved hW.alike hK, hD⟩, hS.F ht⟩) hS.2.2 dX1_readWrap_207
                              · skip
                                have f196 : z159.toInt = 0 := b_eq rfl (by decide) c171
                                exfalso; first | omega | ((try (have i_t98 := Imp.go t98 (by omega))); (try (have i_t97 := Imp.go t97 (by omega))); (try (have i_t61 := Imp.go t61 (by omega))); (try (have i_t61 := Imp.go t61 (by omega))); (try (have i_t97 := Imp.go t97 (by omega))); (try (have i_t98 := Imp.go t98 (by omega))); omega)
                            · skip
                              have hb197 : ∀ k, Rc gT (Crun gs (Istmt :: k)) (Cbad (V163 1 3).toInt) := fun k => (hr135 k).tr (h167 (IaddWr mx82.1 (gT.1 ((nx mx82.2 1).1 0) - 152) :: Istmt :: k))
                              refine lv_if_ne (tgt := 192) hx hb dX1_readWrap_187 (by decide) (fun c198 => ?_) (fun c198 => ?_)
                              · skip
                                have f199 : z159.toInt ≠ 0 := b_neq rfl (by decide) c198
                                exfalso; first | omega | ((try (have i_t98 := Imp.go t98 (by omega))); (try (have i_t97 := Imp.go t97 (by omega))); (try (have i_t61 := Imp.go t61 (by omega))); (try (have i_t61 := Imp.go t61 (by omega))); (try (have i_t97 := Imp.go t97 (by omega))); (try (have i_t98 := Imp.go t98 (by omega))); omega)
                              · skip
                                have f200 : z159.toInt = 0 := b_eq rfl (by decide) c198
                                refine lv_iconst (v := 0) hx hb dX1_readWrap_190 (by decide) ?_
                                exact W.zret (v := 0) hx hb hr rfl (fun t ht hW => ⟨⟨0, (V163, L164), rfl, ⟨hMV163, agV163, alL164, (by decide), (Or.inr ⟨rfl, hb197⟩)⟩, by rw [ht]; exact hP, va_K.moved hW.alike hK, hD⟩, hS.F ht⟩) hS.2.2 dX1_readWrap_191
                          · skip
                            have f201 : z131.toInt = 1 := b_eq rfl (by decide) c154
                            refine lv_iconst (v := 2) hx hb dX1_readWrap_179 (by decide) ?_
                            refine lv_goto (tgt := 184) hx hb dX1_readWrap_180 (by decide) ?_
                            have w4202 : (sN (nx (nx mx82.2 1) 1) 4 1).1 4 = 1 := rfl
                            have r203 : Int32.toInt 2 = 2 := by decide
                            have pq204 : (V147 1 1).toInt = ((V 1 1)).toInt := congrArg Int32.toInt ((ajV147 1 1 rfl).trans ((ajV100 1 1 rfl).trans ((ajV79 1 1 rfl).trans ((ajV63 1 1 rfl).trans ((ajV52 1 1 rfl).trans ((ajV28 1 1 rfl).trans (ajV18 1 1 rfl)))))))
                            refine gA_int (gA_runV (As := [.int 2]) (rest := []) (ci := 1) (q0 := 1) hx hb hml hown hg hP hD hK hS hA hnw hgk (x_readE3 l D ks H.size ad kk V147 L148 Z 2 (b) (gT) ((sN (nx (nx mx82.2 1) 1) 4 1)) hMV147 (by decide) (show b < 2 from by first | omega | ((try (have i_t98 := Imp.go t98 (by omega))); (try (have i_t97 := Imp.go t97 (by omega))); (try (have i_t61 := Imp.go t61 (by omega))); (try (have i_t61 := Imp.go t61 (by omega))); (try (have i_t97 := Imp.go t97 (by omega))); (try (have i_t98 := Imp.go t98 (by omega))); omega)) (show (V147 1 1).toInt = (b : Int) from by first | omega | ((try (have i_t98 := Imp.go t98 (by omega))); (try (have i_t97 := Imp.go t97 (by omega))); (try (have i_t61 := Imp.go t61 (by omega))); (try (have i_t61 := Imp.go t61 (by omega))); (try (have i_t97 := Imp.go t97 (by omega))); (try (have i_t98 := Imp.go t98 (by omega))); omega)) rl152 (show (Int32.toInt 2) = (((sN (nx (nx mx82.2 1) 1) 4 1).1 4 : Nat) : Int) from by first | omega | ((try (have i_t98 := Imp.go t98 (by omega))); (try (have i_t97 := Imp.go t97 (by omega))); (try (have i_t61 := Imp.go t61 (by omega))); (try (have i_t61 := Imp.go t61 (by omega))); (try (have i_t97 := Imp.go t97 (by omega))); (try (have i_t98 := Imp.go t98 (by omega))); omega)) (fun h9 => by exfalso; omega)) w947 w949 w20 w162 w950 rfl xgReader hdV_yX1_readE ⟨Nat.le_of_ble_eq_true rfl, Nat.le_of_ble_eq_true rfl⟩ rfl hl.1 rfl (Nat.le_of_ble_eq_true rfl) dX1_readWrap_184 ⟨Nat.le_of_ble_eq_true rfl, Nat.le_of_ble_eq_true rfl⟩) hP hD hK hS hA (fun z205 u206 H locs w207 hP hD hK hS => ?_)
                            obtain ⟨V209, L210⟩ := u206
                            obtain ⟨hMV209, ajV209, axL210, rgz205, t208⟩ := w207
                            have alL210 : agL [6, 44] L L210 := agL.tr alL148 axL210 (by decide)
                            have hP : va_P D vwCl (xw ad kk V209 L210 Z) H := hP
                            have hD : va_D A (xw ad kk V209 L210 Z) := hD
                            have hMV209 : rgd bX V209 := hMV209
                            have ajV209 : agr [(1, 3), (1, 4), (1, 6), (1, 8), (6, 8), (6, 9), (6, 10)] [42, 43, 44, 48] V147 V209 := ajV209
                            have agV209 : agr [(1, 3), (1, 4), (1, 6), (1, 8), (6, 8), (6, 9), (6, 10)] [41, 42, 43, 44, 47, 48, 62, 63, 64, 65, 66] V V209 := agV147.tr ajV209 (by decide) (by decide)
                            have rgz205 : 0 ≤ z205.toInt ∧ z205.toInt ≤ 1 := rgz205
                            have t208 : Rd gT (sN (nx (nx mx82.2 1) 1) 4 1) (fun k => Iexpr 0 :: Itake 59 :: k) (fun k => k) z205.toInt (V209 1 3).toInt (fun s9 => RelC V209 L210 b gT s9 ∧ keepS (sN (nx (nx mx82.2 1) 1) 4 1) 2 s9) := t208
                            rcases t208 with ⟨q211, sx212, h213, rl214, kp215⟩ | ⟨q211, h213⟩
                            · skip
                              have hr216 : ∀ k, Rc gT (Crun gs (Istmt :: k)) (Crun sx212 (IaddWr mx82.1 (gT.1 ((nx mx82.2 1).1 0) - 152) :: Istmt :: k)) := fun k => (hr135 k).tr (h213 (IaddWr mx82.1 (gT.1 ((nx mx82.2 1).1 0) - 152) :: Istmt :: k))
                              refine lv_if_ne (tgt := 192) hx hb dX1_readWrap_187 (by decide) (fun c217 => ?_) (fun c217 => ?_)
                              · skip
                                have f218 : z205.toInt ≠ 0 := b_neq rfl (by decide) c217
                                refine lv_aload_n hx hb dX1_readWrap_192 rfl (lv_at hl 5 rfl) ?_
                                refine va_get (D := D) (ci := 1) (v := rfN ad 38 (V209 1 1)) (fs := (xfReader ad V209 L210 Z)) (C := RX1) (T := TX1) (N := 9) hx hb hg inX1 hown hK hP 1 xgReader rfl 1 (by decide) (hg _ w305) (fun _ h9 => h9) rfl dX1_readWrap_193 ?_
                                have pq219 : (V209 1 1).toInt = ((V 1 1)).toInt := congrArg Int32.toInt ((ajV209 1 1 rfl).trans ((ajV147 1 1 rfl).trans ((ajV100 1 1 rfl).trans ((ajV79 1 1 rfl).trans ((ajV63 1 1 rfl).trans ((ajV52 1 1 rfl).trans ((ajV28 1 1 rfl).trans (ajV18 1 1 rfl))))))))
                                refine g_topv (v := .ref (ad (38 + b))) (rfN_r (by first | omega | ((try (have i_t98 := Imp.go t98 (by omega))); (try (have i_t97 := Imp.go t97 (by omega))); (try (have i_t61 := Imp.go t61 (by omega))); (try (have i_t61 := Imp.go t61 (by omega))); (try (have i_t97 := Imp.go t97 (by omega))); (try (have i_t98 := Imp.go t98 (by omega))); omega))) ?_
                                refine lv_iload_n hx hb dX1_readWrap_196 rfl (lv_at hl 4 rfl) ?_
                                refine lv_iload_n hx hb dX1_readWrap_197 rfl (lv_at hl 3 rfl) ?_
                                refine lv_iload_n hx hb dX1_readWrap_198 rfl (lv_at hl 2 rfl) ?_
                                refine lv_iload hx hb dX1_readWrap_199 (lv_at hl 1 rfl) ?_
                                refine lv_iload hx hb dX1_readWrap_201 (lv_at hl 0 rfl) ?_
                                refine gA_void (gA_runV (As := [.int (V28 1 6), .int (V79 1 6), .int (V100 1 8), .int z131, .int (V 42 b)]) (rest := []) (ci := 0) (q0 := (38 + b)) hx hb hml hown hg hP hD hK hS hA hnw hgk (x_addWrap3 l D ks H.size ad kk V209 L210 Z (V28 1 6) (V79 1 6) (V100 1 8) z131 (V 42 b) (b) hMV209 (by first | omega | ((try (have i_t98 := Imp.go t98 (by omega))); (try (have i_t97 := Imp.go t97 (by omega))); (try (have i_t61 := Imp.go t61 (by omega))); (try (have i_t61 := Imp.go t61 (by omega))); (try (have i_t97 := Imp.go t97 (by omega))); (try (have i_t98 := Imp.go t98 (by omega))); omega)) (show b < 2 from by first | omega | ((try (have i_t98 := Imp.go t98 (by omega))); (try (have i_t97 := Imp.go t97 (by omega))); (try (have i_t61 := Imp.go t61 (by omega))); (try (have i_t61 := Imp.go t61 (by omega))); (try (have i_t97 := Imp.go t97 (by omega))); (try (have i_t98 := Imp.go t98 (by omega))); omega))) w999 w1000 w1001 w167 w1002 rfl (xgBook hb2) hdV_yX0_addWrap ⟨Nat.le_of_ble_eq_true rfl, Nat.le_of_ble_eq_true rfl⟩ rfl hl.1 rfl (Nat.le_of_ble_eq_true rfl) dX1_readWrap_203 ⟨Nat.le_of_ble_eq_true rfl, Nat.le_of_ble_eq_true rfl⟩) hP hD hK hS hA (fun u221 H locs w222 hP hD hK hS => ?_)
                                obtain ⟨V226, L227⟩ := u221
                                obtain ⟨hMV226, ajV226, axL227, t223, t224, t225⟩ := w222
                                have axL227 : L210 = L227 := Eq.symm axL227
                                subst axL227
                                have hP : va_P D vwCl (xw ad kk V226 L210 Z) H := hP
                                have hD : va_D A (xw ad kk V226 L210 Z) := hD
                                have hMV226 : rgd bX V226 := hMV226
                                have ajV226 : agr [] [41, 47, 62, 63, 64, 65, 66] V209 V226 := ajV226
                                have agV226 : agr [(1, 3), (1, 4), (1, 6), (1, 8), (6, 8), (6, 9), (6, 10)] [41, 42, 43, 44, 47, 48, 62, 63, 64, 65, 66] V V226 := agV209.tr ajV226 (by decide) (by decide)
                                have t223 : Imp ((V209 41 b).toInt < 12) ((V226 41 b).toInt = (V209 41 b).toInt + 1) := t223
                                have t224 : Imp ((V209 41 b).toInt < 12) (V226 63 = upd (V209 63) (12 * b + Int32.toNatClampNeg (V209 41 b)) (V79 1 6)) := t224
                                have t225 : Imp ((V209 41 b).toInt < 12) (V226 65 = upd (V209 65) (12 * b + Int32.toNatClampNeg (V209 41 b)) z131) := t225
                                have pq228 : (V209 41 b).toInt = ((V 41 b)).toInt := congrArg Int32.toInt ((ajV209 41 b rfl).trans ((ajV147 41 b rfl).trans ((ajV100 41 b rfl).trans ((ajV79 41 b rfl).trans ((ajV63 41 b rfl).trans ((ajV52 41 b rfl).trans ((ajV28 41 b rfl).trans (ajV18 41 b rfl))))))))
                                have w41 := rl214.2.2.2.1.1
                                have w42 := congrArg (fun q9 : List (Nat × Bool) × List Nat => q9.1.length) ((kp215).2.2.2.trans ((rfl : (sN (nx (nx mx82.2 1) 1) 4 1).2.2 = (nx (nx mx82.2 1) 1).2.2).trans (((keepS.n1 1)).2.2.2.trans (((keepS.n1 1)).2.2.2.trans ((kp87).2.2.2.trans (((keepS.n1 1)).2.2.2.trans (((keepS.n1 1)).2.2.2.trans (((keepS.n1 1)).2.2.2.trans (rfl : gs.2.2 = gs.2.2)))))))))
                                have w43 : (sx212.2.2.1.length) = gs.2.2.1.length := w42
                                have l41230 : (V209 41 b).toInt < 12 := by omega
                                have rl229 : RelC V226 L210 b gT (sW sx212 (mx82.1, decide (z131.toInt = 1))) := RelC.wr rl214 ajV226 (by decide) (hMV209 41 b).1 (Imp.go t223 l41230) (Imp.go t224 l41230) (Imp.go t225 l41230) (by omega)
                                have ph9 : z131.toInt = (gT.1 ((nx mx82.2 1).1 0) - 152) := by rw [kd134]; omega
                                have rl231 : RelC V226 L210 b gT (sW sx212 (mx82.1, decide ((gT.1 ((nx mx82.2 1).1 0) - 152) = 1))) := by have h9 := rl229; rw [ph9] at h9; exact h9
                                have hr232 : ∀ k, Rc gT (Crun gs (Istmt :: k)) (Crun (sW sx212 (mx82.1, decide ((gT.1 ((nx mx82.2 1).1 0) - 152) = 1))) (Istmt :: k)) := fun k => Rc.go1 (hr216 k) (m_addWr mx82.1 (gT.1 ((nx mx82.2 1).1 0) - 152))
                                refine lv_iconst (v := 1) hx hb dX1_readWrap_206 (by decide) ?_
                                have ps233 : gs.1 0 + 1 ≤ (nx gs 1).1 0 := ((keepS.n1 1)).1
                                have ps234 : (nx gs 1).1 0 + 1 ≤ (nx (nx gs 1) 1).1 0 := ((keepS.n1 1)).1
                                have ps235 : (nx (nx gs 1) 1).1 0 + 1 ≤ (nx (nx (nx gs 1) 1) 1).1 0 := ((keepS.n1 1)).1
                                have ps236 : (nx (nx (nx gs 1) 1) 1).1 0 + 1 ≤ mx82.2.1 0 := (kp87).1
                                have ps237 : mx82.2.1 0 + 1 ≤ (nx mx82.2 1).1 0 := ((keepS.n1 1)).1
                                have ps238 : (nx mx82.2 1).1 0 + 1 ≤ (nx (nx mx82.2 1) 1).1 0 := ((keepS.n1 1)).1
                                have ps239 : (sN (nx (nx mx82.2 1) 1) 4 1).1 0 = (nx (nx mx82.2 1) 1).1 0 := rfl
                                have ps240 : (sN (nx (nx mx82.2 1) 1) 4 1).1 0 + 2 ≤ sx212.1 0 := (kp215).1
                                have ps241 : (sW sx212 (mx82.1, decide ((gT.1 ((nx mx82.2 1).1 0) - 152) = 1))).1 0 = sx212.1 0 := rfl
                                exact W.zret (v := 1) hx hb hr rfl (fun t ht hW => ⟨⟨1, (V226, L210), rfl, ⟨hMV226, agV226, alL210, (by decide), (Or.inl ⟨rfl, (sW sx212 (mx82.1, decide ((gT.1 ((nx mx82.2 1).1 0) - 152) = 1))), hr232, rl231, (by omega)⟩)⟩, by rw [ht]; exact hP, va_K.moved hW.alike hK, hD⟩, hS.F ht⟩) hS.2.2 dX1_readWrap_207
                              · skip
                                have f242 : z205.toInt = 0 := b_eq rfl (by decide) c217
                                exfalso; first | omega | ((try (have i_t98 := Imp.go t98 (by omega))); (try (have i_t97 := Imp.go t97 (by omega))); (try (have i_t61 := Imp.go t61 (by omega))); (try (have i_t61 := Imp.go t61 (by omega))); (try (have i_t97 := Imp.go t97 (by omega))); (try (have i_t98 := Imp.go t98 (by omega))); omega)
                            · skip
                              have hb243 : ∀ k, Rc gT (Crun gs (Istmt :: k)) (Cbad (V209 1 3).toInt) := fun k => (hr135 k).tr (h213 (IaddWr mx82.1 (gT.1 ((nx mx82.2 1).1 0) - 152) :: Istmt :: k))
                              refine lv_if_ne (tgt := 192) hx hb dX1_readWrap_187 (by decide) (fun c244 => ?_) (fun c244 => ?_)
                              · skip
                                have f245 : z205.toInt ≠ 0 := b_neq rfl (by decide) c244
                                exfalso; first | omega | ((try (have i_t98 := Imp.go t98 (by omega))); (try (have i_t97 := Imp.go t97 (by omega))); (try (have i_t61 := Imp.go t61 (by omega))); (try (have i_t61 := Imp.go t61 (by omega))); (try (have i_t97 := Imp.go t97 (by omega))); (try (have i_t98 := Imp.go t98 (by omega))); omega)
                              · skip
                                have f246 : z205.toInt = 0 := b_eq rfl (by decide) c244
                                refine lv_iconst (v := 0) hx hb dX1_readWrap_190 (by decide) ?_
                                exact W.zret (v := 0) hx hb hr rfl (fun t ht hW => ⟨⟨0, (V209, L210), rfl, ⟨hMV209, agV209, alL210, (by decide), (Or.inr ⟨rfl, hb243⟩)⟩, by rw [ht]; exact hP, va_K.moved hW.alike hK, hD⟩, hS.F ht⟩) hS.2.2 dX1_readWrap_191
                        · skip
                          have f247 : z131.toInt = 1 := b_eq rfl (by decide) c132
                          refine lv_aload_n hx hb dX1_readWrap_138 rfl (lv_at hl 4 rfl) ?_
                          refine va_get (D := D) (ci := 1) (v := rfN ad 38 (V100 1 1)) (fs := (xfReader ad V100 L101 Z)) (C := RX1) (T := TX1) (N := 9) hx hb hg inX1 hown hK hP 1 xgReader rfl 1 (by decide) (hg _ w305) (fun _ h9 => h9) rfl dX1_readWrap_139 ?_
                          have pq248 : (V100 1 1).toInt = ((V 1 1)).toInt := congrArg Int32.toInt ((ajV100 1 1 rfl).trans ((ajV79 1 1 rfl).trans ((ajV63 1 1 rfl).trans ((ajV52 1 1 rfl).trans ((ajV28 1 1 rfl).trans (ajV18 1 1 rfl))))))
                          refine g_topv (v := .ref (ad (38 + b))) (rfN_r (by first | omega | ((try (have i_t98 := Imp.go t98 (by omega))); (try (have i_t97 := Imp.go t97 (by omega))); (try (have i_t61 := Imp.go t61 (by omega))); (try (have i_t61 := Imp.go t61 (by omega))); (try (have i_t97 := Imp.go t97 (by omega))); (try (have i_t98 := Imp.go t98 (by omega))); omega))) ?_
                          refine lv_iload_n hx hb dX1_readWrap_142 rfl (lv_at hl 2 rfl) ?_
                          refine gA_int (gA_runV (As := [.int (V79 1 6)]) (rest := []) (ci := 0) (q0 := (38 + b)) hx hb hml hown hg hP hD hK hS hA hnw hgk (x_aroundsOf3 l D ks H.size ad kk V100 L101 Z (V79 1 6) (b) ((nx mx82.2 1)) (mx82.1) hMV100 (show b < 2 from by first | omega | ((try (have i_t98 := Imp.go t98 (by omega))); (try (have i_t97 := Imp.go t97 (by omega))); (try (have i_t61 := Imp.go t61 (by omega))); (try (have i_t61 := Imp.go t61 (by omega))); (try (have i_t97 := Imp.go t97 (by omega))); (try (have i_t98 := Imp.go t98 (by omega))); omega)) (show ((V79 1 6)).toInt = ((mx82.1) : Int) from by first | omega | ((try (have i_t98 := Imp.go t98 (by omega))); (try (have i_t97 := Imp.go t97 (by omega))); (try (have i_t61 := Imp.go t61 (by omega))); (try (have i_t61 := Imp.go t61 (by omega))); (try (have i_t97 := Imp.go t97 (by omega))); (try (have i_t98 := Imp.go t98 (by omega))); omega)) (rl111).2.2.2.1) w943 w944 w945 w167 w946 rfl (xgBook hb2) hdV_yX0_aroundsOf ⟨Nat.le_of_ble_eq_true rfl, Nat.le_of_ble_eq_true rfl⟩ rfl hl.1 rfl (Nat.le_of_ble_eq_true rfl) dX1_readWrap_143 ⟨Nat.le_of_ble_eq_true rfl, Nat.le_of_ble_eq_true rfl⟩) hP hD hK hS hA (fun z249 u250 H locs w251 hP hD hK hS => ?_)
                          have t252 := w251
                          have t252 : z249.toInt = ((arounds (nx mx82.2 1).2.2.1 (mx82.1) : Nat) : Int) := t252
                          refine lv_iconst (v := 2) hx hb dX1_readWrap_146 (by decide) ?_
                          refine lv_icmp_lt (tgt := 156) hx hb dX1_readWrap_147 (by decide) (fun c253 => ?_) (fun c253 => ?_)
                          · skip
                            have f254 : z249.toInt < 2 := b_lt rfl (by decide) c253
                            have kd255 : gT.1 ((nx mx82.2 1).1 0) = ((V100 6 9)).toInt := RelC.kd rl111
                            have hr256 : ∀ k, Rc gT (Crun gs (Istmt :: k)) (Crun (sN (nx (nx mx82.2 1) 1) 4 2) (Iexpr 0 :: Itake 59 :: IaddWr mx82.1 (1 : Int) :: Istmt :: k)) := fun k => Rc.go1 (hr112 k) (ph_a mx82.1 (by rw [kd255]; omega) (by omega))
                            refine lv_aload_n hx hb dX1_readWrap_156 rfl (lv_at hl 4 rfl) ?_
                            refine va_get (D := D) (ci := 1) (v := rfN ad 38 (V100 1 1)) (fs := (xfReader ad V100 L101 Z)) (C := RX1) (T := TX1) (N := 9) hx hb hg inX1 hown hK hP 1 xgReader rfl 1 (by decide) (hg _ w305) (fun _ h9 => h9) rfl dX1_readWrap_157 ?_
                            refine g_topv (v := .ref (ad (38 + b))) (rfN_r (by first | omega | ((try (have i_t98 := Imp.go t98 (by omega))); (try (have i_t97 := Imp.go t97 (by omega))); (try (have i_t61 := Imp.go t61 (by omega))); (try (have i_t61 := Imp.go t61 (by omega))); (try (have i_t97 := Imp.go t97 (by omega))); (try (have i_t98 := Imp.go t98 (by omega))); omega))) ?_
                            refine va_getN (D := D) (ci := 0) (v := .int (V100 42 b)) (fs := (xfBook ad V100 b)) (C := RX0) (T := TX0) (N := 13) hx hb hg inX0 hown hK hP (38 + b) (xgBook hb2) rfl 12 (by decide) (hnw.use 630 n630 rfl) (fun _ h9 => h9) rfl dX1_readWrap_160 ?_
                            refine g_top (v := (V 42 b)) ((ajV100 42 b rfl).trans ((ajV79 42 b rfl).trans ((ajV63 42 b rfl).trans ((ajV52 42 b rfl).trans ((ajV28 42 b rfl).trans (ajV18 42 b rfl)))))) ?_
                            have r257 : 0 ≤ ((V 42 b)).toInt ∧ ((V 42 b)).toInt ≤ 8200 := hMV 42 b
                            refine lv_istore (lv' := [(5, .int (V 42 b)), (4, .int z131), (3, .int (V100 1 8)), (2, .int (V79 1 6)), (1, .int (V28 1 6)), (0, .ref (ad 1))]) hx hb dX1_readWrap_163 hl (by decide) rfl (fun ls hl => ?_)
                            refine lv_aload_n hx hb dX1_readWrap_165 rfl (lv_at hl 5 rfl) ?_
                            refine va_get (D := D) (ci := 1) (v := .ref (ad 6)) (fs := (xfReader ad V100 L101 Z)) (C := RX1) (T := TX1) (N := 9) hx hb hg inX1 hown hK hP 1 xgReader rfl 0 (by decide) (hg _ w304) (fun _ h9 => h9) rfl dX1_readWrap_166 ?_
                            have l8258 := RelC.l8 rl111
                            have r259 : 0 ≤ ((V100 6 8)).toInt ∧ ((V100 6 8)).toInt ≤ 4000 := hMV100 6 8
                            have pq260 : (V100 6 7).toInt = ((V 6 7)).toInt := congrArg Int32.toInt ((ajV100 6 7 rfl).trans ((ajV79 6 7 rfl).trans ((ajV63 6 7 rfl).trans ((ajV52 6 7 rfl).trans ((ajV28 6 7 rfl).trans (ajV18 6 7 rfl))))))
                            have lk261 := RelC.lk rl111 (show (V100 6 9).toInt ≠ 0 from by omega)
                            refine gA_void (gA_runV (As := []) (rest := []) (ci := 9) (q0 := 6) hx hb hml hown hg hP hD hK hS hA hnw hgk (x_next2 l D ks H.size ad kk V100 L101 Z  hMV100 (show (V100 6 8).toInt ≤ (V100 6 7).toInt from by first | omega | ((try (have i_t98 := Imp.go t98 (by omega))); (try (have i_t97 := Imp.go t97 (by omega))); (try (have i_t61 := Imp.go t61 (by omega))); (try (have i_t61 := Imp.go t61 (by omega))); (try (have i_t97 := Imp.go t97 (by omega))); (try (have i_t98 := Imp.go t98 (by omega))); omega))) w871 w852 w853 w157 w854 rfl xgTape hdV_yX9_next ⟨Nat.le_of_ble_eq_true rfl, Nat.le_of_ble_eq_true rfl⟩ rfl hl.1 rfl (Nat.le_of_ble_eq_true rfl) dX1_readWrap_169 ⟨Nat.le_of_ble_eq_true rfl, Nat.le_of_ble_eq_true rfl⟩) hP hD hK hS hA (fun u263 H locs w264 hP hD hK hS => ?_)
                            obtain ⟨V267, L268⟩ := u263
                            obtain ⟨hMV267, ajV267, axL268, t265, t266⟩ := w264
                            have alL268 : agL [6, 44] L L268 := agL.tr alL101 axL268 (by decide)
                            have hP : va_P D vwCl (xw ad kk V267 L268 Z) H := hP
                            have hD : va_D A (xw ad kk V267 L268 Z) := hD
                            have hMV267 : rgd bX V267 := hMV267
                            have ajV267 : agr [(6, 8), (6, 9), (6, 10)] [] V100 V267 := ajV267
                            have agV267 : agr [(1, 3), (1, 4), (1, 6), (1, 8), (6, 8), (6, 9), (6, 10)] [41, 42, 43, 44, 47, 48, 62, 63, 64, 65, 66] V V267 := agV100.tr ajV267 (by decide) (by decide)
                            have t265 : (V267 6 8).toInt ≤ (V267 6 7).toInt := t265
                            have t266 : CUR V267 L268 (Int32.toNatClampNeg (V100 6 8)) := t266
                            have r269 : 0 ≤ ((V267 6 8)).toInt ∧ ((V267 6 8)).toInt ≤ 4000 := hMV267 6 8
                            have pq270 : (V267 6 7).toInt = ((V 6 7)).toInt := congrArg Int32.toInt ((ajV267 6 7 rfl).trans ((ajV100 6 7 rfl).trans ((ajV79 6 7 rfl).trans ((ajV63 6 7 rfl).trans ((ajV52 6 7 rfl).trans ((ajV28 6 7 rfl).trans (ajV18 6 7 rfl)))))))
                            have rl271 : RelC V267 L268 b gT (nx (nx mx82.2 1) 1) := RelC.nx1 rl111 ajV267 (by decide) axL268 (by decide) (by rw [← lk261]; exact t266) (ajV267 1 3 rfl)
                            have pq273 : (V267 1 2).toInt = ((V 1 2)).toInt := congrArg Int32.toInt ((ajV267 1 2 rfl).trans ((ajV100 1 2 rfl).trans ((ajV79 1 2 rfl).trans ((ajV63 1 2 rfl).trans ((ajV52 1 2 rfl).trans ((ajV28 1 2 rfl).trans (ajV18 1 2 rfl)))))))
                            have rl272 : RelC V267 L268 b gT (sN (nx (nx mx82.2 1) 1) 4 2) := RelC.s4 rl271 (by omega)
                            refine lv_aload_n hx hb dX1_readWrap_172 rfl (lv_at hl 5 rfl) ?_
                            refine lv_iload hx hb dX1_readWrap_173 (lv_at hl 1 rfl) ?_
                            refine lv_iconst (v := 1) hx hb dX1_readWrap_175 (by decide) ?_
                            refine lv_icmp_ne (tgt := 183) hx hb dX1_readWrap_176 (by decide) (fun c274 => ?_) (fun c274 => ?_)
                            · skip
                              have f275 : z131.toInt ≠ 1 := b_neq rfl (by decide) c274
                              exfalso; first | omega | ((try (have i_t98 := Imp.go t98 (by omega))); (try (have i_t97 := Imp.go t97 (by omega))); (try (have i_t61 := Imp.go t61 (by omega))); (try (have i_t61 := Imp.go t61 (by omega))); (try (have i_t97 := Imp.go t97 (by omega))); (try (have i_t98 := Imp.go t98 (by omega))); omega)
                            · skip
                              have f276 : z131.toInt = 1 := b_eq rfl (by decide) c274
                              refine lv_iconst (v := 2) hx hb dX1_readWrap_179 (by decide) ?_
                              refine lv_goto (tgt := 184) hx hb dX1_readWrap_180 (by decide) ?_
                              have w4277 : (sN (nx (nx mx82.2 1) 1) 4 2).1 4 = 2 := rfl
                              have r278 : Int32.toInt 2 = 2 := by decide
                              have pq279 : (V267 1 1).toInt = ((V 1 1)).toInt := congrArg Int32.toInt ((ajV267 1 1 rfl).trans ((ajV100 1 1 rfl).trans ((ajV79 1 1 rfl).trans ((ajV63 1 1 rfl).trans ((ajV52 1 1 rfl).trans ((ajV28 1 1 rfl).trans (ajV18 1 1 rfl)))))))
                              refine gA_int (gA_runV (As := [.int 2]) (rest := []) (ci := 1) (q0 := 1) hx hb hml hown hg hP hD hK hS hA hnw hgk (x_readE3 l D ks H.size ad kk V267 L268 Z 2 (b) (gT) ((sN (nx (nx mx82.2 1) 1) 4 2)) hMV267 (by decide) (show b < 2 from by first | omega | ((try (have i_t98 := Imp.go t98 (by omega))); (try (have i_t97 := Imp.go t97 (by omega))); (try (have i_t61 := Imp.go t61 (by omega))); (try (have i_t61 := Imp.go t61 (by omega))); (try (have i_t97 := Imp.go t97 (by omega))); (try (have i_t98 := Imp.go t98 (by omega))); omega)) (show (V267 1 1).toInt = (b : Int) from by first | omega | ((try (have i_t98 := Imp.go t98 (by omega))); (try (have i_t97 := Imp.go t97 (by omega))); (try (have i_t61 := Imp.go t61 (by omega))); (try (have i_t61 := Imp.go t61 (by omega))); (try (have i_t97 := Imp.go t97 (by omega))); (try (have i_t98 := Imp.go t98 (by omega))); omega)) rl272 (show (Int32.toInt 2) = (((sN (nx (nx mx82.2 1) 1) 4 2).1 4 : Nat) : Int) from by first | omega | ((try (have i_t98 := Imp.go t98 (by omega))); (try (have i_t97 := Imp.go t97 (by omega))); (try (have i_t61 := Imp.go t61 (by omega))); (try (have i_t61 := Imp.go t61 (by omega))); (try (have i_t97 := Imp.go t97 (by omega))); (try (have i_t98 := Imp.go t98 (by omega))); omega)) (fun h9 => by exfalso; omega)) w947 w949 w20 w162 w950 rfl xgReader hdV_yX1_readE ⟨Nat.le_of_ble_eq_true rfl, Nat.le_of_ble_eq_true rfl⟩ rfl hl.1 rfl (Nat.le_of_ble_eq_true rfl) dX1_readWrap_184 ⟨Nat.le_of_ble_eq_true rfl, Nat.le_of_ble_eq_true rfl⟩) hP hD hK hS hA (fun z280 u281 H locs w282 hP hD hK hS => ?_)
                              obtain ⟨V284, L285⟩ := u281
                              obtain ⟨hMV284, ajV284, axL285, rgz280, t283⟩ := w282
                              have alL285 : agL [6, 44] L L285 := agL.tr alL268 axL285 (by decide)
                              have hP : va_P D vwCl (xw ad kk V284 L285 Z) H := hP
                              have hD : va_D A (xw ad kk V284 L285 Z) := hD
                              have hMV284 : rgd bX V284 := hMV284
                              have ajV284 : agr [(1, 3), (1, 4), (1, 6), (1, 8), (6, 8), (6, 9), (6, 10)] [42, 43, 44, 48] V267 V284 := ajV284
                              have agV284 : agr [(1, 3), (1, 4), (1, 6), (1, 8), (6, 8), (6, 9), (6, 10)] [41, 42, 43, 44, 47, 48, 62, 63, 64, 65, 66] V V284 := agV267.tr ajV284 (by decide) (by decide)
                              have rgz280 : 0 ≤ z280.toInt ∧ z280.toInt ≤ 1 := rgz280
                              have t283 : Rd gT (sN (nx (nx mx82.2 1) 1) 4 2) (fun k => Iexpr 0 :: Itake 59 :: k) (fun k => k) z280.toInt (V284 1 3).toInt (fun s9 => RelC V284 L285 b gT s9 ∧ keepS (sN (nx (nx mx82.2 1) 1) 4 2) 2 s9) := t283
                              rcases t283 with ⟨q286, sx287, h288, rl289, kp290⟩ | ⟨q286, h288⟩
                              · skip
                                have hr291 : ∀ k, Rc gT (Crun gs (Istmt :: k)) (Crun sx287 (IaddWr mx82.1 (1 : Int) :: Istmt :: k)) := fun k => (hr256 k).tr (h288 (IaddWr mx82.1 (1 : Int) :: Istmt :: k))
                                refine lv_if_ne (tgt := 192) hx hb dX1_readWrap_187 (by decide) (fun c292 => ?_) (fun c292 => ?_)
                                · skip
                                  have f293 : z280.toInt ≠ 0 := b_neq rfl (by decide) c292
                                  refine lv_aload_n hx hb dX1_readWrap_192 rfl (lv_at hl 5 rfl) ?_
                                  refine va_get (D := D) (ci := 1) (v := rfN ad 38 (V284 1 1)) (fs := (xfReader ad V284 L285 Z)) (C := RX1) (T := TX1) (N := 9) hx hb hg inX1 hown hK hP 1 xgReader rfl 1 (by decide) (hg _ w305) (fun _ h9 => h9) rfl dX1_readWrap_193 ?_
                                  have pq294 : (V284 1 1).toInt = ((V 1 1)).toInt := congrArg Int32.toInt ((ajV284 1 1 rfl).trans ((ajV267 1 1 rfl).trans ((ajV100 1 1 rfl).trans ((ajV79 1 1 rfl).trans ((ajV63 1 1 rfl).trans ((ajV52 1 1 rfl).trans ((ajV28 1 1 rfl).trans (ajV18 1 1 rfl))))))))
                                  refine g_topv (v := .ref (ad (38 + b))) (rfN_r (by first | omega | ((try (have i_t98 := Imp.go t98 (by omega))); (try (have i_t97 := Imp.go t97 (by omega))); (try (have i_t61 := Imp.go t61 (by omega))); (try (have i_t61 := Imp.go t61 (by omega))); (try (have i_t97 := Imp.go t97 (by omega))); (try (have i_t98 := Imp.go t98 (by omega))); omega))) ?_
                                  refine lv_iload_n hx hb dX1_readWrap_196 rfl (lv_at hl 4 rfl) ?_
                                  refine lv_iload_n hx hb dX1_readWrap_197 rfl (lv_at hl 3 rfl) ?_
                                  refine lv_iload_n hx hb dX1_readWrap_198 rfl (lv_at hl 2 rfl) ?_
                                  refine lv_iload hx hb dX1_readWrap_199 (lv_at hl 1 rfl) ?_
                                  refine lv_iload hx hb dX1_readWrap_201 (lv_at hl 0 rfl) ?_
                                  refine gA_void (gA_runV (As := [.int (V28 1 6), .int (V79 1 6), .int (V100 1 8), .int z131, .int (V 42 b)]) (rest := []) (ci := 0) (q0 := (38 + b)) hx hb hml hown hg hP hD hK hS hA hnw hgk (x_addWrap3 l D ks H.size ad kk V284 L285 Z (V28 1 6) (V79 1 6) (V100 1 8) z131 (V 42 b) (b) hMV284 (by first | omega | ((try (have i_t98 := Imp.go t98 (by omega))); (try (have i_t97 := Imp.go t97 (by omega))); (try (have i_t61 := Imp.go t61 (by omega))); (try (have i_t61 := Imp.go t61 (by omega))); (try (have i_t97 := Imp.go t97 (by omega))); (try (have i_t98 := Imp.go t98 (by omega))); omega)) (show b < 2 from by first | omega | ((try (have i_t98 := Imp.go t98 (by omega))); (try (have i_t97 := Imp.go t97 (by omega))); (try (have i_t61 := Imp.go t61 (by omega))); (try (have i_t61 := Imp.go t61 (by omega))); (try (have i_t97 := Imp.go t97 (by omega))); (try (have i_t98 := Imp.go t98 (by omega))); omega))) w999 w1000 w1001 w167 w1002 rfl (xgBook hb2) hdV_yX0_addWrap ⟨Nat.le_of_ble_eq_true rfl, Nat.le_of_ble_eq_true rfl⟩ rfl hl.1 rfl (Nat.le_of_ble_eq_true rfl) dX1_readWrap_203 ⟨Nat.le_of_ble_eq_true rfl, Nat.le_of_ble_eq_true rfl⟩) hP hD hK hS hA (fun u296 H locs w297 hP hD hK hS => ?_)
                                  obtain ⟨V301, L302⟩ := u296
                                  obtain ⟨hMV301, ajV301, axL302, t298, t299, t300⟩ := w297
                                  have axL302 : L285 = L302 := Eq.symm axL302
                                  subst axL302
                                  have hP : va_P D vwCl (xw ad kk V301 L285 Z) H := hP
                                  have hD : va_D A (xw ad kk V301 L285 Z) := hD
                                  have hMV301 : rgd bX V301 := hMV301
                                  have ajV301 : agr [] [41, 47, 62, 63, 64, 65, 66] V284 V301 := ajV301
                                  have agV301 : agr [(1, 3), (1, 4), (1, 6), (1, 8), (6, 8), (6, 9), (6, 10)] [41, 42, 43, 44, 47, 48, 62, 63, 64, 65, 66] V V301 := agV284.tr ajV301 (by decide) (by decide)
                                  have t298 : Imp ((V284 41 b).toInt < 12) ((V301 41 b).toInt = (V284 41 b).toInt + 1) := t298
                                  have t299 : Imp ((V284 41 b).toInt < 12) (V301 63 = upd (V284 63) (12 * b + Int32.toNatClampNeg (V284 41 b)) (V79 1 6)) := t299
                                  have t300 : Imp ((V284 41 b).toInt < 12) (V301 65 = upd (V284 65) (12 * b + Int32.toNatClampNeg (V284 41 b)) z131) := t300
                                  have pq303 : (V284 41 b).toInt = ((V 41 b)).toInt := congrArg Int32.toInt ((ajV284 41 b rfl).trans ((ajV267 41 b rfl).trans ((ajV100 41 b rfl).trans ((ajV79 41 b rfl).trans ((ajV63 41 b rfl).trans ((ajV52 41 b rfl).trans ((ajV28 41 b rfl).trans (ajV18 41 b rfl))))))))
                                  have w41 := rl289.2.2.2.1.1
                                  have w42 := congrArg (fun q9 : List (Nat × Bool) × List Nat => q9.1.length) ((kp290).2.2.2.trans ((rfl : (sN (nx (nx mx82.2 1) 1) 4 2).2.2 = (nx (nx mx82.2 1) 1).2.2).trans (((keepS.n1 1)).2.2.2.trans (((keepS.n1 1)).2.2.2.trans ((kp87).2.2.2.trans (((keepS.n1 1)).2.2.2.trans (((keepS.n1 1)).2.2.2.trans (((keepS.n1 1)).2.2.2.trans (rfl : gs.2.2 = gs.2.2)))))))))
                                  have w43 : (sx287.2.2.1.length) = gs.2.2.1.length := w42
                                  have l41305 : (V284 41 b).toInt < 12 := by omega
                                  have rl304 : RelC V301 L285 b gT (sW sx287 (mx82.1, decide (z131.toInt = 1))) := RelC.wr rl289 ajV301 (by decide) (hMV284 41 b).1 (Imp.go t298 l41305) (Imp.go t299 l41305) (Imp.go t300 l41305) (by omega)
                                  have ph9 : z131.toInt = (1 : Int) := by omega
                                  have rl306 : RelC V301 L285 b gT (sW sx287 (mx82.1, decide ((1 : Int) = 1))) := by have h9 := rl304; rw [ph9] at h9; exact h9
                                  have hr307 : ∀ k, Rc gT (Crun gs (Istmt :: k)) (Crun (sW sx287 (mx82.1, decide ((1 : Int) = 1))) (Istmt :: k)) := fun k => Rc.go1 (hr291 k) (m_addWr mx82.1 (1 : Int))
                                  refine lv_iconst (v := 1) hx hb dX1_readWrap_206 (by decide) ?_
                                  have ps308 : gs.1 0 + 1 ≤ (nx gs 1).1 0 := ((keepS.n1 1)).1
                                  have ps309 : (nx gs 1).1 0 + 1 ≤ (nx (nx gs 1) 1).1 0 := ((keepS.n1 1)).1
                                  have ps310 : (nx (nx gs 1) 1).1 0 + 1 ≤ (nx (nx (nx gs 1) 1) 1).1 0 := ((keepS.n1 1)).1
                                  have ps311 : (nx (nx (nx gs 1) 1) 1).1 0 + 1 ≤ mx82.2.1 0 := (kp87).1
                                  have ps312 : mx82.2.1 0 + 1 ≤ (nx mx82.2 1).1 0 := ((keepS.n1 1)).1
                                  have ps313 : (nx mx82.2 1).1 0 + 1 ≤ (nx (nx mx82.2 1) 1).1 0 := ((keepS.n1 1)).1
                                  have ps314 : (sN (nx (nx mx82.2 1) 1) 4 2).1 0 = (nx (nx mx82.2 1) 1).1 0 := rfl
                                  have ps315 : (sN (nx (nx mx82.2 1) 1) 4 2).1 0 + 2 ≤ sx287.1 0 := (kp290).1
                                  have ps316 : (sW sx287 (mx82.1, decide ((1 : Int) = 1))).1 0 = sx287.1 0 := rfl
                                  exact W.zret (v := 1) hx hb hr rfl (fun t ht hW => ⟨⟨1, (V301, L285), rfl, ⟨hMV301, agV301, alL285, (by decide), (Or.inl ⟨rfl, (sW sx287 (mx82.1, decide ((1 : Int) = 1))), hr307, rl306, (by omega)⟩)⟩, by rw [ht]; exact hP, va_K.moved hW.alike hK, hD⟩, hS.F ht⟩) hS.2.2 dX1_readWrap_207
                                · skip
                                  have f317 : z280.toInt = 0 := b_eq rfl (by decide) c292
                                  exfalso; first | omega | ((try (have i_t98 := Imp.go t98 (by omega))); (try (have i_t97 := Imp.go t97 (by omega))); (try (have i_t61 := Imp.go t61 (by omega))); (try (have i_t61 := Imp.go t61 (by omega))); (try (have i_t97 := Imp.go t97 (by omega))); (try (have i_t98 := Imp.go t98 (by omega))); omega)
                              · skip
                                have hb318 : ∀ k, Rc gT (Crun gs (Istmt :: k)) (Cbad (V284 1 3).toInt) := fun k => (hr256 k).tr (h288 (IaddWr mx82.1 (1 : Int) :: Istmt :: k))
                                refine lv_if_ne (tgt := 192) hx hb dX1_readWrap_187 (by decide) (fun c319 => ?_) (fun c319 => ?_)
                                · skip
                                  have f320 : z280.toInt ≠ 0 := b_neq rfl (by decide) c319
                                  exfalso; first | omega | ((try (have i_t98 := Imp.go t98 (by omega))); (try (have i_t97 := Imp.go t97 (by omega))); (try (have i_t61 := Imp.go t61 (by omega))); (try (have i_t61 := Imp.go t61 (by omega))); (try (have i_t97 := Imp.go t97 (by omega))); (try (have i_t98 := Imp.go t98 (by omega))); omega)
                                · skip
                                  have f321 : z280.toInt = 0 := b_eq rfl (by decide) c319
                                  refine lv_iconst (v := 0) hx hb dX1_readWrap_190 (by decide) ?_
                                  exact W.zret (v := 0) hx hb hr rfl (fun t ht hW => ⟨⟨0, (V284, L285), rfl, ⟨hMV284, agV284, alL285, (by decide), (Or.inr ⟨rfl, hb318⟩)⟩, by rw [ht]; exact hP, va_K.moved hW.alike hK, hD⟩, hS.F ht⟩) hS.2.2 dX1_readWrap_191
                          · skip
                            have f322 : 2 ≤ z249.toInt := b_nlt rfl (by decide) c253
                            refine lv_aload_n hx hb dX1_readWrap_150 rfl (lv_at hl 4 rfl) ?_
                            refine lv_iconst (v := 5) hx hb dX1_readWrap_151 (by decide) ?_
                            have kd323 : gT.1 ((nx mx82.2 1).1 0) = ((V100 6 9)).toInt := RelC.kd rl111
                            have r324 : Int32.toInt 5 = 5 := by decide
                            refine gA_int (gA_runV (As := [.int 5]) (rest := []) (ci := 1) (q0 := 1) hx hb hml hown hg hP hD hK hS hA hnw hgk (x_wrong2 l D ks H.size ad kk V100 L101 Z 5 hMV100 (by decide)) w867 w869 w6 w162 w870 rfl xgReader hdV_yX1_wrong ⟨Nat.le_of_ble_eq_true rfl, Nat.le_of_ble_eq_true rfl⟩ rfl hl.1 rfl (Nat.le_of_ble_eq_true rfl) dX1_readWrap_152 ⟨Nat.le_of_ble_eq_true rfl, Nat.le_of_ble_eq_true rfl⟩) hP hD hK hS hA (fun z325 u326 H locs w327 hP hD hK hS => ?_)
                            obtain ⟨V330, L331⟩ := u326
                            obtain ⟨hMV330, ajV330, axL331, rgz325, t328, t329⟩ := w327
                            have axL331 : L101 = L331 := Eq.symm axL331
                            subst axL331
                            have hP : va_P D vwCl (xw ad kk V330 L101 Z) H := hP
                            have hD : va_D A (xw ad kk V330 L101 Z) := hD
                            have hMV330 : rgd bX V330 := hMV330
                            have ajV330 : agr [(1, 3)] [] V100 V330 := ajV330
                            have agV330 : agr [(1, 3), (1, 4), (1, 6), (1, 8), (6, 8), (6, 9), (6, 10)] [41, 42, 43, 44, 47, 48, 62, 63, 64, 65, 66] V V330 := agV100.tr ajV330 (by decide) (by decide)
                            have rgz325 : 0 ≤ z325.toInt ∧ z325.toInt ≤ 0 := rgz325
                            have t328 : 1 ≤ (V330 1 3).toInt := t328
                            have t329 : (V330 1 3).toInt = (Int32.toInt 5) + 16 * (V100 6 10).toInt := t329
                            have r332 : 0 ≤ ((V100 6 10)).toInt ∧ ((V100 6 10)).toInt ≤ 4000 := hMV100 6 10
                            have hb333 : ∀ k, Rc gT (Crun gs (Istmt :: k)) (Cbad (V330 1 3).toInt) := fun k => Rc.go1 (hr112 k) ((ph_5 mx82.1 (by rw [kd323]; omega) (by omega)).trans (fl_eq (RelC.st rl111) (show (V330 1 3).toInt = 5 + 16 * (V100 6 10).toInt from by omega)))
                            exact W.zret (v := z325) hx hb hr (nb_ok (by omega)) (fun t ht hW => ⟨⟨z325, (V330, L101), rfl, ⟨hMV330, agV330, alL101, (show 0 ≤ z325.toInt ∧ z325.toInt ≤ 1 from by first | omega | ((try (have i_t98 := Imp.go t98 (by omega))); (try (have i_t97 := Imp.go t97 (by omega))); (try (have i_t61 := Imp.go t61 (by omega))); (try (have i_t61 := Imp.go t61 (by omega))); (try (have i_t97 := Imp.go t97 (by omega))); (try (have i_t98 := Imp.go t98 (by omega))); omega)), (Or.inr ⟨(by omega), hb333⟩)⟩, by rw [ht]; exact hP, va_K.moved hW.alike hK, hD⟩, hS.F ht⟩) hS.2.2 dX1_readWrap_155
                      · skip
                        have f334 : 155 < ((V100 6 9)).toInt := b_nle rfl (by decide) c129
                        refine lv_aload_n hx hb dX1_readWrap_113 rfl (lv_at hl 3 rfl) ?_
                        refine lv_iconst (v := 1) hx hb dX1_readWrap_114 (by decide) ?_
                        have kd335 : gT.1 ((nx mx82.2 1).1 0) = ((V100 6 9)).toInt := RelC.kd rl111
                        have r336 : Int32.toInt 1 = 1 := by decide
                        refine gA_int (gA_runV (As := [.int 1]) (rest := []) (ci := 1) (q0 := 1) hx hb hml hown hg hP hD hK hS hA hnw hgk (x_wrong2 l D ks H.size ad kk V100 L101 Z 1 hMV100 (by decide)) w867 w869 w6 w162 w870 rfl xgReader hdV_yX1_wrong ⟨Nat.le_of_ble_eq_true rfl, Nat.le_of_ble_eq_true rfl⟩ rfl hl.1 rfl (Nat.le_of_ble_eq_true rfl) dX1_readWrap_115 ⟨Nat.le_of_ble_eq_true rfl, Nat.le_of_ble_eq_true rfl⟩) hP hD hK hS hA (fun z337 u338 H locs w339 hP hD hK hS => ?_)
                        obtain ⟨V342, L343⟩ := u338
                        obtain ⟨hMV342, ajV342, axL343, rgz337, t340, t341⟩ := w339
                        have axL343 : L101 = L343 := Eq.symm axL343
                        subst axL343
                        have hP : va_P D vwCl (xw ad kk V342 L101 Z) H := hP
                        have hD : va_D A (xw ad kk V342 L101 Z) := hD
                        have hMV342 : rgd bX V342 := hMV342
                        have ajV342 : agr [(1, 3)] [] V100 V342 := ajV342
                        have agV342 : agr [(1, 3), (1, 4), (1, 6), (1, 8), (6, 8), (6, 9), (6, 10)] [41, 42, 43, 44, 47, 48, 62, 63, 64, 65, 66] V V342 := agV100.tr ajV342 (by decide) (by decide)
                        have rgz337 : 0 ≤ z337.toInt ∧ z337.toInt ≤ 0 := rgz337
                        have t340 : 1 ≤ (V342 1 3).toInt := t340
                        have t341 : (V342 1 3).toInt = (Int32.toInt 1) + 16 * (V100 6 10).toInt := t341
                        have r344 : 0 ≤ ((V100 6 10)).toInt ∧ ((V100 6 10)).toInt ≤ 4000 := hMV100 6 10
                        have hb345 : ∀ k, Rc gT (Crun gs (Istmt :: k)) (Cbad (V342 1 3).toInt) := fun k => Rc.go1 (hr112 k) ((ph_1 mx82.1 (by rw [kd335]; omega)).trans (fl_eq (RelC.st rl111) (show (V342 1 3).toInt = 1 + 16 * (V100 6 10).toInt from by omega)))
                        exact W.zret (v := z337) hx hb hr (nb_ok (by omega)) (fun t ht hW => ⟨⟨z337, (V342, L101), rfl, ⟨hMV342, agV342, alL101, (show 0 ≤ z337.toInt ∧ z337.toInt ≤ 1 from by first | omega | ((try (have i_t98 := Imp.go t98 (by omega))); (try (have i_t97 := Imp.go t97 (by omega))); (try (have i_t61 := Imp.go t61 (by omega))); (try (have i_t61 := Imp.go t61 (by omega))); (try (have i_t97 := Imp.go t97 (by omega))); (try (have i_t98 := Imp.go t98 (by omega))); omega)), (Or.inr ⟨(by omega), hb345⟩)⟩, by rw [ht]; exact hP, va_K.moved hW.alike hK, hD⟩, hS.F ht⟩) hS.2.2 dX1_readWrap_118
                  · skip
                    have f346 : z94.toInt = 0 := b_eq rfl (by decide) c113
                    exfalso; first | omega | ((try (have i_t98 := Imp.go t98 (by omega))); (try (have i_t97 := Imp.go t97 (by omega))); (try (have i_t61 := Imp.go t61 (by omega))); (try (have i_t61 := Imp.go t61 (by omega))); (try (have i_t97 := Imp.go t97 (by omega))); (try (have i_t98 := Imp.go t98 (by omega))); omega)
                · skip
                  have hb347 : ∀ k, Rc gT (Crun gs (Istmt :: k)) (Cbad (V100 1 3).toInt) := fun k => Rc.go1 (hr88 k) ((nm_1 (fun h9 => h104 (rl84.tok.1.symm.trans h9))).trans (fl_eq rl84.tok.2.2 k107))
                  refine lv_if_ne (tgt := 82) hx hb dX1_readWrap_77 (by decide) (fun c348 => ?_) (fun c348 => ?_)
                  · skip
                    have f349 : z94.toInt ≠ 0 := b_neq rfl (by decide) c348
                    exfalso; first | omega | ((try (have i_t98 := Imp.go t98 (by omega))); (try (have i_t97 := Imp.go t97 (by omega))); (try (have i_t61 := Imp.go t61 (by omega))); (try (have i_t61 := Imp.go t61 (by omega))); (try (have i_t97 := Imp.go t97 (by omega))); (try (have i_t98 := Imp.go t98 (by omega))); omega)
                  · skip
                    have f350 : z94.toInt = 0 := b_eq rfl (by decide) c348
                    refine lv_iconst (v := 0) hx hb dX1_readWrap_80 (by decide) ?_
                    exact W.zret (v := 0) hx hb hr rfl (fun t ht hW => ⟨⟨0, (V100, L101), rfl, ⟨hMV100, agV100, alL101, (by decide), (Or.inr ⟨rfl, hb347⟩)⟩, by rw [ht]; exact hP, va_K.moved hW.alike hK, hD⟩, hS.F ht⟩) hS.2.2 dX1_readWrap_81
                · skip
                  have hb351 : ∀ k, Rc gT (Crun gs (Istmt :: k)) (Cbad (V100 1 3).toInt) := fun k => Rc.go1 (hr88 k) ((nm_4 (rl84.tok.1.trans h104) (by omega)).trans (fl_eq rl84.tok.2.2 k107))
                  refine lv_if_ne (tgt := 82) hx hb dX1_readWrap_77 (by decide) (fun c352 => ?_) (fun c352 => ?_)
                  · skip
                    have f353 : z94.toInt ≠ 0 := b_neq rfl (by decide) c352
                    exfalso; first | omega | ((try (have i_t98 := Imp.go t98 (by omega))); (try (have i_t97 := Imp.go t97 (by omega))); (try (have i_t61 := Imp.go t61 (by omega))); (try (have i_t61 := Imp.go t61 (by omega))); (try (have i_t97 := Imp.go t97 (by omega))); (try (have i_t98 := Imp.go t98 (by omega))); omega)
                  · skip
                    have f354 : z94.toInt = 0 := b_eq rfl (by decide) c352
                    refine lv_iconst (v := 0) hx hb dX1_readWrap_80 (by decide) ?_
                    exact W.zret (v := 0) hx hb hr rfl (fun t ht hW => ⟨⟨0, (V100, L101), rfl, ⟨hMV100, agV100, alL101, (by decide), (Or.inr ⟨rfl, hb351⟩)⟩, by rw [ht]; exact hP, va_K.moved hW.alike hK, hD⟩, hS.F ht⟩) hS.2.2 dX1_readWrap_81
              · skip
                have f355 : z75.toInt = 0 := b_eq rfl (by decide) c89
                exfalso; first | omega | ((try (have i_t61 := Imp.go t61 (by omega))); omega)
            · skip
              have hb356 : ∀ k, Rc gT (Crun gs (Istmt :: k)) (Cbad (V79 1 3).toInt) := fun k => Rc.go1 (hr70 k) (wm_b h83)
              refine lv_if_ne (tgt := 65) hx hb dX1_readWrap_60 (by decide) (fun c357 => ?_) (fun c357 => ?_)
              · skip
                have f358 : z75.toInt ≠ 0 := b_neq rfl (by decide) c357
                exfalso; first | omega | ((try (have i_t61 := Imp.go t61 (by omega))); omega)
              · skip
                have f359 : z75.toInt = 0 := b_eq rfl (by decide) c357
                refine lv_iconst (v := 0) hx hb dX1_readWrap_63 (by decide) ?_
                exact W.zret (v := 0) hx hb hr rfl (fun t ht hW => ⟨⟨0, (V79, L80), rfl, ⟨hMV79, agV79, alL80, (by decide), (Or.inr ⟨rfl, hb356⟩)⟩, by rw [ht]; exact hP, va_K.moved hW.alike hK, hD⟩, hS.F ht⟩) hS.2.2 dX1_readWrap_64
        · skip
          have hb360 : ∀ k, Rc gT (Crun gs (Istmt :: k)) (Cbad (V63 1 3).toInt) := fun k => Rc.go1 (hr41 k) ((tk_n (fun h9 => h66 (rl56.tok.1.symm.trans (h9.trans (by decide))))).trans (fl_eq rl56.tok.2.2 k67))
          refine lv_if_eq (tgt := 63) hx hb dX1_readWrap_52 (by decide) (fun c361 => ?_) (fun c361 => ?_)
          · skip
            have f362 : z58.toInt = 0 := b_eq rfl (by decide) c361
            refine lv_iconst (v := 0) hx hb dX1_readWrap_63 (by decide) ?_
            exact W.zret (v := 0) hx hb hr rfl (fun t ht hW => ⟨⟨0, (V63, L64), rfl, ⟨hMV63, agV63, alL64, (by decide), (Or.inr ⟨rfl, hb360⟩)⟩, by rw [ht]; exact hP, va_K.moved hW.alike hK, hD⟩, hS.F ht⟩) hS.2.2 dX1_readWrap_64
          · skip
            have f363 : z58.toInt ≠ 0 := b_neq rfl (by decide) c361
            exfalso; first | omega | ((try (have i_t61 := Imp.go t61 (by omega))); omega)
      · skip
        have f364 : z24.toInt = 0 := b_eq rfl (by decide) c38
        exfalso; omega
    · skip
      have hb365 : ∀ k, Rc gT (Crun gs (Istmt :: k)) (Cbad (V28 1 3).toInt) := fun k => Rc.go1 (hr8 k) (wt_b h32)
      refine lv_if_ne (tgt := 34) hx hb dX1_readWrap_29 (by decide) (fun c366 => ?_) (fun c366 => ?_)
      · skip
        have f367 : z24.toInt ≠ 0 := b_neq rfl (by decide) c366
        exfalso; omega
      · skip
        have f368 : z24.toInt = 0 := b_eq rfl (by decide) c366
        refine lv_iconst (v := 0) hx hb dX1_readWrap_32 (by decide) ?_
        exact W.zret (v := 0) hx hb hr rfl (fun t ht hW => ⟨⟨0, (V28, L19), rfl, ⟨hMV28, agV28, alL19, (by decide), (Or.inr ⟨rfl, hb365⟩)⟩, by rw [ht]; exact hP, va_K.moved hW.alike hK, hD⟩, hS.F ht⟩) hS.2.2 dX1_readWrap_33
  · skip
    have f369 : 12 ≤ ((V 41 b)).toInt := b_nlt rfl (by decide) c4
    refine lv_aload_n hx hb dX1_readWrap_12 rfl (lv_at hl 0 rfl) ?_
    refine lv_iconst (v := 5) hx hb dX1_readWrap_13 (by decide) ?_
    have kd370 : gT.1 (gs.1 0) = ((V 6 9)).toInt := RelC.kd rel
    have r371 : Int32.toInt 5 = 5 := by decide
    refine gA_int (gA_runV (As := [.int 5]) (rest := []) (ci := 1) (q0 := 1) hx hb hml hown hg hP hD hK hS hA hnw hgk (x_wrong2 l D ks H.size ad kk V L Z 5 hMV (by decide)) w867 w869 w6 w162 w870 rfl xgReader hdV_yX1_wrong ⟨Nat.le_of_ble_eq_true rfl, Nat.le_of_ble_eq_true rfl⟩ rfl hl.1 rfl (Nat.le_of_ble_eq_true rfl) dX1_readWrap_14 ⟨Nat.le_of_ble_eq_true rfl, Nat.le_of_ble_eq_true rfl⟩) hP hD hK hS hA (fun z372 u373 H locs w374 hP hD hK hS => ?_)
    obtain ⟨V377, L378⟩ := u373
    obtain ⟨hMV377, ajV377, axL378, rgz372, t375, t376⟩ := w374
    have axL378 : L = L378 := Eq.symm axL378
    subst axL378
    have hP : va_P D vwCl (xw ad kk V377 L Z) H := hP
    have hD : va_D A (xw ad kk V377 L Z) := hD
    have hMV377 : rgd bX V377 := hMV377
    have ajV377 : agr [(1, 3)] [] V V377 := ajV377
    have agV377 : agr [(1, 3), (1, 4), (1, 6), (1, 8), (6, 8), (6, 9), (6, 10)] [41, 42, 43, 44, 47, 48, 62, 63, 64, 65, 66] V V377 := agV.tr ajV377 (by decide) (by decide)
    have rgz372 : 0 ≤ z372.toInt ∧ z372.toInt ≤ 0 := rgz372
    have t375 : 1 ≤ (V377 1 3).toInt := t375
    have t376 : (V377 1 3).toInt = (Int32.toInt 5) + 16 * (V 6 10).toInt := t376
    have r379 : 0 ≤ ((V 6 10)).toInt ∧ ((V 6 10)).toInt ≤ 4000 := hMV 6 10
    have hr380 : ∀ k, Rc gT (Crun gs (Istmt :: k)) (Crun gs (Istmt :: k)) := fun k => Rc.rf
    have hb381 : ∀ k, Rc gT (Crun gs (Istmt :: k)) (Cbad (V377 1 3).toInt) := fun k => Rc.go1 (hr380 k) ((st_136f (kd370.trans kd9) (by omega)).trans (fl_eq (RelC.st rel) (show (V377 1 3).toInt = 5 + 16 * (V 6 10).toInt from by omega)))
    exact W.zret (v := z372) hx hb hr (nb_ok (by omega)) (fun t ht hW => ⟨⟨z372, (V377, L), rfl, ⟨hMV377, agV377, alL, (show 0 ≤ z372.toInt ∧ z372.toInt ≤ 1 from by omega), (Or.inr ⟨(by omega), hb381⟩)⟩, by rw [ht]; exact hP, va_K.moved hW.alike hK, hD⟩, hS.F ht⟩) hS.2.2 dX1_readWrap_17
abbrev r_x_readStatement3 : Room := { frames := 92, cells := 0, slots := 0, locals := 2708 }
abbrev q_x_readStatement3 (D : va_G) (ks : KS) (ad : Nat → Nat) (kk : Nat → ClassId) (V : Vf) (L : Lf) (Z : XZ) (b : Nat) (gT : Tk) (gs : St) (A : Nat → Prop) : Array Value → State → Outcome → State → Prop := va_Qi (fun (r : Int32) (u : Vf × Lf) => rgd bX u.1 ∧ agr [(1, 2), (1, 3), (1, 4), (1, 6), (1, 7), (1, 8), (6, 8), (6, 9), (6, 10)] [41, 42, 43, 44, 45, 46, 47, 48, 49, 50, 51, 52, 53, 54, 55, 56, 57, 61, 62, 63, 64, 65, 66] V u.1 ∧ agL [1, 6, 44] L u.2 ∧ (0 ≤ r.toInt ∧ r.toInt ≤ 1) ∧ (Imp (r.toInt = 1) ((u.1 1 2).toInt = -1 ∨ (24 * (b : Int) ≤ (u.1 1 2).toInt ∧ (u.1 1 2).toInt < 24 * (b : Int) + 24))) ∧ (Rd gT gs (fun k => Istmt :: k) (fun k => nxI (u.1 1 2) k) r.toInt (u.1 1 3).toInt (fun s9 => RelC u.1 u.2 b gT s9 ∧ gs.1 0 + 1 ≤ s9.1 0))) (fun u t => gq D A (xw ad kk u.1 u.2 Z) (xty kk Z) t) A
set_option maxHeartbeats 4000000 in
set_option maxRecDepth 100000 in
theorem x_readStatement3 (l : Launch) (D : va_G) (ks : KS) (sz : Nat) (ad : Nat → Nat) (kk : Nat → ClassId) (V : Vf) (L : Lf) (Z : XZ) (b : Nat) (gT : Tk) (gs : St) (hMV : rgd bX V) (hb2 : b < 2) (rbk : (V 1 1).toInt = (b : Int)) (own : (V 1 2).toInt = -1) (rel : RelC V L b gT gs) (kn0 : (V 6 9).toInt ≠ 0)  : Met l yX1_readStatement (Cond.code yX1_readStatement cX1_readStatement 1 (some .boolean) :: GW) r_x_readStatement3 (va_Pc [.ref (ad 1)] (gp D ks (xw ad kk V L Z) (xty kk Z) sz)) (q_x_readStatement3 D ks ad kk V L Z  b gT gs (va_A (xw ad kk V L Z) sz)) 0 0 (va_A (xw ad kk V L Z) sz) := by
  refine g_met (q_x_readStatement3 D ks ad kk V L Z  b gT gs) (by decide) (Nat.le_of_ble_eq_true rfl) ?_
  intro p e s m below meth c A ls H locs hx hb hr hml hown hg hlocks hin hnw hgk hP hK hD hS hA hl
  have hown : s.vm.findClass RX1 = some m.cls := hown
  have hl : lv_has ls 1 [(0, .ref (ad 1))] := hl
  have hP : va_P D vwCl (xw ad kk V L Z) H := hP
  have hD : va_D A (xw ad kk V L Z) := hD
  have hK : va_K D vwCl (xty kk Z) s := hK
  have agV : agr [(1, 2), (1, 3), (1, 4), (1, 6), (1, 7), (1, 8), (6, 8), (6, 9), (6, 10)] [41, 42, 43, 44, 45, 46, 47, 48, 49, 50, 51, 52, 53, 54, 55, 56, 57, 61, 62, 63, 64, 65, 66] V V := agr.rf
  have alL : agL [1, 6, 44] L L := agL.rf
  have r1 : (-1) ≤ ((V 1 1)).toInt ∧ ((V 1 1)).toInt ≤ 1 := hMV 1 1
  have r2 : (-1) ≤ ((V 1 2)).toInt ∧ ((V 1 2)).toInt ≤ 47 := hMV 1 2
  refine lv_aload_n hx hb dX1_readStatement_0 rfl (lv_at hl 0 rfl) ?_
  refine va_get (D := D) (ci := 1) (v := .ref (ad 6)) (fs := (xfReader ad V L Z)) (C := RX1) (T := TX1) (N := 9) hx hb hg inX1 hown hK hP 1 xgReader rfl 0 (by decide) (hg _ w304) (fun _ h9 => h9) rfl dX1_readStatement_1 ?_
  refine va_getN (D := D) (ci := 9) (v := .int (V 6 9)) (fs := (xfTape ad V L Z)) (C := RX9) (T := TX9) (N := 12) hx hb hg inX9 hown hK hP 6 xgTape rfl 9 (by decide) (hnw.use 262 n262 rfl) (fun _ h9 => h9) rfl dX1_readStatement_4 ?_
  by_cases q3 : (V 6 9) = 128
  · refine g_top (v := 128) q3 ?_
    have fq3 : ((V 6 9)).toInt = 128 := b_eq rfl (by decide) q3
    refine lv_tableIn (x := 128) (off := 49) (tgt := 56) hx hb dX1_readStatement_7 (by decide) (by decide) (by decide) (by decide) ?_
    refine lv_aload_n hx hb dX1_readStatement_56 rfl (lv_at hl 0 rfl) ?_
    have hr4 : ∀ k, Rc gT (Crun gs (Istmt :: k)) (Crun gs (Istmt :: k)) := fun k => Rc.rf
    refine gA_int (gA_runV (As := []) (rest := []) (ci := 1) (q0 := 1) hx hb hml hown hg hP hD hK hS hA hnw hgk (x_readType3 l D ks H.size ad kk V L Z (b) (gT) (gs) hMV (show b < 2 from by omega) (show (V 1 1).toInt = (b : Int) from by omega) (show (V 1 2).toInt = -1 from by omega) rel (show (V 6 9).toInt = 128 from by omega)) w859 w861 w5 w162 w862 rfl xgReader hdV_yX1_readType ⟨Nat.le_of_ble_eq_true rfl, Nat.le_of_ble_eq_true rfl⟩ rfl hl.1 rfl (Nat.le_of_ble_eq_true rfl) dX1_readStatement_57 ⟨Nat.le_of_ble_eq_true rfl, Nat.le_of_ble_eq_true rfl⟩) hP hD hK hS hA (fun z5 u6 H locs w7 hP hD hK hS => ?_)
    obtain ⟨V9, L10⟩ := u6
    obtain ⟨hMV9, ajV9, axL10, rgz5, t8⟩ := w7
    have alL10 : agL [1, 6, 44] L L10 := agL.tr alL axL10 (by decide)
    have hP : va_P D vwCl (xw ad kk V9 L10 Z) H := hP
    have hD : va_D A (xw ad kk V9 L10 Z) := hD
    have hMV9 : rgd bX V9 := hMV9
    have ajV9 : agr [(1, 3), (1, 6), (1, 7), (6, 8), (6, 9), (6, 10)] [43, 44, 45] V V9 := ajV9
    have agV9 : agr [(1, 2), (1, 3), (1, 4), (1, 6), (1, 7), (1, 8), (6, 8), (6, 9), (6, 10)] [41, 42, 43, 44, 45, 46, 47, 48, 49, 50, 51, 52, 53, 54, 55, 56, 57, 61, 62, 63, 64, 65, 66] V V9 := agV.tr ajV9 (by decide) (by decide)
    have rgz5 : 0 ≤ z5.toInt ∧ z5.toInt ≤ 1 := rgz5
    have t8 : Rd gT gs (fun k => Istmt :: k) (fun k => Istmt :: k) z5.toInt (V9 1 3).toInt (fun s9 => RelC V9 L10 b gT s9 ∧ gs.1 0 + 1 ≤ s9.1 0) := t8
    rcases t8 with ⟨q11, sx12, h13, rl14, kp15⟩ | ⟨q11, h13⟩
    · skip
      have hr16 : ∀ k, Rc gT (Crun gs (Istmt :: k)) (Crun sx12 (Istmt :: k)) := fun k => (hr4 k).tr (h13 k)
      have pq17 : (V9 1 2).toInt = ((V 1 2)).toInt := congrArg Int32.toInt (ajV9 1 2 rfl)
      have ps18 : gs.1 0 + 1 ≤ sx12.1 0 := kp15
      exact W.zret (v := z5) hx hb hr (nb_ok (by omega)) (fun t ht hW => ⟨⟨z5, (V9, L10), rfl, ⟨hMV9, agV9, alL10, (show 0 ≤ z5.toInt ∧ z5.toInt ≤ 1 from by omega), (Imp.mk (fun hp => have hp : z5.toInt = 1 := hp; (show (V9 1 2).toInt = -1 ∨ (24 * (b : Int) ≤ (V9 1 2).toInt ∧ (V9 1 2).toInt < 24 * (b : Int) + 24) from by omega))), (Or.inl ⟨(by omega), sx12, (fun k => show Rc gT (Crun gs (Istmt :: k)) (Crun sx12 (nxI (V9 1 2) k)) from by rw [nxI_s (show (V9 1 2).toInt < 0 from by omega)]; exact hr16 k), rl14, (by omega)⟩)⟩, by rw [ht]; exact hP, va_K.moved hW.alike hK, hD⟩, hS.F ht⟩) hS.2.2 dX1_readStatement_60
    · skip
      have hb19 : ∀ k, Rc gT (Crun gs (Istmt :: k)) (Cbad (V9 1 3).toInt) := fun k => (hr4 k).tr (h13 k)
      have pq20 : (V9 1 2).toInt = ((V 1 2)).toInt := congrArg Int32.toInt (ajV9 1 2 rfl)
      exact W.zret (v := z5) hx hb hr (nb_ok (by omega)) (fun t ht hW => ⟨⟨z5, (V9, L10), rfl, ⟨hMV9, agV9, alL10, (show 0 ≤ z5.toInt ∧ z5.toInt ≤ 1 from by omega), (Imp.mk (fun hp => have hp : z5.toInt = 1 := hp; (show (V9 1 2).toInt = -1 ∨ (24 * (b : Int) ≤ (V9 1 2).toInt ∧ (V9 1 2).toInt < 24 * (b : Int) + 24) from by omega))), (Or.inr ⟨(by omega), hb19⟩)⟩, by rw [ht]; exact hP, va_K.moved hW.alike hK, hD⟩, hS.F ht⟩) hS.2.2 dX1_readStatement_60
  have gq3 : ((V 6 9)).toInt ≠ 128 := b_neq rfl (by decide) q3
  by_cases q21 : (V 6 9) = 129
  · refine g_top (v := 129) q21 ?_
    have fq21 : ((V 6 9)).toInt = 129 := b_eq rfl (by decide) q21
    refine lv_tableIn (x := 129) (off := 69) (tgt := 76) hx hb dX1_readStatement_7 (by decide) (by decide) (by decide) (by decide) ?_
    refine lv_aload_n hx hb dX1_readStatement_76 rfl (lv_at hl 0 rfl) ?_
    refine lv_iconst (v := 1) hx hb dX1_readStatement_77 (by decide) ?_
    have kd22 : gT.1 (gs.1 0) = ((V 6 9)).toInt := RelC.kd rel
    have r23 : Int32.toInt 1 = 1 := by decide
    refine gA_int (gA_runV (As := [.int 1]) (rest := []) (ci := 1) (q0 := 1) hx hb hml hown hg hP hD hK hS hA hnw hgk (x_wrong2 l D ks H.size ad kk V L Z 1 hMV (by decide)) w867 w869 w6 w162 w870 rfl xgReader hdV_yX1_wrong ⟨Nat.le_of_ble_eq_true rfl, Nat.le_of_ble_eq_true rfl⟩ rfl hl.1 rfl (Nat.le_of_ble_eq_true rfl) dX1_readStatement_78 ⟨Nat.le_of_ble_eq_true rfl, Nat.le_of_ble_eq_true rfl⟩) hP hD hK hS hA (fun z24 u25 H locs w26 hP hD hK hS => ?_)
    obtain ⟨V29, L30⟩ := u25
    obtain ⟨hMV29, ajV29, axL30, rgz24, t27, t28⟩ := w26
    have axL30 : L = L30 := Eq.symm axL30
    subst axL30
    have hP : va_P D vwCl (xw ad kk V29 L Z) H := hP
    have hD : va_D A (xw ad kk V29 L Z) := hD
    have hMV29 : rgd bX V29 := hMV29
    have ajV29 : agr [(1, 3)] [] V V29 := ajV29
    have agV29 : agr [(1, 2), (1, 3), (1, 4), (1, 6), (1, 7), (1, 8), (6, 8), (6, 9), (6, 10)] [41, 42, 43, 44, 45, 46, 47, 48, 49, 50, 51, 52, 53, 54, 55, 56, 57, 61, 62, 63, 64, 65, 66] V V29 := agV.tr ajV29 (by decide) (by decide)
    have rgz24 : 0 ≤ z24.toInt ∧ z24.toInt ≤ 0 := rgz24
    have t27 : 1 ≤ (V29 1 3).toInt := t27
    have t28 : (V29 1 3).toInt = (Int32.toInt 1) + 16 * (V 6 10).toInt := t28
    have r31 : 0 ≤ ((V 6 10)).toInt ∧ ((V 6 10)).toInt ≤ 4000 := hMV 6 10
    have hr32 : ∀ k, Rc gT (Crun gs (Istmt :: k)) (Crun gs (Istmt :: k)) := fun k => Rc.rf
    have hb33 : ∀ k, Rc gT (Crun gs (Istmt :: k)) (Cbad (V29 1 3).toInt) := fun k => Rc.go1 (hr32 k) ((st_x (fun h9 => absurd (h9.symm.trans (kd22.trans fq21)) (by decide)) (fun h9 => absurd (h9.symm.trans (kd22.trans fq21)) (by decide)) (fun h9 => absurd (h9.symm.trans (kd22.trans fq21)) (by decide)) (fun h9 => absurd (h9.symm.trans (kd22.trans fq21)) (by decide)) (fun h9 => absurd (h9.symm.trans (kd22.trans fq21)) (by decide))).trans (fl_eq (RelC.st rel) (show (V29 1 3).toInt = 1 + 16 * (V 6 10).toInt from by omega)))
    have pq34 : (V29 1 2).toInt = ((V 1 2)).toInt := congrArg Int32.toInt (ajV29 1 2 rfl)
    exact W.zret (v := z24) hx hb hr (nb_ok (by omega)) (fun t ht hW => ⟨⟨z24, (V29, L), rfl, ⟨hMV29, agV29, alL, (show 0 ≤ z24.toInt ∧ z24.toInt ≤ 1 from by omega), (Imp.mk (fun hp => have hp : z24.toInt = 1 := hp; (show (V29 1 2).toInt = -1 ∨ (24 * (b : Int) ≤ (V29 1 2).toInt ∧ (V29 1 2).toInt < 24 * (b : Int) + 24) from by omega))), (Or.inr ⟨(by omega), hb33⟩)⟩, by rw [ht]; exact hP, va_K.moved hW.alike hK, hD⟩, hS.F ht⟩) hS.2.2 dX1_readStatement_81
  have gq21 : ((V 6 9)).toInt ≠ 129 := b_neq rfl (by decide) q21
  by_cases q35 : (V 6 9) = 130
  · refine g_top (v := 130) q35 ?_
    have fq35 : ((V 6 9)).toInt = 130 := b_eq rfl (by decide) q35
    refine lv_tableIn (x := 130) (off := 54) (tgt := 61) hx hb dX1_readStatement_7 (by decide) (by decide) (by decide) (by decide) ?_
    refine lv_aload_n hx hb dX1_readStatement_61 rfl (lv_at hl 0 rfl) ?_
    have hr36 : ∀ k, Rc gT (Crun gs (Istmt :: k)) (Crun gs (Istmt :: k)) := fun k => Rc.rf
    refine gA_int (gA_runV (As := []) (rest := []) (ci := 1) (q0 := 1) hx hb hml hown hg hP hD hK hS hA hnw hgk (x_readSetting3 l D ks H.size ad kk V L Z (b) (gT) (gs) hMV (show b < 2 from by omega) (show (V 1 1).toInt = (b : Int) from by omega) (show (V 1 2).toInt = -1 from by omega) rel (show (V 6 9).toInt = 130 from by omega)) w901 w903 w11 w162 w904 rfl xgReader hdV_yX1_readSetting ⟨Nat.le_of_ble_eq_true rfl, Nat.le_of_ble_eq_true rfl⟩ rfl hl.1 rfl (Nat.le_of_ble_eq_true rfl) dX1_readStatement_62 ⟨Nat.le_of_ble_eq_true rfl, Nat.le_of_ble_eq_true rfl⟩) hP hD hK hS hA (fun z37 u38 H locs w39 hP hD hK hS => ?_)
    obtain ⟨V41, L42⟩ := u38
    obtain ⟨hMV41, ajV41, axL42, rgz37, t40⟩ := w39
    have alL42 : agL [1, 6, 44] L L42 := agL.tr alL axL42 (by decide)
    have hP : va_P D vwCl (xw ad kk V41 L42 Z) H := hP
    have hD : va_D A (xw ad kk V41 L42 Z) := hD
    have hMV41 : rgd bX V41 := hMV41
    have ajV41 : agr [(1, 3), (1, 8), (6, 8), (6, 9), (6, 10)] [43, 44, 46] V V41 := ajV41
    have agV41 : agr [(1, 2), (1, 3), (1, 4), (1, 6), (1, 7), (1, 8), (6, 8), (6, 9), (6, 10)] [41, 42, 43, 44, 45, 46, 47, 48, 49, 50, 51, 52, 53, 54, 55, 56, 57, 61, 62, 63, 64, 65, 66] V V41 := agV.tr ajV41 (by decide) (by decide)
    have rgz37 : 0 ≤ z37.toInt ∧ z37.toInt ≤ 1 := rgz37
    have t40 : Rd gT gs (fun k => Istmt :: k) (fun k => Istmt :: k) z37.toInt (V41 1 3).toInt (fun s9 => RelC V41 L42 b gT s9 ∧ gs.1 0 + 1 ≤ s9.1 0) := t40
    rcases t40 with ⟨q43, sx44, h45, rl46, kp47⟩ | ⟨q43, h45⟩
    · skip
      have hr48 : ∀ k, Rc gT (Crun gs (Istmt :: k)) (Crun sx44 (Istmt :: k)) := fun k => (hr36 k).tr (h45 k)
      have pq49 : (V41 1 2).toInt = ((V 1 2)).toInt := congrArg Int32.toInt (ajV41 1 2 rfl)
      have ps50 : gs.1 0 + 1 ≤ sx44.1 0 := kp47
      exact W.zret (v := z37) hx hb hr (nb_ok (by omega)) (fun t ht hW => ⟨⟨z37, (V41, L42), rfl, ⟨hMV41, agV41, alL42, (show 0 ≤ z37.toInt ∧ z37.toInt ≤ 1 from by omega), (Imp.mk (fun hp => have hp : z37.toInt = 1 := hp; (show (V41 1 2).toInt = -1 ∨ (24 * (b : Int) ≤ (V41 1 2).toInt ∧ (V41 1 2).toInt < 24 * (b : Int) + 24) from by omega))), (Or.inl ⟨(by omega), sx44, (fun k => show Rc gT (Crun gs (Istmt :: k)) (Crun sx44 (nxI (V41 1 2) k)) from by rw [nxI_s (show (V41 1 2).toInt < 0 from by omega)]; exact hr48 k), rl46, (by omega)⟩)⟩, by rw [ht]; exact hP, va_K.moved hW.alike hK, hD⟩, hS.F ht⟩) hS.2.2 dX1_readStatement_65
    · skip
      have hb51 : ∀ k, Rc gT (Crun gs (Istmt :: k)) (Cbad (V41 1 3).toInt) := fun k => (hr36 k).tr (h45 k)
      have pq52 : (V41 1 2).toInt = ((V 1 2)).toInt := congrArg Int32.toInt (ajV41 1 2 rfl)
      exact W.zret (v := z37) hx hb hr (nb_ok (by omega)) (fun t ht hW => ⟨⟨z37, (V41, L42), rfl, ⟨hMV41, agV41, alL42, (show 0 ≤ z37.toInt ∧ z37.toInt ≤ 1 from by omega), (Imp.mk (fun hp => have hp : z37.toInt = 1 := hp; (show (V41 1 2).toInt = -1 ∨ (24 * (b : Int) ≤ (V41 1 2).toInt ∧ (V41 1 2).toInt < 24 * (b : Int) + 24) from by omega))), (Or.inr ⟨(by omega), hb51⟩)⟩, by rw [ht]; exact hP, va_K.moved hW.alike hK, hD⟩, hS.F ht⟩) hS.2.2 dX1_readStatement_65
  have gq35 : ((V 6 9)).toInt ≠ 130 := b_neq rfl (by decide) q35
  by_cases q53 : (V 6 9) = 131
  · refine g_top (v := 131) q53 ?_
    have fq53 : ((V 6 9)).toInt = 131 := b_eq rfl (by decide) q53
    refine lv_tableIn (x := 131) (off := 59) (tgt := 66) hx hb dX1_readStatement_7 (by decide) (by decide) (by decide) (by decide) ?_
    refine lv_aload_n hx hb dX1_readStatement_66 rfl (lv_at hl 0 rfl) ?_
    have hr54 : ∀ k, Rc gT (Crun gs (Istmt :: k)) (Crun gs (Istmt :: k)) := fun k => Rc.rf
    refine gA_int (gA_runV (As := []) (rest := []) (ci := 1) (q0 := 1) hx hb hml hown hg hP hD hK hS hA hnw hgk (x_readComponent3 l D ks H.size ad kk V L Z (b) (gT) (gs) hMV (show b < 2 from by omega) (show (V 1 1).toInt = (b : Int) from by omega) (show (V 1 2).toInt = -1 from by omega) rel (show (V 6 9).toInt = 131 from by omega)) w910 w912 w13 w162 w913 rfl xgReader hdV_yX1_readComponent ⟨Nat.le_of_ble_eq_true rfl, Nat.le_of_ble_eq_true rfl⟩ rfl hl.1 rfl (Nat.le_of_ble_eq_true rfl) dX1_readStatement_67 ⟨Nat.le_of_ble_eq_true rfl, Nat.le_of_ble_eq_true rfl⟩) hP hD hK hS hA (fun z55 u56 H locs w57 hP hD hK hS => ?_)
    obtain ⟨V60, L61⟩ := u56
    obtain ⟨hMV60, ajV60, axL61, rgz55, t58, t59⟩ := w57
    have alL61 : agL [1, 6, 44] L L61 := agL.tr alL axL61 (by decide)
    have hP : va_P D vwCl (xw ad kk V60 L61 Z) H := hP
    have hD : va_D A (xw ad kk V60 L61 Z) := hD
    have hMV60 : rgd bX V60 := hMV60
    have ajV60 : agr [(1, 2), (1, 3), (1, 6), (1, 7), (1, 8), (6, 8), (6, 9), (6, 10)] [43, 44, 49, 50, 51, 52, 53, 54, 55, 56, 57, 61] V V60 := ajV60
    have agV60 : agr [(1, 2), (1, 3), (1, 4), (1, 6), (1, 7), (1, 8), (6, 8), (6, 9), (6, 10)] [41, 42, 43, 44, 45, 46, 47, 48, 49, 50, 51, 52, 53, 54, 55, 56, 57, 61, 62, 63, 64, 65, 66] V V60 := agV.tr ajV60 (by decide) (by decide)
    have rgz55 : 0 ≤ z55.toInt ∧ z55.toInt ≤ 1 := rgz55
    have t58 : Imp (z55.toInt = 1) (24 * (b : Int) ≤ (V60 1 2).toInt ∧ (V60 1 2).toInt < 24 * (b : Int) + 24) := t58
    have t59 : Rd gT gs (fun k => Istmt :: k) (fun k => Imember :: k) z55.toInt (V60 1 3).toInt (fun s9 => RelC V60 L61 b gT s9 ∧ gs.1 0 + 1 ≤ s9.1 0) := t59
    have r62 : (-1) ≤ ((V60 1 2)).toInt ∧ ((V60 1 2)).toInt ≤ 47 := hMV60 1 2
    rcases t59 with ⟨q63, sx64, h65, rl66, kp67⟩ | ⟨q63, h65⟩
    · skip
      have hr68 : ∀ k, Rc gT (Crun gs (Istmt :: k)) (Crun sx64 (Imember :: k)) := fun k => (hr54 k).tr (h65 k)
      have ps69 : gs.1 0 + 1 ≤ sx64.1 0 := kp67
      exact W.zret (v := z55) hx hb hr (nb_ok (by omega)) (fun t ht hW => ⟨⟨z55, (V60, L61), rfl, ⟨hMV60, agV60, alL61, (show 0 ≤ z55.toInt ∧ z55.toInt ≤ 1 from by first | omega | ((try (have i_t58 := Imp.go t58 (by omega))); omega)), (Imp.mk (fun hp => have hp : z55.toInt = 1 := hp; (show (V60 1 2).toInt = -1 ∨ (24 * (b : Int) ≤ (V60 1 2).toInt ∧ (V60 1 2).toInt < 24 * (b : Int) + 24) from by first | omega | ((try (have i_t58 := Imp.go t58 (by omega))); omega)))), (Or.inl ⟨(by omega), sx64, (fun k => show Rc gT (Crun gs (Istmt :: k)) (Crun sx64 (nxI (V60 1 2) k)) from by rw [nxI_m (show 0 ≤ (V60 1 2).toInt from by first | omega | ((try (have i_t58 := Imp.go t58 (by omega))); omega))]; exact hr68 k), rl66, (by omega)⟩)⟩, by rw [ht]; exact hP, va_K.moved hW.alike hK, hD⟩, hS.F ht⟩) hS.2.2 dX1_readStatement_70
    · skip
      have hb70 : ∀ k, Rc gT (Crun gs (Istmt :: k)) (Cbad (V60 1 3).toInt) := fun k => (hr54 k).tr (h65 k)
      exact W.zret (v := z55) hx hb hr (nb_ok (by omega)) (fun t ht hW => ⟨⟨z55, (V60, L61), rfl, ⟨hMV60, agV60, alL61, (show 0 ≤ z55.toInt ∧ z55.toInt ≤ 1 from by first | omega | ((try (have i_t58 := Imp.go t58 (by omega))); omega)), (Imp.mk (fun hp => have hp : z55.toInt = 1 := hp; (show (V60 1 2).toInt = -1 ∨ (24 * (b : Int) ≤ (V60 1 2).toInt ∧ (V60 1 2).toInt < 24 * (b : Int) + 24) from by first | omega | ((try (have i_t58 := Imp.go t58 (by omega))); omega)))), (Or.inr ⟨(by omega), hb70⟩)⟩, by rw [ht]; exact hP, va_K.moved hW.alike hK, hD⟩, hS.F ht⟩) hS.2.2 dX1_readStatement_70
  have gq53 : ((V 6 9)).toInt ≠ 131 := b_neq rfl (by decide) q53
  by_cases q71 : (V 6 9) = 132
  · refine g_top (v := 132) q71 ?_
    have fq71 : ((V 6 9)).toInt = 132 := b_eq rfl (by decide) q71
    refine lv_tableIn (x := 132) (off := 69) (tgt := 76) hx hb dX1_readStatement_7 (by decide) (by decide) (by decide) (by decide) ?_
    refine lv_aload_n hx hb dX1_readStatement_76 rfl (lv_at hl 0 rfl) ?_
    refine lv_iconst (v := 1) hx hb dX1_readStatement_77 (by decide) ?_
    have kd72 : gT.1 (gs.1 0) = ((V 6 9)).toInt := RelC.kd rel
    have r73 : Int32.toInt 1 = 1 := by decide
    refine gA_int (gA_runV (As := [.int 1]) (rest := []) (ci := 1) (q0 := 1) hx hb hml hown hg hP hD hK hS hA hnw hgk (x_wrong2 l D ks H.size ad kk V L Z 1 hMV (by decide)) w867 w869 w6 w162 w870 rfl xgReader hdV_yX1_wrong ⟨Nat.le_of_ble_eq_true rfl, Nat.le_of_ble_eq_true rfl⟩ rfl hl.1 rfl (Nat.le_of_ble_eq_true rfl) dX1_readStatement_78 ⟨Nat.le_of_ble_eq_true rfl, Nat.le_of_ble_eq_true rfl⟩) hP hD hK hS hA (fun z74 u75 H locs w76 hP hD hK hS => ?_)
    obtain ⟨V79, L80⟩ := u75
    obtain ⟨hMV79, ajV79, axL80, rgz74, t77, t78⟩ := w76
    have axL80 : L = L80 := Eq.symm axL80
    subst axL80
    have hP : va_P D vwCl (xw ad kk V79 L Z) H := hP
    have hD : va_D A (xw ad kk V79 L Z) := hD
    have hMV79 : rgd bX V79 := hMV79
    have ajV79 : agr [(1, 3)] [] V V79 := ajV79
    have agV79 : agr [(1, 2), (1, 3), (1, 4), (1, 6), (1, 7), (1, 8), (6, 8), (6, 9), (6, 10)] [41, 42, 43, 44, 45, 46, 47, 48, 49, 50, 51, 52, 53, 54, 55, 56, 57, 61, 62, 63, 64, 65, 66] V V79 := agV.tr ajV79 (by decide) (by decide)
    have rgz74 : 0 ≤ z74.toInt ∧ z74.toInt ≤ 0 := rgz74
    have t77 : 1 ≤ (V79 1 3).toInt := t77
    have t78 : (V79 1 3).toInt = (Int32.toInt 1) + 16 * (V 6 10).toInt := t78
    have r81 : 0 ≤ ((V 6 10)).toInt ∧ ((V 6 10)).toInt ≤ 4000 := hMV 6 10
    have hr82 : ∀ k, Rc gT (Crun gs (Istmt :: k)) (Crun gs (Istmt :: k)) := fun k => Rc.rf
    have hb83 : ∀ k, Rc gT (Crun gs (Istmt :: k)) (Cbad (V79 1 3).toInt) := fun k => Rc.go1 (hr82 k) ((st_x (fun h9 => absurd (h9.symm.trans (kd72.trans fq71)) (by decide)) (fun h9 => absurd (h9.symm.trans (kd72.trans fq71)) (by decide)) (fun h9 => absurd (h9.symm.trans (kd72.trans fq71)) (by decide)) (fun h9 => absurd (h9.symm.trans (kd72.trans fq71)) (by decide)) (fun h9 => absurd (h9.symm.trans (kd72.trans fq71)) (by decide))).trans (fl_eq (RelC.st rel) (show (V79 1 3).toInt = 1 + 16 * (V 6 10).toInt from by omega)))
    have pq84 : (V79 1 2).toInt = ((V 1 2)).toInt := congrArg Int32.toInt (ajV79 1 2 rfl)
    exact W.zret (v := z74) hx hb hr (nb_ok (by omega)) (fun t ht hW => ⟨⟨z74, (V79, L), rfl, ⟨hMV79, agV79, alL, (show 0 ≤ z74.toInt ∧ z74.toInt ≤ 1 from by omega), (Imp.mk (fun hp => have hp : z74.toInt = 1 := hp; (show (V79 1 2).toInt = -1 ∨ (24 * (b : Int) ≤ (V79 1 2).toInt ∧ (V79 1 2).toInt < 24 * (b : Int) + 24) from by omega))), (Or.inr ⟨(by omega), hb83⟩)⟩, by rw [ht]; exact hP, va_K.moved hW.alike hK, hD⟩, hS.F ht⟩) hS.2.2 dX1_readStatement_81
  have gq71 : ((V 6 9)).toInt ≠ 132 := b_neq rfl (by decide) q71
  by_cases q85 : (V 6 9) = 133
  · refine g_top (v := 133) q85 ?_
    have fq85 : ((V 6 9)).toInt = 133 := b_eq rfl (by decide) q85
    refine lv_tableIn (x := 133) (off := 69) (tgt := 76) hx hb dX1_readStatement_7 (by decide) (by decide) (by decide) (by decide) ?_
    refine lv_aload_n hx hb dX1_readStatement_76 rfl (lv_at hl 0 rfl) ?_
    refine lv_iconst (v := 1) hx hb dX1_readStatement_77 (by decide) ?_
    have kd86 : gT.1 (gs.1 0) = ((V 6 9)).toInt := RelC.kd rel
    have r87 : Int32.toInt 1 = 1 := by decide
    refine gA_int (gA_runV (As := [.int 1]) (rest := []) (ci := 1) (q0 := 1) hx hb hml hown hg hP hD hK hS hA hnw hgk (x_wrong2 l D ks H.size ad kk V L Z 1 hMV (by decide)) w867 w869 w6 w162 w870 rfl xgReader hdV_yX1_wrong ⟨Nat.le_of_ble_eq_true rfl, Nat.le_of_ble_eq_true rfl⟩ rfl hl.1 rfl (Nat.le_of_ble_eq_true rfl) dX1_readStatement_78 ⟨Nat.le_of_ble_eq_true rfl, Nat.le_of_ble_eq_true rfl⟩) hP hD hK hS hA (fun z88 u89 H locs w90 hP hD hK hS => ?_)
    obtain ⟨V93, L94⟩ := u89
    obtain ⟨hMV93, ajV93, axL94, rgz88, t91, t92⟩ := w90
    have axL94 : L = L94 := Eq.symm axL94
    subst axL94
    have hP : va_P D vwCl (xw ad kk V93 L Z) H := hP
    have hD : va_D A (xw ad kk V93 L Z) := hD
    have hMV93 : rgd bX V93 := hMV93
    have ajV93 : agr [(1, 3)] [] V V93 := ajV93
    have agV93 : agr [(1, 2), (1, 3), (1, 4), (1, 6), (1, 7), (1, 8), (6, 8), (6, 9), (6, 10)] [41, 42, 43, 44, 45, 46, 47, 48, 49, 50, 51, 52, 53, 54, 55, 56, 57, 61, 62, 63, 64, 65, 66] V V93 := agV.tr ajV93 (by decide) (by decide)
    have rgz88 : 0 ≤ z88.toInt ∧ z88.toInt ≤ 0 := rgz88
    have t91 : 1 ≤ (V93 1 3).toInt := t91
    have t92 : (V93 1 3).toInt = (Int32.toInt 1) + 16 * (V 6 10).toInt := t92
    have r95 : 0 ≤ ((V 6 10)).toInt ∧ ((V 6 10)).toInt ≤ 4000 := hMV 6 10
    have hr96 : ∀ k, Rc gT (Crun gs (Istmt :: k)) (Crun gs (Istmt :: k)) := fun k => Rc.rf
    have hb97 : ∀ k, Rc gT (Crun gs (Istmt :: k)) (Cbad (V93 1 3).toInt) := fun k => Rc.go1 (hr96 k) ((st_x (fun h9 => absurd (h9.symm.trans (kd86.trans fq85)) (by decide)) (fun h9 => absurd (h9.symm.trans (kd86.trans fq85)) (by decide)) (fun h9 => absurd (h9.symm.trans (kd86.trans fq85)) (by decide)) (fun h9 => absurd (h9.symm.trans (kd86.trans fq85)) (by decide)) (fun h9 => absurd (h9.symm.trans (kd86.trans fq85)) (by decide))).trans (fl_eq (RelC.st rel) (show (V93 1 3).toInt = 1 + 16 * (V 6 10).toInt from by omega)))
    have pq98 : (V93 1 2).toInt = ((V 1 2)).toInt := congrArg Int32.toInt (ajV93 1 2 rfl)
    exact W.zret (v := z88) hx hb hr (nb_ok (by omega)) (fun t ht hW => ⟨⟨z88, (V93, L), rfl, ⟨hMV93, agV93, alL, (show 0 ≤ z88.toInt ∧ z88.toInt ≤ 1 from by omega), (Imp.mk (fun hp => have hp : z88.toInt = 1 := hp; (show (V93 1 2).toInt = -1 ∨ (24 * (b : Int) ≤ (V93 1 2).toInt ∧ (V93 1 2).toInt < 24 * (b : Int) + 24) from by omega))), (Or.inr ⟨(by omega), hb97⟩)⟩, by rw [ht]; exact hP, va_K.moved hW.alike hK, hD⟩, hS.F ht⟩) hS.2.2 dX1_readStatement_81
  have gq85 : ((V 6 9)).toInt ≠ 133 := b_neq rfl (by decide) q85
  by_cases q99 : (V 6 9) = 134
  · refine g_top (v := 134) q99 ?_
    have fq99 : ((V 6 9)).toInt = 134 := b_eq rfl (by decide) q99
    refine lv_tableIn (x := 134) (off := 69) (tgt := 76) hx hb dX1_readStatement_7 (by decide) (by decide) (by decide) (by decide) ?_
    refine lv_aload_n hx hb dX1_readStatement_76 rfl (lv_at hl 0 rfl) ?_
    refine lv_iconst (v := 1) hx hb dX1_readStatement_77 (by decide) ?_
    have kd100 : gT.1 (gs.1 0) = ((V 6 9)).toInt := RelC.kd rel
    have r101 : Int32.toInt 1 = 1 := by decide
    refine gA_int (gA_runV (As := [.int 1]) (rest := []) (ci := 1) (q0 := 1) hx hb hml hown hg hP hD hK hS hA hnw hgk (x_wrong2 l D ks H.size ad kk V L Z 1 hMV (by decide)) w867 w869 w6 w162 w870 rfl xgReader hdV_yX1_wrong ⟨Nat.le_of_ble_eq_true rfl, Nat.le_of_ble_eq_true rfl⟩ rfl hl.1 rfl (Nat.le_of_ble_eq_true rfl) dX1_readStatement_78 ⟨Nat.le_of_ble_eq_true rfl, Nat.le_of_ble_eq_true rfl⟩) hP hD hK hS hA (fun z102 u103 H locs w104 hP hD hK hS => ?_)
    obtain ⟨V107, L108⟩ := u103
    obtain ⟨hMV107, ajV107, axL108, rgz102, t105, t106⟩ := w104
    have axL108 : L = L108 := Eq.symm axL108
    subst axL108
    have hP : va_P D vwCl (xw ad kk V107 L Z) H := hP
    have hD : va_D A (xw ad kk V107 L Z) := hD
    have hMV107 : rgd bX V107 := hMV107
    have ajV107 : agr [(1, 3)] [] V V107 := ajV107
    have agV107 : agr [(1, 2), (1, 3), (1, 4), (1, 6), (1, 7), (1, 8), (6, 8), (6, 9), (6, 10)] [41, 42, 43, 44, 45, 46, 47, 48, 49, 50, 51, 52, 53, 54, 55, 56, 57, 61, 62, 63, 64, 65, 66] V V107 := agV.tr ajV107 (by decide) (by decide)
    have rgz102 : 0 ≤ z102.toInt ∧ z102.toInt ≤ 0 := rgz102
    have t105 : 1 ≤ (V107 1 3).toInt := t105
    have t106 : (V107 1 3).toInt = (Int32.toInt 1) + 16 * (V 6 10).toInt := t106
    have r109 : 0 ≤ ((V 6 10)).toInt ∧ ((V 6 10)).toInt ≤ 4000 := hMV 6 10
    have hr110 : ∀ k, Rc gT (Crun gs (Istmt :: k)) (Crun gs (Istmt :: k)) := fun k => Rc.rf
    have hb111 : ∀ k, Rc gT (Crun gs (Istmt :: k)) (Cbad (V107 1 3).toInt) := fun k => Rc.go1 (hr110 k) ((st_x (fun h9 => absurd (h9.symm.trans (kd100.trans fq99)) (by decide)) (fun h9 => absurd (h9.symm.trans (kd100.trans fq99)) (by decide)) (fun h9 => absurd (h9.symm.trans (kd100.trans fq99)) (by decide)) (fun h9 => absurd (h9.symm.trans (kd100.trans fq99)) (by decide)) (fun h9 => absurd (h9.symm.trans (kd100.trans fq99)) (by decide))).trans (fl_eq (RelC.st rel) (show (V107 1 3).toInt = 1 + 16 * (V 6 10).toInt from by omega)))
    have pq112 : (V107 1 2).toInt = ((V 1 2)).toInt := congrArg Int32.toInt (ajV107 1 2 rfl)
    exact W.zret (v := z102) hx hb hr (nb_ok (by omega)) (fun t ht hW => ⟨⟨z102, (V107, L), rfl, ⟨hMV107, agV107, alL, (show 0 ≤ z102.toInt ∧ z102.toInt ≤ 1 from by omega), (Imp.mk (fun hp => have hp : z102.toInt = 1 := hp; (show (V107 1 2).toInt = -1 ∨ (24 * (b : Int) ≤ (V107 1 2).toInt ∧ (V107 1 2).toInt < 24 * (b : Int) + 24) from by omega))), (Or.inr ⟨(by omega), hb111⟩)⟩, by rw [ht]; exact hP, va_K.moved hW.alike hK, hD⟩, hS.F ht⟩) hS.2.2 dX1_readStatement_81
  have gq99 : ((V 6 9)).toInt ≠ 134 := b_neq rfl (by decide) q99
  by_cases q113 : (V 6 9) = 135
  · refine g_top (v := 135) q113 ?_
    have fq113 : ((V 6 9)).toInt = 135 := b_eq rfl (by decide) q113
    refine lv_tableIn (x := 135) (off := 69) (tgt := 76) hx hb dX1_readStatement_7 (by decide) (by decide) (by decide) (by decide) ?_
    refine lv_aload_n hx hb dX1_readStatement_76 rfl (lv_at hl 0 rfl) ?_
    refine lv_iconst (v := 1) hx hb dX1_readStatement_77 (by decide) ?_
    have kd114 : gT.1 (gs.1 0) = ((V 6 9)).toInt := RelC.kd rel
    have r115 : Int32.toInt 1 = 1 := by decide
    refine gA_int (gA_runV (As := [.int 1]) (rest := []) (ci := 1) (q0 := 1) hx hb hml hown hg hP hD hK hS hA hnw hgk (x_wrong2 l D ks H.size ad kk V L Z 1 hMV (by decide)) w867 w869 w6 w162 w870 rfl xgReader hdV_yX1_wrong ⟨Nat.le_of_ble_eq_true rfl, Nat.le_of_ble_eq_true rfl⟩ rfl hl.1 rfl (Nat.le_of_ble_eq_true rfl) dX1_readStatement_78 ⟨Nat.le_of_ble_eq_true rfl, Nat.le_of_ble_eq_true rfl⟩) hP hD hK hS hA (fun z116 u117 H locs w118 hP hD hK hS => ?_)
    obtain ⟨V121, L122⟩ := u117
    obtain ⟨hMV121, ajV121, axL122, rgz116, t119, t120⟩ := w118
    have axL122 : L = L122 := Eq.symm axL122
    subst axL122
    have hP : va_P D vwCl (xw ad kk V121 L Z) H := hP
    have hD : va_D A (xw ad kk V121 L Z) := hD
    have hMV121 : rgd bX V121 := hMV121
    have ajV121 : agr [(1, 3)] [] V V121 := ajV121
    have agV121 : agr [(1, 2), (1, 3), (1, 4), (1, 6), (1, 7), (1, 8), (6, 8), (6, 9), (6, 10)] [41, 42, 43, 44, 45, 46, 47, 48, 49, 50, 51, 52, 53, 54, 55, 56, 57, 61, 62, 63, 64, 65, 66] V V121 := agV.tr ajV121 (by decide) (by decide)
    have rgz116 : 0 ≤ z116.toInt ∧ z116.toInt ≤ 0 := rgz116
    have t119 : 1 ≤ (V121 1 3).toInt := t119
    have t120 : (V121 1 3).toInt = (Int32.toInt 1) + 16 * (V 6 10).toInt := t120
    have r123 : 0 ≤ ((V 6 10)).toInt ∧ ((V 6 10)).toInt ≤ 4000 := hMV 6 10
    have hr124 : ∀ k, Rc gT (Crun gs (Istmt :: k)) (Crun gs (Istmt :: k)) := fun k => Rc.rf
    have hb125 : ∀ k, Rc gT (Crun gs (Istmt :: k)) (Cbad (V121 1 3).toInt) := fun k => Rc.go1 (hr124 k) ((st_x (fun h9 => absurd (h9.symm.trans (kd114.trans fq113)) (by decide)) (fun h9 => absurd (h9.symm.trans (kd114.trans fq113)) (by decide)) (fun h9 => absurd (h9.symm.trans (kd114.trans fq113)) (by decide)) (fun h9 => absurd (h9.symm.trans (kd114.trans fq113)) (by decide)) (fun h9 => absurd (h9.symm.trans (kd114.trans fq113)) (by decide))).trans (fl_eq (RelC.st rel) (show (V121 1 3).toInt = 1 + 16 * (V 6 10).toInt from by omega)))
    have pq126 : (V121 1 2).toInt = ((V 1 2)).toInt := congrArg Int32.toInt (ajV121 1 2 rfl)
    exact W.zret (v := z116) hx hb hr (nb_ok (by omega)) (fun t ht hW => ⟨⟨z116, (V121, L), rfl, ⟨hMV121, agV121, alL, (show 0 ≤ z116.toInt ∧ z116.toInt ≤ 1 from by omega), (Imp.mk (fun hp => have hp : z116.toInt = 1 := hp; (show (V121 1 2).toInt = -1 ∨ (24 * (b : Int) ≤ (V121 1 2).toInt ∧ (V121 1 2).toInt < 24 * (b : Int) + 24) from by omega))), (Or.inr ⟨(by omega), hb125⟩)⟩, by rw [ht]; exact hP, va_K.moved hW.alike hK, hD⟩, hS.F ht⟩) hS.2.2 dX1_readStatement_81
  have gq113 : ((V 6 9)).toInt ≠ 135 := b_neq rfl (by decide) q113
  by_cases q127 : (V 6 9) = 136
  · refine g_top (v := 136) q127 ?_
    have fq127 : ((V 6 9)).toInt = 136 := b_eq rfl (by decide) q127
    refine lv_tableIn (x := 136) (off := 64) (tgt := 71) hx hb dX1_readStatement_7 (by decide) (by decide) (by decide) (by decide) ?_
    refine lv_aload_n hx hb dX1_readStatement_71 rfl (lv_at hl 0 rfl) ?_
    have hr128 : ∀ k, Rc gT (Crun gs (Istmt :: k)) (Crun gs (Istmt :: k)) := fun k => Rc.rf
    refine gA_int (gA_runV (As := []) (rest := []) (ci := 1) (q0 := 1) hx hb hml hown hg hP hD hK hS hA hnw hgk (x_readWrap3 l D ks H.size ad kk V L Z (b) (gT) (gs) hMV (show b < 2 from by omega) (show (V 1 1).toInt = (b : Int) from by omega) (show (V 1 2).toInt = -1 from by omega) rel (show (V 6 9).toInt = 136 from by omega)) w935 w937 w18 w162 w938 rfl xgReader hdV_yX1_readWrap ⟨Nat.le_of_ble_eq_true rfl, Nat.le_of_ble_eq_true rfl⟩ rfl hl.1 rfl (Nat.le_of_ble_eq_true rfl) dX1_readStatement_72 ⟨Nat.le_of_ble_eq_true rfl, Nat.le_of_ble_eq_true rfl⟩) hP hD hK hS hA (fun z129 u130 H locs w131 hP hD hK hS => ?_)
    obtain ⟨V133, L134⟩ := u130
    obtain ⟨hMV133, ajV133, axL134, rgz129, t132⟩ := w131
    have alL134 : agL [1, 6, 44] L L134 := agL.tr alL axL134 (by decide)
    have hP : va_P D vwCl (xw ad kk V133 L134 Z) H := hP
    have hD : va_D A (xw ad kk V133 L134 Z) := hD
    have hMV133 : rgd bX V133 := hMV133
    have ajV133 : agr [(1, 3), (1, 4), (1, 6), (1, 8), (6, 8), (6, 9), (6, 10)] [41, 42, 43, 44, 47, 48, 62, 63, 64, 65, 66] V V133 := ajV133
    have agV133 : agr [(1, 2), (1, 3), (1, 4), (1, 6), (1, 7), (1, 8), (6, 8), (6, 9), (6, 10)] [41, 42, 43, 44, 45, 46, 47, 48, 49, 50, 51, 52, 53, 54, 55, 56, 57, 61, 62, 63, 64, 65, 66] V V133 := agV.tr ajV133 (by decide) (by decide)
    have rgz129 : 0 ≤ z129.toInt ∧ z129.toInt ≤ 1 := rgz129
    have t132 : Rd gT gs (fun k => Istmt :: k) (fun k => Istmt :: k) z129.toInt (V133 1 3).toInt (fun s9 => RelC V133 L134 b gT s9 ∧ gs.1 0 + 1 ≤ s9.1 0) := t132
    rcases t132 with ⟨q135, sx136, h137, rl138, kp139⟩ | ⟨q135, h137⟩
    · skip
      have hr140 : ∀ k, Rc gT (Crun gs (Istmt :: k)) (Crun sx136 (Istmt :: k)) := fun k => (hr128 k).tr (h137 k)
      have pq141 : (V133 1 2).toInt = ((V 1 2)).toInt := congrArg Int32.toInt (ajV133 1 2 rfl)
      have ps142 : gs.1 0 + 1 ≤ sx136.1 0 := kp139
      exact W.zret (v := z129) hx hb hr (nb_ok (by omega)) (fun t ht hW => ⟨⟨z129, (V133, L134), rfl, ⟨hMV133, agV133, alL134, (show 0 ≤ z129.toInt ∧ z129.toInt ≤ 1 from by omega), (Imp.mk (fun hp => have hp : z129.toInt = 1 := hp; (show (V133 1 2).toInt = -1 ∨ (24 * (b : Int) ≤ (V133 1 2).toInt ∧ (V133 1 2).toInt < 24 * (b : Int) + 24) from by omega))), (Or.inl ⟨(by omega), sx136, (fun k => show Rc gT (Crun gs (Istmt :: k)) (Crun sx136 (nxI (V133 1 2) k)) from by rw [nxI_s (show (V133 1 2).toInt < 0 from by omega)]; exact hr140 k), rl138, (by omega)⟩)⟩, by rw [ht]; exact hP, va_K.moved hW.alike hK, hD⟩, hS.F ht⟩) hS.2.2 dX1_readStatement_75
    · skip
      have hb143 : ∀ k, Rc gT (Crun gs (Istmt :: k)) (Cbad (V133 1 3).toInt) := fun k => (hr128 k).tr (h137 k)
      have pq144 : (V133 1 2).toInt = ((V 1 2)).toInt := congrArg Int32.toInt (ajV133 1 2 rfl)
      exact W.zret (v := z129) hx hb hr (nb_ok (by omega)) (fun t ht hW => ⟨⟨z129, (V133, L134), rfl, ⟨hMV133, agV133, alL134, (show 0 ≤ z129.toInt ∧ z129.toInt ≤ 1 from by omega), (Imp.mk (fun hp => have hp : z129.toInt = 1 := hp; (show (V133 1 2).toInt = -1 ∨ (24 * (b : Int) ≤ (V133 1 2).toInt ∧ (V133 1 2).toInt < 24 * (b : Int) + 24) from by omega))), (Or.inr ⟨(by omega), hb143⟩)⟩, by rw [ht]; exact hP, va_K.moved hW.alike hK, hD⟩, hS.F ht⟩) hS.2.2 dX1_readStatement_75
  have gq127 : ((V 6 9)).toInt ≠ 136 := b_neq rfl (by decide) q127
  refine lv_tableOut (x := (V 6 9)) (tgt := 76) hx hb dX1_readStatement_7 (by omega) (by decide) ?_
  refine lv_aload_n hx hb dX1_readStatement_76 rfl (lv_at hl 0 rfl) ?_
  refine lv_iconst (v := 1) hx hb dX1_readStatement_77 (by decide) ?_
  have kd145 : gT.1 (gs.1 0) = ((V 6 9)).toInt := RelC.kd rel
  have r146 : Int32.toInt 1 = 1 := by decide
  refine gA_int (gA_runV (As := [.int 1]) (rest := []) (ci := 1) (q0 := 1) hx hb hml hown hg hP hD hK hS hA hnw hgk (x_wrong2 l D ks H.size ad kk V L Z 1 hMV (by decide)) w867 w869 w6 w162 w870 rfl xgReader hdV_yX1_wrong ⟨Nat.le_of_ble_eq_true rfl, Nat.le_of_ble_eq_true rfl⟩ rfl hl.1 rfl (Nat.le_of_ble_eq_true rfl) dX1_readStatement_78 ⟨Nat.le_of_ble_eq_true rfl, Nat.le_of_ble_eq_true rfl⟩) hP hD hK hS hA (fun z147 u148 H locs w149 hP hD hK hS => ?_)
  obtain ⟨V152, L153⟩ := u148
  obtain ⟨hMV152, ajV152, axL153, rgz147, t150, t151⟩ := w149
  have axL153 : L = L153 := Eq.symm axL153
  subst axL153
  have hP : va_P D vwCl (xw ad kk V152 L Z) H := hP
  have hD : va_D A (xw ad kk V152 L Z) := hD
  have hMV152 : rgd bX V152 := hMV152
  have ajV152 : agr [(1, 3)] [] V V152 := ajV152
  have agV152 : agr [(1, 2), (1, 3), (1, 4), (1, 6), (1, 7), (1, 8), (6, 8), (6, 9), (6, 10)] [41, 42, 43, 44, 45, 46, 47, 48, 49, 50, 51, 52, 53, 54, 55, 56, 57, 61, 62, 63, 64, 65, 66] V V152 := agV.tr ajV152 (by decide) (by decide)
  have rgz147 : 0 ≤ z147.toInt ∧ z147.toInt ≤ 0 := rgz147
  have t150 : 1 ≤ (V152 1 3).toInt := t150
  have t151 : (V152 1 3).toInt = (Int32.toInt 1) + 16 * (V 6 10).toInt := t151
  have r154 : 0 ≤ ((V 6 10)).toInt ∧ ((V 6 10)).toInt ≤ 4000 := hMV 6 10
  have hr155 : ∀ k, Rc gT (Crun gs (Istmt :: k)) (Crun gs (Istmt :: k)) := fun k => Rc.rf
  have hb156 : ∀ k, Rc gT (Crun gs (Istmt :: k)) (Cbad (V152 1 3).toInt) := fun k => Rc.go1 (hr155 k) ((st_x (fun h9 => kn0 (kd145.symm.trans h9)) (fun h9 => gq3 (kd145.symm.trans h9)) (fun h9 => gq35 (kd145.symm.trans h9)) (fun h9 => gq53 (kd145.symm.trans h9)) (fun h9 => gq127 (kd145.symm.trans h9))).trans (fl_eq (RelC.st rel) (show (V152 1 3).toInt = 1 + 16 * (V 6 10).toInt from by omega)))
  have pq157 : (V152 1 2).toInt = ((V 1 2)).toInt := congrArg Int32.toInt (ajV152 1 2 rfl)
  exact W.zret (v := z147) hx hb hr (nb_ok (by omega)) (fun t ht hW => ⟨⟨z147, (V152, L), rfl, ⟨hMV152, agV152, alL, (show 0 ≤ z147.toInt ∧ z147.toInt ≤ 1 from by omega), (Imp.mk (fun hp => have hp : z147.toInt = 1 := hp; (show (V152 1 2).toInt = -1 ∨ (24 * (b : Int) ≤ (V152 1 2).toInt ∧ (V152 1 2).toInt < 24 * (b : Int) + 24) from by omega))), (Or.inr ⟨(by omega), hb156⟩)⟩, by rw [ht]; exact hP, va_K.moved hW.alike hK, hD⟩, hS.F ht⟩) hS.2.2 dX1_readStatement_81
abbrev r_x_bclear3 : Room := { frames := 0, cells := 0, slots := 0, locals := 0 }
abbrev q_x_bclear3 (D : va_G) (ks : KS) (ad : Nat → Nat) (kk : Nat → ClassId) (V : Vf) (L : Lf) (Z : XZ) (b : Nat) (A : Nat → Prop) : Array Value → State → Outcome → State → Prop := va_Qv (fun (u : Vf × Lf) => rgd bX u.1 ∧ agr [] [41, 42, 43] V u.1 ∧ u.2 = L ∧ ((u.1 42 b).toInt = 0) ∧ ((u.1 41 b).toInt = 0) ∧ ((u.1 43 (5 * b + 0)).toInt = 0) ∧ ((u.1 43 (5 * b + 1)).toInt = 0) ∧ ((u.1 43 (5 * b + 2)).toInt = 0) ∧ ((u.1 43 (5 * b + 3)).toInt = 0) ∧ ((u.1 43 (5 * b + 4)).toInt = 0)) (fun u t => gq D A (xw ad kk u.1 u.2 Z) (xty kk Z) t) A
set_option maxHeartbeats 4000000 in
set_option maxRecDepth 100000 in
theorem x_bclear3 (l : Launch) (D : va_G) (ks : KS) (sz : Nat) (ad : Nat → Nat) (kk : Nat → ClassId) (V : Vf) (L : Lf) (Z : XZ) (b : Nat) (hMV : rgd bX V) (hb2 : b < 2)  : Met l yX0_clear (Cond.code yX0_clear cX0_clear 1 none :: GW) r_x_bclear3 (va_Pc [.ref (ad (38 + b))] (gp D ks (xw ad kk V L Z) (xty kk Z) sz)) (q_x_bclear3 D ks ad kk V L Z  b (va_A (xw ad kk V L Z) sz)) 0 0 (va_A (xw ad kk V L Z) sz) := by
  refine g_met (q_x_bclear3 D ks ad kk V L Z  b) (by decide) (Nat.le_of_ble_eq_true rfl) ?_
  intro p e s m below meth c A ls H locs hx hb hr hml hown hg hlocks hin hnw hgk hP hK hD hS hA hl
  have hown : s.vm.findClass RX0 = some m.cls := hown
  have hl : lv_has ls 1 [(0, .ref (ad (38 + b)))] := hl
  have hP : va_P D vwCl (xw ad kk V L Z) H := hP
  have hD : va_D A (xw ad kk V L Z) := hD
  have hK : va_K D vwCl (xty kk Z) s := hK
  have agV : agr [] [41, 42, 43] V V := agr.rf
  refine lv_aload_n hx hb dX0_clear_0 rfl (lv_at hl 0 rfl) ?_
  refine va_get (D := D) (ci := 0) (v := .ref (ad (40 + (5 * b + 0)))) (fs := (xfBook ad V b)) (C := RX0) (T := TX0) (N := 13) hx hb hg inX0 hown hK hP (38 + b) (xgBook hb2) rfl 0 (by decide) (hg _ w593) (fun _ h9 => h9) rfl dX0_clear_1 ?_
  refine lv_iconst (v := 0) hx hb dX0_clear_4 (by decide) ?_
  have il1 : (5 * b + 0) < 10 := by omega
  refine va_putN (D := D) (ci := 6) (v := .int 0) (ty := tyX6 1) (fs := (xfNames ad V (5 * b + 0))) (C := RX6) (T := TX6) (N := 2) hx hb hg inX6 tyX6 tyX6_ok nmX6 hown hK hP hD hS (40 + (5 * b + 0)) (xgNames il1) rfl 1 (by decide) (hnw.use 481 n481 rfl) (fun _ h9 => h9) rfl (tyX6_ok 1 (by decide)) rfl rfl (Nat.le_of_ble_eq_true rfl) dX0_clear_5 (fun H locs hP hD hS => ?_)
  have r2 : xcap (5 * b + 0) = 24 := xcap_0
  obtain ⟨V3, hV3⟩ : ∃ z, z = up2 V 43 (5 * b + 0) 0 := ⟨_, rfl⟩
  have ew4 : (xw ad kk V L Z).set (40 + (5 * b + 0)) ((ad (40 + (5 * b + 0))), .inr (6, (xfNames ad V (5 * b + 0)).set 1 (.int 0))) = xw ad kk V3 L Z := by rw [hV3]; exact xpNames_size il1
  have hP : va_P D vwCl (xw ad kk V3 L Z) H := by rw [← ew4]; exact hP
  have hD : va_D A (xw ad kk V3 L Z) := by rw [← ew4]; exact hD
  have hMV3 : rgd bX V3 := hMV.put hV3 ⟨(show (0 : Int) ≤ Int32.toInt 0 from by decide), by show (Int32.toInt 0) ≤ ((xcap (5 * b + 0) : Nat) : Int); have h9 : Int32.toInt 0 = 0 := (by decide); omega⟩
  have agV3 : agr [] [41, 42, 43] V V3 := agV.up hV3 rfl
  refine lv_aload_n hx hb dX0_clear_8 rfl (lv_at hl 0 rfl) ?_
  refine va_get (D := D) (ci := 0) (v := .ref (ad (40 + (5 * b + 1)))) (fs := (xfBook ad V3 b)) (C := RX0) (T := TX0) (N := 13) hx hb hg inX0 hown hK hP (38 + b) (xgBook hb2) rfl 1 (by decide) (hg _ w596) (fun _ h9 => h9) rfl dX0_clear_9 ?_
  refine lv_iconst (v := 0) hx hb dX0_clear_12 (by decide) ?_
  have il5 : (5 * b + 1) < 10 := by omega
  refine va_putN (D := D) (ci := 6) (v := .int 0) (ty := tyX6 1) (fs := (xfNames ad V3 (5 * b + 1))) (C := RX6) (T := TX6) (N := 2) hx hb hg inX6 tyX6 tyX6_ok nmX6 hown hK hP hD hS (40 + (5 * b + 1)) (xgNames il5) rfl 1 (by decide) (hnw.use 481 n481 rfl) (fun _ h9 => h9) rfl (tyX6_ok 1 (by decide)) rfl rfl (Nat.le_of_ble_eq_true rfl) dX0_clear_13 (fun H locs hP hD hS => ?_)
  have r6 : xcap (5 * b + 1) = 12 := xcap_1
  obtain ⟨V7, hV7⟩ : ∃ z, z = up2 V3 43 (5 * b + 1) 0 := ⟨_, rfl⟩
  have ew8 : (xw ad kk V3 L Z).set (40 + (5 * b + 1)) ((ad (40 + (5 * b + 1))), .inr (6, (xfNames ad V3 (5 * b + 1)).set 1 (.int 0))) = xw ad kk V7 L Z := by rw [hV7]; exact xpNames_size il5
  have hP : va_P D vwCl (xw ad kk V7 L Z) H := by rw [← ew8]; exact hP
  have hD : va_D A (xw ad kk V7 L Z) := by rw [← ew8]; exact hD
  have hMV7 : rgd bX V7 := hMV3.put hV7 ⟨(show (0 : Int) ≤ Int32.toInt 0 from by decide), by show (Int32.toInt 0) ≤ ((xcap (5 * b + 1) : Nat) : Int); have h9 : Int32.toInt 0 = 0 := (by decide); omega⟩
  have agV7 : agr [] [41, 42, 43] V V7 := agV3.up hV7 rfl
  refine lv_aload_n hx hb dX0_clear_16 rfl (lv_at hl 0 rfl) ?_
  refine va_get (D := D) (ci := 0) (v := .ref (ad (40 + (5 * b + 2)))) (fs := (xfBook ad V7 b)) (C := RX0) (T := TX0) (N := 13) hx hb hg inX0 hown hK hP (38 + b) (xgBook hb2) rfl 2 (by decide) (hg _ w599) (fun _ h9 => h9) rfl dX0_clear_17 ?_
  refine lv_iconst (v := 0) hx hb dX0_clear_20 (by decide) ?_
  have il9 : (5 * b + 2) < 10 := by omega
  refine va_putN (D := D) (ci := 6) (v := .int 0) (ty := tyX6 1) (fs := (xfNames ad V7 (5 * b + 2))) (C := RX6) (T := TX6) (N := 2) hx hb hg inX6 tyX6 tyX6_ok nmX6 hown hK hP hD hS (40 + (5 * b + 2)) (xgNames il9) rfl 1 (by decide) (hnw.use 481 n481 rfl) (fun _ h9 => h9) rfl (tyX6_ok 1 (by decide)) rfl rfl (Nat.le_of_ble_eq_true rfl) dX0_clear_21 (fun H locs hP hD hS => ?_)
  have r10 : xcap (5 * b + 2) = 24 := xcap_2
  obtain ⟨V11, hV11⟩ : ∃ z, z = up2 V7 43 (5 * b + 2) 0 := ⟨_, rfl⟩
  have ew12 : (xw ad kk V7 L Z).set (40 + (5 * b + 2)) ((ad (40 + (5 * b + 2))), .inr (6, (xfNames ad V7 (5 * b + 2)).set 1 (.int 0))) = xw ad kk V11 L Z := by rw [hV11]; exact xpNames_size il9
  have hP : va_P D vwCl (xw ad kk V11 L Z) H := by rw [← ew12]; exact hP
  have hD : va_D A (xw ad kk V11 L Z) := by rw [← ew12]; exact hD
  have hMV11 : rgd bX V11 := hMV7.put hV11 ⟨(show (0 : Int) ≤ Int32.toInt 0 from by decide), by show (Int32.toInt 0) ≤ ((xcap (5 * b + 2) : Nat) : Int); have h9 : Int32.toInt 0 = 0 := (by decide); omega⟩
  have agV11 : agr [] [41, 42, 43] V V11 := agV7.up hV11 rfl
  refine lv_aload_n hx hb dX0_clear_24 rfl (lv_at hl 0 rfl) ?_
  refine va_get (D := D) (ci := 0) (v := .ref (ad (40 + (5 * b + 3)))) (fs := (xfBook ad V11 b)) (C := RX0) (T := TX0) (N := 13) hx hb hg inX0 hown hK hP (38 + b) (xgBook hb2) rfl 3 (by decide) (hg _ w603) (fun _ h9 => h9) rfl dX0_clear_25 ?_
  refine lv_iconst (v := 0) hx hb dX0_clear_28 (by decide) ?_
  have il13 : (5 * b + 3) < 10 := by omega
  refine va_putN (D := D) (ci := 6) (v := .int 0) (ty := tyX6 1) (fs := (xfNames ad V11 (5 * b + 3))) (C := RX6) (T := TX6) (N := 2) hx hb hg inX6 tyX6 tyX6_ok nmX6 hown hK hP hD hS (40 + (5 * b + 3)) (xgNames il13) rfl 1 (by decide) (hnw.use 481 n481 rfl) (fun _ h9 => h9) rfl (tyX6_ok 1 (by decide)) rfl rfl (Nat.le_of_ble_eq_true rfl) dX0_clear_29 (fun H locs hP hD hS => ?_)
  have r14 : xcap (5 * b + 3) = 20 := xcap_3
  obtain ⟨V15, hV15⟩ : ∃ z, z = up2 V11 43 (5 * b + 3) 0 := ⟨_, rfl⟩
  have ew16 : (xw ad kk V11 L Z).set (40 + (5 * b + 3)) ((ad (40 + (5 * b + 3))), .inr (6, (xfNames ad V11 (5 * b + 3)).set 1 (.int 0))) = xw ad kk V15 L Z := by rw [hV15]; exact xpNames_size il13
  have hP : va_P D vwCl (xw ad kk V15 L Z) H := by rw [← ew16]; exact hP
  have hD : va_D A (xw ad kk V15 L Z) := by rw [← ew16]; exact hD
  have hMV15 : rgd bX V15 := hMV11.put hV15 ⟨(show (0 : Int) ≤ Int32.toInt 0 from by decide), by show (Int32.toInt 0) ≤ ((xcap (5 * b + 3) : Nat) : Int); have h9 : Int32.toInt 0 = 0 := (by decide); omega⟩
  have agV15 : agr [] [41, 42, 43] V V15 := agV11.up hV15 rfl
  refine lv_aload_n hx hb dX0_clear_32 rfl (lv_at hl 0 rfl) ?_
  refine va_get (D := D) (ci := 0) (v := .ref (ad (40 + (5 * b + 4)))) (fs := (xfBook ad V15 b)) (C := RX0) (T := TX0) (N := 13) hx hb hg inX0 hown hK hP (38 + b) (xgBook hb2) rfl 4 (by decide) (hg _ w606) (fun _ h9 => h9) rfl dX0_clear_33 ?_
  refine lv_iconst (v := 0) hx hb dX0_clear_36 (by decide) ?_
  have il17 : (5 * b + 4) < 10 := by omega
  refine va_putN (D := D) (ci := 6) (v := .int 0) (ty := tyX6 1) (fs := (xfNames ad V15 (5 * b + 4))) (C := RX6) (T := TX6) (N := 2) hx hb hg inX6 tyX6 tyX6_ok nmX6 hown hK hP hD hS (40 + (5 * b + 4)) (xgNames il17) rfl 1 (by decide) (hnw.use 481 n481 rfl) (fun _ h9 => h9) rfl (tyX6_ok 1 (by decide)) rfl rfl (Nat.le_of_ble_eq_true rfl) dX0_clear_37 (fun H locs hP hD hS => ?_)
  have r18 : xcap (5 * b + 4) = 20 := xcap_4
  obtain ⟨V19, hV19⟩ : ∃ z, z = up2 V15 43 (5 * b + 4) 0 := ⟨_, rfl⟩
  have ew20 : (xw ad kk V15 L Z).set (40 + (5 * b + 4)) ((ad (40 + (5 * b + 4))), .inr (6, (xfNames ad V15 (5 * b + 4)).set 1 (.int 0))) = xw ad kk V19 L Z := by rw [hV19]; exact xpNames_size il17
  have hP : va_P D vwCl (xw ad kk V19 L Z) H := by rw [← ew20]; exact hP
  have hD : va_D A (xw ad kk V19 L Z) := by rw [← ew20]; exact hD
  have hMV19 : rgd bX V19 := hMV15.put hV19 ⟨(show (0 : Int) ≤ Int32.toInt 0 from by decide), by show (Int32.toInt 0) ≤ ((xcap (5 * b + 4) : Nat) : Int); have h9 : Int32.toInt 0 = 0 := (by decide); omega⟩
  have agV19 : agr [] [41, 42, 43] V V19 := agV15.up hV19 rfl
  refine lv_aload_n hx hb dX0_clear_40 rfl (lv_at hl 0 rfl) ?_
  refine lv_iconst (v := 0) hx hb dX0_clear_41 (by decide) ?_
  refine va_put (D := D) (ci := 0) (v := .int 0) (ty := tyX0 11) (fs := (xfBook ad V19 b)) (C := RX0) (T := TX0) (N := 13) hx hb hg inX0 tyX0 tyX0_ok nmX0 hown hK hP hD hS (38 + b) (xgBook hb2) rfl 11 (by decide) (hg _ w625) (fun _ h9 => h9) rfl (tyX0_ok 11 (by decide)) rfl rfl (Nat.le_of_ble_eq_true rfl) dX0_clear_42 (fun H locs hP hD hS => ?_)
  obtain ⟨V21, hV21⟩ : ∃ z, z = up2 V19 41 b 0 := ⟨_, rfl⟩
  have ew22 : (xw ad kk V19 L Z).set (38 + b) ((ad (38 + b)), .inr (0, (xfBook ad V19 b).set 11 (.int 0))) = xw ad kk V21 L Z := by rw [hV21]; exact xpBook_wrapCount hb2
  have hP : va_P D vwCl (xw ad kk V21 L Z) H := by rw [← ew22]; exact hP
  have hD : va_D A (xw ad kk V21 L Z) := by rw [← ew22]; exact hD
  have hMV21 : rgd bX V21 := hMV19.put hV21 (show 0 ≤ Int32.toInt 0 ∧ Int32.toInt 0 ≤ 12 from by decide)
  have agV21 : agr [] [41, 42, 43] V V21 := agV19.up hV21 rfl
  refine lv_aload_n hx hb dX0_clear_45 rfl (lv_at hl 0 rfl) ?_
  refine lv_iconst (v := 0) hx hb dX0_clear_46 (by decide) ?_
  refine va_put (D := D) (ci := 0) (v := .int 0) (ty := tyX0 12) (fs := (xfBook ad V21 b)) (C := RX0) (T := TX0) (N := 13) hx hb hg inX0 tyX0 tyX0_ok nmX0 hown hK hP hD hS (38 + b) (xgBook hb2) rfl 12 (by decide) (hg _ w629) (fun _ h9 => h9) rfl (tyX0_ok 12 (by decide)) rfl rfl (Nat.le_of_ble_eq_true rfl) dX0_clear_47 (fun H locs hP hD hS => ?_)
  obtain ⟨V23, hV23⟩ : ∃ z, z = up2 V21 42 b 0 := ⟨_, rfl⟩
  have ew24 : (xw ad kk V21 L Z).set (38 + b) ((ad (38 + b)), .inr (0, (xfBook ad V21 b).set 12 (.int 0))) = xw ad kk V23 L Z := by rw [hV23]; exact xpBook_codeLength hb2
  have hP : va_P D vwCl (xw ad kk V23 L Z) H := by rw [← ew24]; exact hP
  have hD : va_D A (xw ad kk V23 L Z) := by rw [← ew24]; exact hD
  have hMV23 : rgd bX V23 := hMV21.put hV23 (show 0 ≤ Int32.toInt 0 ∧ Int32.toInt 0 ≤ 8200 from by decide)
  have agV23 : agr [] [41, 42, 43] V V23 := agV21.up hV23 rfl
  have pq25 : (V23 42 b).toInt = 0 := (congrArg Int32.toInt (up2_s hV23)).trans (by decide)
  have pq26 : (V23 41 b).toInt = 0 := (congrArg Int32.toInt ((up2_o hV23 (by decide)).trans (up2_s hV21))).trans (by decide)
  have pq27 : (V23 43 (5 * b + 0)).toInt = 0 := (congrArg Int32.toInt ((up2_o hV23 (by decide)).trans ((up2_o hV21 (by decide)).trans ((up2_k hV19 (by omega)).trans ((up2_k hV15 (by omega)).trans ((up2_k hV11 (by omega)).trans ((up2_k hV7 (by omega)).trans (up2_s hV3)))))))).trans (by decide)
  have pq28 : (V23 43 (5 * b + 1)).toInt = 0 := (congrArg Int32.toInt ((up2_o hV23 (by decide)).trans ((up2_o hV21 (by decide)).trans ((up2_k hV19 (by omega)).trans ((up2_k hV15 (by omega)).trans ((up2_k hV11 (by omega)).trans (up2_s hV7))))))).trans (by decide)
  have pq29 : (V23 43 (5 * b + 2)).toInt = 0 := (congrArg Int32.toInt ((up2_o hV23 (by decide)).trans ((up2_o hV21 (by decide)).trans ((up2_k hV19 (by omega)).trans ((up2_k hV15 (by omega)).trans (up2_s hV11)))))).trans (by decide)
  have pq30 : (V23 43 (5 * b + 3)).toInt = 0 := (congrArg Int32.toInt ((up2_o hV23 (by decide)).trans ((up2_o hV21 (by decide)).trans ((up2_k hV19 (by omega)).trans (up2_s hV15))))).trans (by decide)
  have pq31 : (V23 43 (5 * b + 4)).toInt = 0 := (congrArg Int32.toInt ((up2_o hV23 (by decide)).trans ((up2_o hV21 (by decide)).trans (up2_s hV19)))).trans (by decide)
  exact W.vret hx hb hr (fun t ht hW => ⟨⟨(V23, L), rfl, ⟨hMV23, agV23, rfl, (show (V23 42 b).toInt = 0 from by omega), (show (V23 41 b).toInt = 0 from by omega), (show (V23 43 (5 * b + 0)).toInt = 0 from by omega), (show (V23 43 (5 * b + 1)).toInt = 0 from by omega), (show (V23 43 (5 * b + 2)).toInt = 0 from by omega), (show (V23 43 (5 * b + 3)).toInt = 0 from by omega), (show (V23 43 (5 * b + 4)).toInt = 0 from by omega)⟩, by rw [ht]; exact hP, va_K.moved hW.alike hK, hD⟩, hS.F ht⟩) hS.2.2 dX0_clear_50
abbrev r_x_read3 : Room := { frames := 93, cells := 0, slots := 0, locals := 2728 }
abbrev q_x_read3 (D : va_G) (ks : KS) (ad : Nat → Nat) (kk : Nat → ClassId) (V : Vf) (L : Lf) (Z : XZ) (b : Nat) (A : Nat → Prop) : Array Value → State → Outcome → State → Prop := va_Qi (fun (r : Int32) (u : Vf × Lf) => rgd bX u.1 ∧ agr [(1, 1), (1, 2), (1, 3), (1, 4), (1, 6), (1, 7), (1, 8), (6, 6), (6, 7), (6, 8), (6, 9), (6, 10)] [12, 13, 14, 41, 42, 43, 44, 45, 46, 47, 48, 49, 50, 51, 52, 53, 54, 55, 56, 57, 58, 59, 60, 61, 62, 63, 64, 65, 66] V u.1 ∧ agL [1, 6, 14, 44] L u.2 ∧ (CTx V L u.1 u.2) ∧ (BRES (tkOf u.1 u.2) r.toInt (fun s9 => TBc u.1 u.2 b s9))) (fun u t => gq D A (xw ad kk u.1 u.2 Z) (xty kk Z) t) A
set_option maxHeartbeats 4000000 in
set_option maxRecDepth 100000 in
theorem x_read3 (l : Launch) (D : va_G) (ks : KS) (sz : Nat) (ad : Nat → Nat) (kk : Nat → ClassId) (V : Vf) (L : Lf) (Z : XZ) (b : Nat) (hMV : rgd bX V) (hb2 : b < 2) (bp1 : ∀ k : Nat, (k : Int) < (V 6 5).toInt → isTp (V 10 k))  : Met l yX1_read (Cond.code yX1_read cX1_read 4 (some .int) :: GW) r_x_read3 (va_Pc [.ref (ad 1), .ref (ad (38 + b))] (gp D ks (xw ad kk V L Z) (xty kk Z) sz)) (q_x_read3 D ks ad kk V L Z  b (va_A (xw ad kk V L Z) sz)) 0 0 (va_A (xw ad kk V L Z) sz) := by
  refine g_met (q_x_read3 D ks ad kk V L Z  b) (by decide) (Nat.le_of_ble_eq_true rfl) ?_
  intro p e s m below meth c A ls H locs hx hb hr hml hown hg hlocks hin hnw hgk hP hK hD hS hA hl
  have hown : s.vm.findClass RX1 = some m.cls := hown
  have hl : lv_has ls 4 [(0, .ref (ad 1)), (1, .ref (ad (38 + b)))] := hl
  have hP : va_P D vwCl (xw ad kk V L Z) H := hP
  have hD : va_D A (xw ad kk V L Z) := hD
  have hK : va_K D vwCl (xty kk Z) s := hK
  have agV : agr [(1, 1), (1, 2), (1, 3), (1, 4), (1, 6), (1, 7), (1, 8), (6, 6), (6, 7), (6, 8), (6, 9), (6, 10)] [12, 13, 14, 41, 42, 43, 44, 45, 46, 47, 48, 49, 50, 51, 52, 53, 54, 55, 56, 57, 58, 59, 60, 61, 62, 63, 64, 65, 66] V V := agr.rf
  have alL : agL [1, 6, 14, 44] L L := agL.rf
  refine lv_aload_n hx hb dX1_read_0 rfl (lv_at hl 0 rfl) ?_
  refine lv_aload_n hx hb dX1_read_1 rfl (lv_at hl 1 rfl) ?_
  refine va_put (D := D) (ci := 1) (v := .ref (ad (38 + b))) (ty := tyX1 1) (fs := (xfReader ad V L Z)) (C := RX1) (T := TX1) (N := 9) hx hb hg inX1 tyX1 tyX1_ok nmX1 hown hK hP hD hS 1 xgReader rfl 1 (by decide) (hg _ w305) (fun _ h9 => h9) rfl (tyX1_ok 1 (by decide)) rfl rfl (Nat.le_of_ble_eq_true rfl) dX1_read_2 (fun H locs hP hD hS => ?_)
  have r1 : (nI b).toInt = ((b : Nat) : Int) := nI_toInt (by omega)
  obtain ⟨V2, hV2⟩ : ∃ z, z = up2 V 1 1 (nI b) := ⟨_, rfl⟩
  have ew3 : (xw ad kk V L Z).set 1 ((ad 1), .inr (1, (xfReader ad V L Z).set 1 (.ref (ad (38 + b))))) = xw ad kk V2 L Z := by rw [hV2]; exact xr_rbook hb2
  have hP : va_P D vwCl (xw ad kk V2 L Z) H := by rw [← ew3]; exact hP
  have hD : va_D A (xw ad kk V2 L Z) := by rw [← ew3]; exact hD
  have hMV2 : rgd bX V2 := hMV.put hV2 (show (-1) ≤ ((nI b)).toInt ∧ ((nI b)).toInt ≤ 1 from by omega)
  have agV2 : agr [(1, 1), (1, 2), (1, 3), (1, 4), (1, 6), (1, 7), (1, 8), (6, 6), (6, 7), (6, 8), (6, 9), (6, 10)] [12, 13, 14, 41, 42, 43, 44, 45, 46, 47, 48, 49, 50, 51, 52, 53, 54, 55, 56, 57, 58, 59, 60, 61, 62, 63, 64, 65, 66] V V2 := agV.up hV2 rfl
  refine lv_aload_n hx hb dX1_read_5 rfl (lv_at hl 0 rfl) ?_
  refine va_get (D := D) (ci := 1) (v := rfN ad 38 (V2 1 1)) (fs := (xfReader ad V2 L Z)) (C := RX1) (T := TX1) (N := 9) hx hb hg inX1 hown hK hP 1 xgReader rfl 1 (by decide) (hg _ w305) (fun _ h9 => h9) rfl dX1_read_6 ?_
  have pq4 : (V2 1 1).toInt = ((nI b)).toInt := congrArg Int32.toInt (up2_s hV2)
  refine g_topv (v := .ref (ad (38 + b))) (rfN_r (by omega)) ?_
  refine gA_void (gA_runV (As := []) (rest := []) (ci := 0) (q0 := (38 + b)) hx hb hml hown hg hP hD hK hS hA hnw hgk (x_bclear3 l D ks H.size ad kk V2 L Z (b) hMV2 (show b < 2 from by omega)) w762 w763 w764 w167 w765 rfl (xgBook hb2) hdV_yX0_clear ⟨Nat.le_of_ble_eq_true rfl, Nat.le_of_ble_eq_true rfl⟩ rfl hl.1 rfl (Nat.le_of_ble_eq_true rfl) dX1_read_9 ⟨Nat.le_of_ble_eq_true rfl, Nat.le_of_ble_eq_true rfl⟩) hP hD hK hS hA (fun u6 H locs w7 hP hD hK hS => ?_)
  obtain ⟨V15, L16⟩ := u6
  obtain ⟨hMV15, ajV15, axL16, t8, t9, t10, t11, t12, t13, t14⟩ := w7
  have axL16 : L = L16 := Eq.symm axL16
  subst axL16
  have hP : va_P D vwCl (xw ad kk V15 L Z) H := hP
  have hD : va_D A (xw ad kk V15 L Z) := hD
  have hMV15 : rgd bX V15 := hMV15
  have ajV15 : agr [] [41, 42, 43] V2 V15 := ajV15
  have agV15 : agr [(1, 1), (1, 2), (1, 3), (1, 4), (1, 6), (1, 7), (1, 8), (6, 6), (6, 7), (6, 8), (6, 9), (6, 10)] [12, 13, 14, 41, 42, 43, 44, 45, 46, 47, 48, 49, 50, 51, 52, 53, 54, 55, 56, 57, 58, 59, 60, 61, 62, 63, 64, 65, 66] V V15 := agV2.tr ajV15 (by decide) (by decide)
  have t8 : (V15 42 b).toInt = 0 := t8
  have t9 : (V15 41 b).toInt = 0 := t9
  have t10 : (V15 43 (5 * b + 0)).toInt = 0 := t10
  have t11 : (V15 43 (5 * b + 1)).toInt = 0 := t11
  have t12 : (V15 43 (5 * b + 2)).toInt = 0 := t12
  have t13 : (V15 43 (5 * b + 3)).toInt = 0 := t13
  have t14 : (V15 43 (5 * b + 4)).toInt = 0 := t14
  refine lv_aload_n hx hb dX1_read_12 rfl (lv_at hl 0 rfl) ?_
  refine lv_null hx hb dX1_read_13 ?_
  refine va_put (D := D) (ci := 1) (v := .null) (ty := tyX1 2) (fs := (xfReader ad V15 L Z)) (C := RX1) (T := TX1) (N := 9) hx hb hg inX1 tyX1 tyX1_ok nmX1 hown hK hP hD hS 1 xgReader rfl 2 (by decide) (hg _ w306) (fun _ h9 => h9) rfl (tyX1_ok 2 (by decide)) rfl rfl (Nat.le_of_ble_eq_true rfl) dX1_read_14 (fun H locs hP hD hS => ?_)
  obtain ⟨V17, hV17⟩ : ∃ z, z = up2 V15 1 2 (-1) := ⟨_, rfl⟩
  have ew18 : (xw ad kk V15 L Z).set 1 ((ad 1), .inr (1, (xfReader ad V15 L Z).set 2 (.null))) = xw ad kk V17 L Z := by rw [hV17]; exact xr_owner_n
  have hP : va_P D vwCl (xw ad kk V17 L Z) H := by rw [← ew18]; exact hP
  have hD : va_D A (xw ad kk V17 L Z) := by rw [← ew18]; exact hD
  have hMV17 : rgd bX V17 := hMV15.put hV17 (by decide)
  have agV17 : agr [(1, 1), (1, 2), (1, 3), (1, 4), (1, 6), (1, 7), (1, 8), (6, 6), (6, 7), (6, 8), (6, 9), (6, 10)] [12, 13, 14, 41, 42, 43, 44, 45, 46, 47, 48, 49, 50, 51, 52, 53, 54, 55, 56, 57, 58, 59, 60, 61, 62, 63, 64, 65, 66] V V17 := agV15.up hV17 rfl
  refine lv_aload_n hx hb dX1_read_17 rfl (lv_at hl 0 rfl) ?_
  refine lv_iconst (v := 0) hx hb dX1_read_18 (by decide) ?_
  refine va_put (D := D) (ci := 1) (v := .int 0) (ty := tyX1 3) (fs := (xfReader ad V17 L Z)) (C := RX1) (T := TX1) (N := 9) hx hb hg inX1 tyX1 tyX1_ok nmX1 hown hK hP hD hS 1 xgReader rfl 3 (by decide) (hg _ w307) (fun _ h9 => h9) rfl (tyX1_ok 3 (by decide)) rfl rfl (Nat.le_of_ble_eq_true rfl) dX1_read_19 (fun H locs hP hD hS => ?_)
  obtain ⟨V19, hV19⟩ : ∃ z, z = up2 V17 1 3 0 := ⟨_, rfl⟩
  have ew20 : (xw ad kk V17 L Z).set 1 ((ad 1), .inr (1, (xfReader ad V17 L Z).set 3 (.int 0))) = xw ad kk V19 L Z := by rw [hV19]; exact xw_ss (by decide) rfl (xb_si (by decide))
  have hP : va_P D vwCl (xw ad kk V19 L Z) H := by rw [← ew20]; exact hP
  have hD : va_D A (xw ad kk V19 L Z) := by rw [← ew20]; exact hD
  have hMV19 : rgd bX V19 := hMV17.put hV19 (i_full _)
  have agV19 : agr [(1, 1), (1, 2), (1, 3), (1, 4), (1, 6), (1, 7), (1, 8), (6, 6), (6, 7), (6, 8), (6, 9), (6, 10)] [12, 13, 14, 41, 42, 43, 44, 45, 46, 47, 48, 49, 50, 51, 52, 53, 54, 55, 56, 57, 58, 59, 60, 61, 62, 63, 64, 65, 66] V V19 := agV17.up hV19 rfl
  refine lv_aload_n hx hb dX1_read_22 rfl (lv_at hl 0 rfl) ?_
  refine va_get (D := D) (ci := 1) (v := .ref (ad 6)) (fs := (xfReader ad V19 L Z)) (C := RX1) (T := TX1) (N := 9) hx hb hg inX1 hown hK hP 1 xgReader rfl 0 (by decide) (hg _ w304) (fun _ h9 => h9) rfl dX1_read_23 ?_
  refine gA_void (gA_runV (As := []) (rest := []) (ci := 9) (q0 := 6) hx hb hml hown hg hP hD hK hS hA hnw hgk (x_begin2 l D ks H.size ad kk V19 L Z  hMV19 (by rw [show V19 6 5 = V 6 5 from ((up2_o hV19 (by decide)).trans ((up2_o hV17 (by decide)).trans ((ajV15 6 5 rfl).trans (up2_o hV2 (by decide))))), (by rw [(up2_fo hV19 (by decide) : V19 10 = V17 10), (up2_fo hV17 (by decide) : V17 10 = V15 10), (funext (fun q => ajV15 10 q rfl) : V15 10 = V2 10), (up2_fo hV2 (by decide) : V2 10 = V 10)] : V19 10 = V 10)]; exact bp1)) w766 w767 w768 w157 w769 rfl xgTape hdV_yX9_begin ⟨Nat.le_of_ble_eq_true rfl, Nat.le_of_ble_eq_true rfl⟩ rfl hl.1 rfl (Nat.le_of_ble_eq_true rfl) dX1_read_26 ⟨Nat.le_of_ble_eq_true rfl, Nat.le_of_ble_eq_true rfl⟩) hP hD hK hS hA (fun u22 H locs w23 hP hD hK hS => ?_)
  obtain ⟨V26, L27⟩ := u22
  obtain ⟨hMV26, ajV26, axL27, t24, t25⟩ := w23
  have alL27 : agL [1, 6, 14, 44] L L27 := agL.tr alL axL27 (by decide)
  have hP : va_P D vwCl (xw ad kk V26 L27 Z) H := hP
  have hD : va_D A (xw ad kk V26 L27 Z) := hD
  have hMV26 : rgd bX V26 := hMV26
  have ajV26 : agr [(6, 6), (6, 7), (6, 8), (6, 9), (6, 10)] [12, 13, 14] V19 V26 := ajV26
  have agV26 : agr [(1, 1), (1, 2), (1, 3), (1, 4), (1, 6), (1, 7), (1, 8), (6, 6), (6, 7), (6, 8), (6, 9), (6, 10)] [12, 13, 14, 41, 42, 43, 44, 45, 46, 47, 48, 49, 50, 51, 52, 53, 54, 55, 56, 57, 58, 59, 60, 61, 62, 63, 64, 65, 66] V V26 := agV19.tr ajV26 (by decide) (by decide)
  have t24 : (V26 6 8).toInt ≤ (V26 6 7).toInt := t24
  have t25 : CTE V19 L V26 L27 := t25
  have r28 : 0 ≤ ((V26 6 8)).toInt ∧ ((V26 6 8)).toInt ≤ 4000 := hMV26 6 8
  have r29 : 0 ≤ ((V26 6 7)).toInt ∧ ((V26 6 7)).toInt ≤ 4000 := hMV26 6 7
  obtain ⟨gT, hgT⟩ : ∃ T, T = tkOf V26 L27 := ⟨_, rfl⟩
  obtain ⟨gs, hgs⟩ : ∃ q9, q9 = St0 := ⟨_, rfl⟩
  have pq30 : (V26 43 (5 * b + 0)).toInt = ((V15 43 (5 * b + 0))).toInt := congrArg Int32.toInt ((ajV26 43 (5 * b + 0) rfl).trans ((up2_o hV19 (by decide)).trans (up2_o hV17 (by decide))))
  have r31 : 0 ≤ ((V15 43 (5 * b + 0))).toInt ∧ ((V15 43 (5 * b + 0))).toInt ≤ ((xcap (5 * b + 0) : Nat) : Int) := hMV15 43 (5 * b + 0)
  have r32 : xcap (5 * b + 0) = 24 := xcap_0
  have pq33 : (V26 43 (5 * b + 1)).toInt = ((V15 43 (5 * b + 1))).toInt := congrArg Int32.toInt ((ajV26 43 (5 * b + 1) rfl).trans ((up2_o hV19 (by decide)).trans (up2_o hV17 (by decide))))
  have r34 : 0 ≤ ((V15 43 (5 * b + 1))).toInt ∧ ((V15 43 (5 * b + 1))).toInt ≤ ((xcap (5 * b + 1) : Nat) : Int) := hMV15 43 (5 * b + 1)
  have r35 : xcap (5 * b + 1) = 12 := xcap_1
  have pq36 : (V26 43 (5 * b + 2)).toInt = ((V15 43 (5 * b + 2))).toInt := congrArg Int32.toInt ((ajV26 43 (5 * b + 2) rfl).trans ((up2_o hV19 (by decide)).trans (up2_o hV17 (by decide))))
  have r37 : 0 ≤ ((V15 43 (5 * b + 2))).toInt ∧ ((V15 43 (5 * b + 2))).toInt ≤ ((xcap (5 * b + 2) : Nat) : Int) := hMV15 43 (5 * b + 2)
  have r38 : xcap (5 * b + 2) = 24 := xcap_2
  have pq39 : (V26 43 (5 * b + 3)).toInt = ((V15 43 (5 * b + 3))).toInt := congrArg Int32.toInt ((ajV26 43 (5 * b + 3) rfl).trans ((up2_o hV19 (by decide)).trans (up2_o hV17 (by decide))))
  have r40 : 0 ≤ ((V15 43 (5 * b + 3))).toInt ∧ ((V15 43 (5 * b + 3))).toInt ≤ ((xcap (5 * b + 3) : Nat) : Int) := hMV15 43 (5 * b + 3)
  have r41 : xcap (5 * b + 3) = 20 := xcap_3
  have pq42 : (V26 43 (5 * b + 4)).toInt = ((V15 43 (5 * b + 4))).toInt := congrArg Int32.toInt ((ajV26 43 (5 * b + 4) rfl).trans ((up2_o hV19 (by decide)).trans (up2_o hV17 (by decide))))
  have r43 : 0 ≤ ((V15 43 (5 * b + 4))).toInt ∧ ((V15 43 (5 * b + 4))).toInt ≤ ((xcap (5 * b + 4) : Nat) : Int) := hMV15 43 (5 * b + 4)
  have r44 : xcap (5 * b + 4) = 20 := xcap_4
  have pq45 : (V26 41 b).toInt = ((V15 41 b)).toInt := congrArg Int32.toInt ((ajV26 41 b rfl).trans ((up2_o hV19 (by decide)).trans (up2_o hV17 (by decide))))
  have r46 : 0 ≤ ((V15 41 b)).toInt ∧ ((V15 41 b)).toInt ≤ 12 := hMV15 41 b
  have pq47 : (V26 1 2).toInt = (-1) := (congrArg Int32.toInt ((ajV26 1 2 rfl).trans ((up2_k hV19 (by decide)).trans (up2_s hV17)))).trans (by decide)
  have pq48 : (V26 1 3).toInt = 0 := (congrArg Int32.toInt ((ajV26 1 3 rfl).trans (up2_s hV19))).trans (by decide)
  have rl0 : RelC V26 L27 b gT gs := by rw [hgT, hgs]; exact RelC.z t25.2.2.2.2 t25.2.2.1 (by omega) (by rw [(show agr [(1, 2), (1, 3), (6, 6), (6, 7), (6, 8), (6, 9), (6, 10)] [12, 13, 14] V15 V26 from (agr.tr (agr.up (agr.up agr.rf hV17 rfl) hV19 rfl) ajV26 (by decide) (by decide))) 43 _ rfl]; exact t10) (by rw [(show agr [(1, 2), (1, 3), (6, 6), (6, 7), (6, 8), (6, 9), (6, 10)] [12, 13, 14] V15 V26 from (agr.tr (agr.up (agr.up agr.rf hV17 rfl) hV19 rfl) ajV26 (by decide) (by decide))) 43 _ rfl]; exact t11) (by rw [(show agr [(1, 2), (1, 3), (6, 6), (6, 7), (6, 8), (6, 9), (6, 10)] [12, 13, 14] V15 V26 from (agr.tr (agr.up (agr.up agr.rf hV17 rfl) hV19 rfl) ajV26 (by decide) (by decide))) 43 _ rfl]; exact t12) (by rw [(show agr [(1, 2), (1, 3), (6, 6), (6, 7), (6, 8), (6, 9), (6, 10)] [12, 13, 14] V15 V26 from (agr.tr (agr.up (agr.up agr.rf hV17 rfl) hV19 rfl) ajV26 (by decide) (by decide))) 43 _ rfl]; exact t13) (by rw [(show agr [(1, 2), (1, 3), (6, 6), (6, 7), (6, 8), (6, 9), (6, 10)] [12, 13, 14] V15 V26 from (agr.tr (agr.up (agr.up agr.rf hV17 rfl) hV19 rfl) ajV26 (by decide) (by decide))) 43 _ rfl]; exact t14) (by rw [(show agr [(1, 2), (1, 3), (6, 6), (6, 7), (6, 8), (6, 9), (6, 10)] [12, 13, 14] V15 V26 from (agr.tr (agr.up (agr.up agr.rf hV17 rfl) hV19 rfl) ajV26 (by decide) (by decide))) 41 _ rfl]; exact t9) (by omega)
  have cx0 : CTx V L V26 L27 := CTE.x t25 (Eq.symm (by rw [(up2_fo hV19 (by decide) : V19 10 = V17 10), (up2_fo hV17 (by decide) : V17 10 = V15 10), (funext (fun q => ajV15 10 q rfl) : V15 10 = V2 10), (up2_fo hV2 (by decide) : V2 10 = V 10)] : V19 10 = V 10)) (show V 6 5 = V19 6 5 from (((up2_o hV19 (by decide)).trans ((up2_o hV17 (by decide)).trans ((ajV15 6 5 rfl).trans (up2_o hV2 (by decide)))))).symm) rfl
  refine lv_iconst (v := 0) hx hb dX1_read_29 (by decide) ?_
  refine lv_istore_n (lv' := [(2, .int 0), (0, .ref (ad 1)), (1, .ref (ad (38 + b)))]) hx hb dX1_read_30 rfl hl (by decide) rfl (fun ls hl => ?_)
  have lp52 : ∀ (fulp52 : Nat) (y49 : Int32) (V50 : Vf) (L51 : Lf) (H : Heap) (locs : List Loc) (ls : Array Slot), 0 ≤ y49.toInt ∧ y49.toInt ≤ 4000 → (∃ s1 : St, (∀ k, Rc gT (Crun gs (Istmt :: k)) (Crun s1 (nxI (V50 1 2) k))) ∧ RelC V50 L51 b gT s1 ∧ CTx V L V50 L51 ∧ y49.toInt ≤ ((s1.1 0 : Nat) : Int)) → ((V50 1 2).toInt = -1 ∨ (24 * (b : Int) ≤ (V50 1 2).toInt ∧ (V50 1 2).toInt < 24 * (b : Int) + 24)) → (V50 1 1).toInt = (b : Int) → 4000 - y49.toInt < (fulp52 : Int) → agL [1, 6, 14, 44] L L51 → agr [(1, 2), (1, 3), (1, 4), (1, 6), (1, 7), (1, 8), (6, 8), (6, 9), (6, 10)] [41, 42, 43, 44, 45, 46, 47, 48, 49, 50, 51, 52, 53, 54, 55, 56, 57, 58, 59, 60, 61, 62, 63, 64, 65, 66] V26 V50 → rgd bX V50 → va_P D vwCl (xw ad kk V50 L51 Z) H → va_D A (xw ad kk V50 L51 Z) → va_S A s.heap H locs → lv_has ls 4 [(2, .int y49), (0, .ref (ad 1)), (1, .ref (ad (38 + b)))] → W p l e r_x_read3 s m ([.ref (ad 1), .ref (ad (38 + b))] : List Value).toArray below meth c H locs 0 0 (MQ below (q_x_read3 D ks ad kk V L Z  b A) ([.ref (ad 1), .ref (ad (38 + b))] : List Value).toArray s 0 0 A) (F0 m 31 ls []) := by
    intro fulp52
    induction fulp52 with
    | zero =>
      intro y49 V50 L51 H locs ls klp52_0 xlp52_0 xlp52_1 xlp52_2 hn alL51 ajV50 hMV50 hP hD hS hl
      exfalso; omega
    | succ fulp52 ihlp52 =>
      intro y49 V50 L51 H locs ls klp52_0 xlp52_0 xlp52_1 xlp52_2 hn alL51 ajV50 hMV50 hP hD hS hl
      have agV50 : agr [(1, 1), (1, 2), (1, 3), (1, 4), (1, 6), (1, 7), (1, 8), (6, 6), (6, 7), (6, 8), (6, 9), (6, 10)] [12, 13, 14, 41, 42, 43, 44, 45, 46, 47, 48, 49, 50, 51, 52, 53, 54, 55, 56, 57, 58, 59, 60, 61, 62, 63, 64, 65, 66] V V50 := agV26.tr ajV50 (by decide) (by decide)
      have pq53 : (V50 1 1).toInt = ((nI b)).toInt := congrArg Int32.toInt ((ajV50 1 1 rfl).trans ((ajV26 1 1 rfl).trans ((up2_k hV19 (by decide)).trans ((up2_k hV17 (by decide)).trans ((ajV15 1 1 rfl).trans (up2_s hV2))))))
      refine lv_iload_n hx hb dX1_read_31 rfl (lv_at hl 0 rfl) ?_
      obtain ⟨s1, hq, rq, cq, iq⟩ := xlp52_0
      refine lv_sipush (v := 4000) hx hb dX1_read_32 (by decide) ?_
      refine lv_icmp_ge (tgt := 82) hx hb dX1_read_35 (by decide) (fun c54 => ?_) (fun c54 => ?_)
      · skip
        have f55 : 4000 ≤ y49.toInt := b_le (by decide) rfl c54
        have kd56 : gT.1 (s1.1 0) = ((V50 6 9)).toInt := RelC.kd rq
        have kz57 : gT.1 (s1.1 0) = 0 := RelC.e4 rq (show 0 ≤ (V50 6 7).toInt ∧ (V50 6 7).toInt ≤ 4000 from hMV50 6 7).2 (by omega)
        by_cases hon : (V50 1 2).toInt < 0
        · skip
          have ow1 : (V50 1 2).toInt = -1 := by omega
          refine lv_aload_n hx hb dX1_read_82 rfl (lv_at hl 1 rfl) ?_
          refine va_get (D := D) (ci := 1) (v := rfN ad 72 (V50 1 2)) (fs := (xfReader ad V50 L51 Z)) (C := RX1) (T := TX1) (N := 9) hx hb hg inX1 hown hK hP 1 xgReader rfl 2 (by decide) (hg _ w306) (fun _ h9 => h9) rfl dX1_read_83 ?_
          have r58 : (-1) ≤ ((V50 1 2)).toInt ∧ ((V50 1 2)).toInt ≤ 47 := hMV50 1 2
          refine g_topv (v := .null) (rfN_n (by omega)) ?_
          refine lv_ifnullN (tgt := 95) hx hb dX1_read_86 (by decide) ?_
          refine lv_aload_n hx hb dX1_read_95 rfl (lv_at hl 1 rfl) ?_
          refine va_get (D := D) (ci := 1) (v := .int (V50 1 3)) (fs := (xfReader ad V50 L51 Z)) (C := RX1) (T := TX1) (N := 9) hx hb hg inX1 hown hK hP 1 xgReader rfl 3 (by decide) (hg _ w307) (fun _ h9 => h9) rfl dX1_read_96 ?_
          have f0 := rq.2.1.2.2.2.2
          exact W.iret (v := (V50 1 3)) hx hb hr (fun t ht hW => ⟨⟨(V50 1 3), (V50, L51), rfl, ⟨hMV50, agV50, alL51, cq, (by rw [← rq.tk]; unfold BRES; rw [← hgs]; exact Or.inl ⟨by omega, s1, (by have h9 := hq []; rw [nxI_s (show (V50 1 2).toInt < 0 from by omega)] at h9; exact h9.go1 (st_0 kz57)), rq.2.2.1⟩)⟩, by rw [ht]; exact hP, va_K.moved hW.alike hK, hD⟩, hS.F ht⟩) hS.2.2 dX1_read_99
        · skip
          have ko := i_clamp (x := V50 1 2) rfl (by omega)
          refine lv_aload_n hx hb dX1_read_82 rfl (lv_at hl 1 rfl) ?_
          refine va_get (D := D) (ci := 1) (v := rfN ad 72 (V50 1 2)) (fs := (xfReader ad V50 L51 Z)) (C := RX1) (T := TX1) (N := 9) hx hb hg inX1 hown hK hP 1 xgReader rfl 2 (by decide) (hg _ w306) (fun _ h9 => h9) rfl dX1_read_83 ?_
          have r59 : (-1) ≤ ((V50 1 2)).toInt ∧ ((V50 1 2)).toInt ≤ 47 := hMV50 1 2
          refine g_topv (v := .ref (ad (72 + (Int32.toNatClampNeg (V50 1 2))))) (rfN_r (by omega)) ?_
          refine lv_ifnull hx hb dX1_read_86 ?_
          refine lv_aload_n hx hb dX1_read_89 rfl (lv_at hl 1 rfl) ?_
          refine lv_iconst (v := 1) hx hb dX1_read_90 (by decide) ?_
          have r60 : Int32.toInt 1 = 1 := by decide
          refine gA_int (gA_runV (As := [.int 1]) (rest := []) (ci := 1) (q0 := 1) hx hb hml hown hg hP hD hK hS hA hnw hgk (x_wrong2 l D ks H.size ad kk V50 L51 Z 1 hMV50 (by decide)) w867 w869 w6 w162 w870 rfl xgReader hdV_yX1_wrong ⟨Nat.le_of_ble_eq_true rfl, Nat.le_of_ble_eq_true rfl⟩ rfl hl.1 rfl (Nat.le_of_ble_eq_true rfl) dX1_read_91 ⟨Nat.le_of_ble_eq_true rfl, Nat.le_of_ble_eq_true rfl⟩) hP hD hK hS hA (fun z61 u62 H locs w63 hP hD hK hS => ?_)
          obtain ⟨V66, L67⟩ := u62
          obtain ⟨hMV66, ajV66, axL67, rgz61, t64, t65⟩ := w63
          have axL67 : L51 = L67 := Eq.symm axL67
          subst axL67
          have hP : va_P D vwCl (xw ad kk V66 L51 Z) H := hP
          have hD : va_D A (xw ad kk V66 L51 Z) := hD
          have hMV66 : rgd bX V66 := hMV66
          have ajV66 : agr [(1, 3)] [] V50 V66 := ajV66
          have agV66 : agr [(1, 1), (1, 2), (1, 3), (1, 4), (1, 6), (1, 7), (1, 8), (6, 6), (6, 7), (6, 8), (6, 9), (6, 10)] [12, 13, 14, 41, 42, 43, 44, 45, 46, 47, 48, 49, 50, 51, 52, 53, 54, 55, 56, 57, 58, 59, 60, 61, 62, 63, 64, 65, 66] V V66 := agV50.tr ajV66 (by decide) (by decide)
          have rgz61 : 0 ≤ z61.toInt ∧ z61.toInt ≤ 0 := rgz61
          have t64 : 1 ≤ (V66 1 3).toInt := t64
          have t65 : (V66 1 3).toInt = (Int32.toInt 1) + 16 * (V50 6 10).toInt := t65
          have r68 : 0 ≤ ((V50 6 10)).toInt ∧ ((V50 6 10)).toInt ≤ 4000 := hMV50 6 10
          refine lv_pop hx hb dX1_read_94 rfl ?_
          refine lv_aload_n hx hb dX1_read_95 rfl (lv_at hl 1 rfl) ?_
          refine va_get (D := D) (ci := 1) (v := .int (V66 1 3)) (fs := (xfReader ad V66 L51 Z)) (C := RX1) (T := TX1) (N := 9) hx hb hg inX1 hown hK hP 1 xgReader rfl 3 (by decide) (hg _ w307) (fun _ h9 => h9) rfl dX1_read_96 ?_
          have cx69 : CTx V L V66 L51 := CTx.ag cq (ajV66 6 7 rfl) (ajV66 6 6 rfl) (funext fun q9 => ajV66 12 q9 rfl) (funext fun q9 => ajV66 13 q9 rfl) rfl
          have hb70 : Rc gT (Crun gs [Istmt]) (Cbad (V66 1 3).toInt) := (by have h9 := hq []; rw [nxI_m (show 0 ≤ (V50 1 2).toInt from by omega)] at h9; exact h9.go1 ((mb_x (fun h8 => absurd (h8.symm.trans kz57) (by decide)) (fun h8 => absurd (h8.symm.trans kz57) (by decide)) (fun h8 => absurd (h8.symm.trans kz57) (by decide)) (fun h8 => absurd (h8.symm.trans kz57) (by decide)) (fun h8 => absurd (h8.symm.trans kz57) (by decide))).trans (fl_eq (RelC.st rq) (show (V66 1 3).toInt = 1 + 16 * (V50 6 10).toInt from by omega))))
          exact W.iret (v := (V66 1 3)) hx hb hr (fun t ht hW => ⟨⟨(V66 1 3), (V66, L51), rfl, ⟨hMV66, agV66, alL51, cx69, (by have e1 : tkOf V66 L51 = gT := (by rw [rq.tk]; unfold tkOf; rw [(by rw [(funext (fun q => ajV66 12 q rfl) : V66 12 = V50 12)] : V66 12 = V50 12), (by rw [(funext (fun q => ajV66 13 q rfl) : V66 13 = V50 13)] : V66 13 = V50 13), (rfl : L51 14 = L51 14)]); rw [e1]; unfold BRES; rw [← hgs]; exact Or.inr hb70)⟩, by rw [ht]; exact hP, va_K.moved hW.alike hK, hD⟩, hS.F ht⟩) hS.2.2 dX1_read_99
      · skip
        have f71 : y49.toInt < 4000 := b_nle (by decide) rfl c54
        refine lv_aload_n hx hb dX1_read_38 rfl (lv_at hl 1 rfl) ?_
        refine va_get (D := D) (ci := 1) (v := .ref (ad 6)) (fs := (xfReader ad V50 L51 Z)) (C := RX1) (T := TX1) (N := 9) hx hb hg inX1 hown hK hP 1 xgReader rfl 0 (by decide) (hg _ w304) (fun _ h9 => h9) rfl dX1_read_39 ?_
        refine va_getN (D := D) (ci := 9) (v := .int (V50 6 9)) (fs := (xfTape ad V50 L51 Z)) (C := RX9) (T := TX9) (N := 12) hx hb hg inX9 hown hK hP 6 xgTape rfl 9 (by decide) (hnw.use 262 n262 rfl) (fun _ h9 => h9) rfl dX1_read_42 ?_
        refine lv_if_eq (tgt := 82) hx hb dX1_read_45 (by decide) (fun c72 => ?_) (fun c72 => ?_)
        · skip
          have f73 : ((V50 6 9)).toInt = 0 := b_eq rfl (by decide) c72
          have kd74 : gT.1 (s1.1 0) = ((V50 6 9)).toInt := RelC.kd rq
          by_cases hon : (V50 1 2).toInt < 0
          · skip
            have ow1 : (V50 1 2).toInt = -1 := by omega
            refine lv_aload_n hx hb dX1_read_82 rfl (lv_at hl 1 rfl) ?_
            refine va_get (D := D) (ci := 1) (v := rfN ad 72 (V50 1 2)) (fs := (xfReader ad V50 L51 Z)) (C := RX1) (T := TX1) (N := 9) hx hb hg inX1 hown hK hP 1 xgReader rfl 2 (by decide) (hg _ w306) (fun _ h9 => h9) rfl dX1_read_83 ?_
            have r75 : (-1) ≤ ((V50 1 2)).toInt ∧ ((V50 1 2)).toInt ≤ 47 := hMV50 1 2
            refine g_topv (v := .null) (rfN_n (by omega)) ?_
            refine lv_ifnullN (tgt := 95) hx hb dX1_read_86 (by decide) ?_
            refine lv_aload_n hx hb dX1_read_95 rfl (lv_at hl 1 rfl) ?_
            refine va_get (D := D) (ci := 1) (v := .int (V50 1 3)) (fs := (xfReader ad V50 L51 Z)) (C := RX1) (T := TX1) (N := 9) hx hb hg inX1 hown hK hP 1 xgReader rfl 3 (by decide) (hg _ w307) (fun _ h9 => h9) rfl dX1_read_96 ?_
            have f0 := rq.2.1.2.2.2.2
            exact W.iret (v := (V50 1 3)) hx hb hr (fun t ht hW => ⟨⟨(V50 1 3), (V50, L51), rfl, ⟨hMV50, agV50, alL51, cq, (by rw [← rq.tk]; unfold BRES; rw [← hgs]; exact Or.inl ⟨by omega, s1, (by have h9 := hq []; rw [nxI_s (show (V50 1 2).toInt < 0 from by omega)] at h9; exact h9.go1 (st_0 (kd74.trans f73))), rq.2.2.1⟩)⟩, by rw [ht]; exact hP, va_K.moved hW.alike hK, hD⟩, hS.F ht⟩) hS.2.2 dX1_read_99
          · skip
            have ko := i_clamp (x := V50 1 2) rfl (by omega)
            refine lv_aload_n hx hb dX1_read_82 rfl (lv_at hl 1 rfl) ?_
            refine va_get (D := D) (ci := 1) (v := rfN ad 72 (V50 1 2)) (fs := (xfReader ad V50 L51 Z)) (C := RX1) (T := TX1) (N := 9) hx hb hg inX1 hown hK hP 1 xgReader rfl 2 (by decide) (hg _ w306) (fun _ h9 => h9) rfl dX1_read_83 ?_
            have r76 : (-1) ≤ ((V50 1 2)).toInt ∧ ((V50 1 2)).toInt ≤ 47 := hMV50 1 2
            refine g_topv (v := .ref (ad (72 + (Int32.toNatClampNeg (V50 1 2))))) (rfN_r (by omega)) ?_
            refine lv_ifnull hx hb dX1_read_86 ?_
            refine lv_aload_n hx hb dX1_read_89 rfl (lv_at hl 1 rfl) ?_
            refine lv_iconst (v := 1) hx hb dX1_read_90 (by decide) ?_
            have r77 : Int32.toInt 1 = 1 := by decide
            refine gA_int (gA_runV (As := [.int 1]) (rest := []) (ci := 1) (q0 := 1) hx hb hml hown hg hP hD hK hS hA hnw hgk (x_wrong2 l D ks H.size ad kk V50 L51 Z 1 hMV50 (by decide)) w867 w869 w6 w162 w870 rfl xgReader hdV_yX1_wrong ⟨Nat.le_of_ble_eq_true rfl, Nat.le_of_ble_eq_true rfl⟩ rfl hl.1 rfl (Nat.le_of_ble_eq_true rfl) dX1_read_91 ⟨Nat.le_of_ble_eq_true rfl, Nat.le_of_ble_eq_true rfl⟩) hP hD hK hS hA (fun z78 u79 H locs w80 hP hD hK hS => ?_)
            obtain ⟨V83, L84⟩ := u79
            obtain ⟨hMV83, ajV83, axL84, rgz78, t81, t82⟩ := w80
            have axL84 : L51 = L84 := Eq.symm axL84
            subst axL84
            have hP : va_P D vwCl (xw ad kk V83 L51 Z) H := hP
            have hD : va_D A (xw ad kk V83 L51 Z) := hD
            have hMV83 : rgd bX V83 := hMV83
            have ajV83 : agr [(1, 3)] [] V50 V83 := ajV83
            have agV83 : agr [(1, 1), (1, 2), (1, 3), (1, 4), (1, 6), (1, 7), (1, 8), (6, 6), (6, 7), (6, 8), (6, 9), (6, 10)] [12, 13, 14, 41, 42, 43, 44, 45, 46, 47, 48, 49, 50, 51, 52, 53, 54, 55, 56, 57, 58, 59, 60, 61, 62, 63, 64, 65, 66] V V83 := agV50.tr ajV83 (by decide) (by decide)
            have rgz78 : 0 ≤ z78.toInt ∧ z78.toInt ≤ 0 := rgz78
            have t81 : 1 ≤ (V83 1 3).toInt := t81
            have t82 : (V83 1 3).toInt = (Int32.toInt 1) + 16 * (V50 6 10).toInt := t82
            have r85 : 0 ≤ ((V50 6 10)).toInt ∧ ((V50 6 10)).toInt ≤ 4000 := hMV50 6 10
            refine lv_pop hx hb dX1_read_94 rfl ?_
            refine lv_aload_n hx hb dX1_read_95 rfl (lv_at hl 1 rfl) ?_
            refine va_get (D := D) (ci := 1) (v := .int (V83 1 3)) (fs := (xfReader ad V83 L51 Z)) (C := RX1) (T := TX1) (N := 9) hx hb hg inX1 hown hK hP 1 xgReader rfl 3 (by decide) (hg _ w307) (fun _ h9 => h9) rfl dX1_read_96 ?_
            have cx86 : CTx V L V83 L51 := CTx.ag cq (ajV83 6 7 rfl) (ajV83 6 6 rfl) (funext fun q9 => ajV83 12 q9 rfl) (funext fun q9 => ajV83 13 q9 rfl) rfl
            have hb87 : Rc gT (Crun gs [Istmt]) (Cbad (V83 1 3).toInt) := (by have h9 := hq []; rw [nxI_m (show 0 ≤ (V50 1 2).toInt from by omega)] at h9; exact h9.go1 ((mb_x (fun h8 => absurd (h8.symm.trans (kd74.trans f73)) (by decide)) (fun h8 => absurd (h8.symm.trans (kd74.trans f73)) (by decide)) (fun h8 => absurd (h8.symm.trans (kd74.trans f73)) (by decide)) (fun h8 => absurd (h8.symm.trans (kd74.trans f73)) (by decide)) (fun h8 => absurd (h8.symm.trans (kd74.trans f73)) (by decide))).trans (fl_eq (RelC.st rq) (show (V83 1 3).toInt = 1 + 16 * (V50 6 10).toInt from by omega))))
            exact W.iret (v := (V83 1 3)) hx hb hr (fun t ht hW => ⟨⟨(V83 1 3), (V83, L51), rfl, ⟨hMV83, agV83, alL51, cx86, (by have e1 : tkOf V83 L51 = gT := (by rw [rq.tk]; unfold tkOf; rw [(by rw [(funext (fun q => ajV83 12 q rfl) : V83 12 = V50 12)] : V83 12 = V50 12), (by rw [(funext (fun q => ajV83 13 q rfl) : V83 13 = V50 13)] : V83 13 = V50 13), (rfl : L51 14 = L51 14)]); rw [e1]; unfold BRES; rw [← hgs]; exact Or.inr hb87)⟩, by rw [ht]; exact hP, va_K.moved hW.alike hK, hD⟩, hS.F ht⟩) hS.2.2 dX1_read_99
        · skip
          have f88 : ((V50 6 9)).toInt ≠ 0 := b_neq rfl (by decide) c72
          by_cases hon : (V50 1 2).toInt < 0
          · skip
            have ow1 : (V50 1 2).toInt = -1 := by omega
            refine lv_aload_n hx hb dX1_read_48 rfl (lv_at hl 1 rfl) ?_
            refine va_get (D := D) (ci := 1) (v := rfN ad 72 (V50 1 2)) (fs := (xfReader ad V50 L51 Z)) (C := RX1) (T := TX1) (N := 9) hx hb hg inX1 hown hK hP 1 xgReader rfl 2 (by decide) (hg _ w306) (fun _ h9 => h9) rfl dX1_read_49 ?_
            have r89 : (-1) ≤ ((V50 1 2)).toInt ∧ ((V50 1 2)).toInt ≤ 47 := hMV50 1 2
            refine g_topv (v := .null) (rfN_n (by omega)) ?_
            refine lv_ifnonnullN hx hb dX1_read_52 ?_
            refine lv_aload_n hx hb dX1_read_55 rfl (lv_at hl 1 rfl) ?_
            refine gA_int (gA_runV (As := []) (rest := []) (ci := 1) (q0 := 1) hx hb hml hown hg hP hD hK hS hA hnw hgk (x_readStatement3 l D ks H.size ad kk V50 L51 Z (b) (gT) (s1) hMV50 (show b < 2 from by omega) (show (V50 1 1).toInt = (b : Int) from by omega) (show (V50 1 2).toInt = -1 from by omega) rq (show (V50 6 9).toInt ≠ 0 from by omega)) w855 w857 w4 w162 w858 rfl xgReader hdV_yX1_readStatement ⟨Nat.le_of_ble_eq_true rfl, Nat.le_of_ble_eq_true rfl⟩ rfl hl.1 rfl (Nat.le_of_ble_eq_true rfl) dX1_read_56 ⟨Nat.le_of_ble_eq_true rfl, Nat.le_of_ble_eq_true rfl⟩) hP hD hK hS hA (fun z90 u91 H locs w92 hP hD hK hS => ?_)
            obtain ⟨V95, L96⟩ := u91
            obtain ⟨hMV95, ajV95, axL96, rgz90, t93, t94⟩ := w92
            have alL96 : agL [1, 6, 14, 44] L L96 := agL.tr alL51 axL96 (by decide)
            have hP : va_P D vwCl (xw ad kk V95 L96 Z) H := hP
            have hD : va_D A (xw ad kk V95 L96 Z) := hD
            have hMV95 : rgd bX V95 := hMV95
            have ajV95 : agr [(1, 2), (1, 3), (1, 4), (1, 6), (1, 7), (1, 8), (6, 8), (6, 9), (6, 10)] [41, 42, 43, 44, 45, 46, 47, 48, 49, 50, 51, 52, 53, 54, 55, 56, 57, 61, 62, 63, 64, 65, 66] V50 V95 := ajV95
            have agV95 : agr [(1, 1), (1, 2), (1, 3), (1, 4), (1, 6), (1, 7), (1, 8), (6, 6), (6, 7), (6, 8), (6, 9), (6, 10)] [12, 13, 14, 41, 42, 43, 44, 45, 46, 47, 48, 49, 50, 51, 52, 53, 54, 55, 56, 57, 58, 59, 60, 61, 62, 63, 64, 65, 66] V V95 := agV50.tr ajV95 (by decide) (by decide)
            have rgz90 : 0 ≤ z90.toInt ∧ z90.toInt ≤ 1 := rgz90
            have t93 : Imp (z90.toInt = 1) ((V95 1 2).toInt = -1 ∨ (24 * (b : Int) ≤ (V95 1 2).toInt ∧ (V95 1 2).toInt < 24 * (b : Int) + 24)) := t93
            have t94 : Rd gT s1 (fun k => Istmt :: k) (fun k => nxI (V95 1 2) k) z90.toInt (V95 1 3).toInt (fun s9 => RelC V95 L96 b gT s9 ∧ s1.1 0 + 1 ≤ s9.1 0) := t94
            have r97 : (-1) ≤ ((V95 1 2)).toInt ∧ ((V95 1 2)).toInt ≤ 47 := hMV95 1 2
            rcases t94 with ⟨q98, sx99, h100, rl101, kp102⟩ | ⟨q98, h100⟩
            · skip
              have hr103 : ∀ k, Rc gT (Crun gs (Istmt :: k)) (Crun sx99 (nxI (V95 1 2) k)) := fun k => (by have h9 := hq k; rw [nxI_s (show (V50 1 2).toInt < 0 from by omega)] at h9; exact h9.tr (h100 k))
              have hp9 := kp102
              have cx104 : CTx V L V95 L96 := CTx.ag cq (ajV95 6 7 rfl) (ajV95 6 6 rfl) (funext fun q9 => ajV95 12 q9 rfl) (funext fun q9 => ajV95 13 q9 rfl) (funext fun q9 => axL96 14 q9 rfl)
              refine lv_goto (tgt := 66) hx hb dX1_read_59 (by decide) ?_
              refine lv_istore_n (lv' := [(3, .int z90), (2, .int y49), (0, .ref (ad 1)), (1, .ref (ad (38 + b)))]) hx hb dX1_read_66 rfl hl (by decide) rfl (fun ls hl => ?_)
              refine lv_iload_n hx hb dX1_read_67 rfl (lv_at hl 0 rfl) ?_
              refine lv_if_ne (tgt := 76) hx hb dX1_read_68 (by decide) (fun c105 => ?_) (fun c105 => ?_)
              · skip
                have f106 : z90.toInt ≠ 0 := b_neq rfl (by decide) c105
                obtain ⟨z107, ez107⟩ : ∃ y : Int32, y = y49 + 1 := ⟨_, rfl⟩
                have hz107 : z107.toInt = y49.toInt + 1 := i_add ez107 rfl (by decide) (by omega)
                refine lv_iinc (v := z107) (lv' := [(2, .int z107), (3, .int z90), (0, .ref (ad 1)), (1, .ref (ad (38 + b)))]) hx hb dX1_read_76 hl (k := 1) rfl (by rw [ez107]; rfl) (by decide) rfl (fun ls hl => ?_)
                refine lv_goto (tgt := 31) hx hb dX1_read_79 (by decide) ?_
                have pq108 : (V95 1 1).toInt = ((nI b)).toInt := congrArg Int32.toInt ((ajV95 1 1 rfl).trans ((ajV50 1 1 rfl).trans ((ajV26 1 1 rfl).trans ((up2_k hV19 (by decide)).trans ((up2_k hV17 (by decide)).trans ((ajV15 1 1 rfl).trans (up2_s hV2)))))))
                exact ihlp52 z107 V95 L96 H locs ls (by first | omega | ((try (have i_t93 := Imp.go t93 (by omega))); omega)) ⟨sx99, hr103, rl101, cx104, (by omega)⟩ (Imp.go t93 (by omega)) (show (V95 1 1).toInt = (b : Int) from by first | omega | ((try (have i_t93 := Imp.go t93 (by omega))); omega)) (by first | omega | ((try (have i_t93 := Imp.go t93 (by omega))); omega)) alL96 (agr.tr (agr.tr agr.rf ajV50 (by decide) (by decide)) ajV95 (by decide) (by decide)) hMV95 hP hD hS (lv_sub hl [0, 2, 3] rfl)
              · skip
                have f109 : z90.toInt = 0 := b_eq rfl (by decide) c105
                exfalso; first | omega | ((try (have i_t93 := Imp.go t93 (by omega))); omega)
            · skip
              have hb110 : Rc gT (Crun gs [Istmt]) (Cbad (V95 1 3).toInt) := (by have h9 := hq []; rw [nxI_s (show (V50 1 2).toInt < 0 from by omega)] at h9; exact h9.tr (h100 []))
              have cx111 : CTx V L V95 L96 := CTx.ag cq (ajV95 6 7 rfl) (ajV95 6 6 rfl) (funext fun q9 => ajV95 12 q9 rfl) (funext fun q9 => ajV95 13 q9 rfl) (funext fun q9 => axL96 14 q9 rfl)
              refine lv_goto (tgt := 66) hx hb dX1_read_59 (by decide) ?_
              refine lv_istore_n (lv' := [(3, .int z90), (2, .int y49), (0, .ref (ad 1)), (1, .ref (ad (38 + b)))]) hx hb dX1_read_66 rfl hl (by decide) rfl (fun ls hl => ?_)
              refine lv_iload_n hx hb dX1_read_67 rfl (lv_at hl 0 rfl) ?_
              refine lv_if_ne (tgt := 76) hx hb dX1_read_68 (by decide) (fun c112 => ?_) (fun c112 => ?_)
              · skip
                have f113 : z90.toInt ≠ 0 := b_neq rfl (by decide) c112
                exfalso; first | omega | ((try (have i_t93 := Imp.go t93 (by omega))); omega)
              · skip
                have f114 : z90.toInt = 0 := b_eq rfl (by decide) c112
                refine lv_aload_n hx hb dX1_read_71 rfl (lv_at hl 2 rfl) ?_
                refine va_get (D := D) (ci := 1) (v := .int (V95 1 3)) (fs := (xfReader ad V95 L96 Z)) (C := RX1) (T := TX1) (N := 9) hx hb hg inX1 hown hK hP 1 xgReader rfl 3 (by decide) (hg _ w307) (fun _ h9 => h9) rfl dX1_read_72 ?_
                exact W.iret (v := (V95 1 3)) hx hb hr (fun t ht hW => ⟨⟨(V95 1 3), (V95, L96), rfl, ⟨hMV95, agV95, alL96, cx111, (by have e1 : tkOf V95 L96 = gT := (by rw [rq.tk]; unfold tkOf; rw [(by rw [(funext (fun q => ajV95 12 q rfl) : V95 12 = V50 12)] : V95 12 = V50 12), (by rw [(funext (fun q => ajV95 13 q rfl) : V95 13 = V50 13)] : V95 13 = V50 13), (by rw [(funext (fun q => axL96 14 q rfl) : L96 14 = L51 14)] : L96 14 = L51 14)]); rw [e1]; unfold BRES; rw [← hgs]; exact Or.inr hb110)⟩, by rw [ht]; exact hP, va_K.moved hW.alike hK, hD⟩, hS.F ht⟩) hS.2.2 dX1_read_75
          · skip
            have ko := i_clamp (x := V50 1 2) rfl (by omega)
            refine lv_aload_n hx hb dX1_read_48 rfl (lv_at hl 1 rfl) ?_
            refine va_get (D := D) (ci := 1) (v := rfN ad 72 (V50 1 2)) (fs := (xfReader ad V50 L51 Z)) (C := RX1) (T := TX1) (N := 9) hx hb hg inX1 hown hK hP 1 xgReader rfl 2 (by decide) (hg _ w306) (fun _ h9 => h9) rfl dX1_read_49 ?_
            have r115 : (-1) ≤ ((V50 1 2)).toInt ∧ ((V50 1 2)).toInt ≤ 47 := hMV50 1 2
            refine g_topv (v := .ref (ad (72 + (Int32.toNatClampNeg (V50 1 2))))) (rfN_r (by omega)) ?_
            refine lv_ifnonnull (tgt := 62) hx hb dX1_read_52 (by decide) ?_
            refine lv_aload_n hx hb dX1_read_62 rfl (lv_at hl 1 rfl) ?_
            refine gA_int (gA_runV (As := []) (rest := []) (ci := 1) (q0 := 1) hx hb hml hown hg hP hD hK hS hA hnw hgk (x_readMember3 l D ks H.size ad kk V50 L51 Z (b) (gT) (s1) ((Int32.toNatClampNeg (V50 1 2))) hMV50 (show b < 2 from by omega) (show (V50 1 1).toInt = (b : Int) from by omega) (show (V50 1 2).toInt = ((Int32.toNatClampNeg (V50 1 2)) : Int) from by omega) (show (Int32.toNatClampNeg (V50 1 2)) < 48 from by omega) (show 24 * b ≤ (Int32.toNatClampNeg (V50 1 2)) from by omega) (show (Int32.toNatClampNeg (V50 1 2)) < 24 * b + 24 from by omega) rq) w1003 w1005 w31 w162 w1006 rfl xgReader hdV_yX1_readMember ⟨Nat.le_of_ble_eq_true rfl, Nat.le_of_ble_eq_true rfl⟩ rfl hl.1 rfl (Nat.le_of_ble_eq_true rfl) dX1_read_63 ⟨Nat.le_of_ble_eq_true rfl, Nat.le_of_ble_eq_true rfl⟩) hP hD hK hS hA (fun z116 u117 H locs w118 hP hD hK hS => ?_)
            obtain ⟨V121, L122⟩ := u117
            obtain ⟨hMV121, ajV121, axL122, rgz116, t119, t120⟩ := w118
            have alL122 : agL [1, 6, 14, 44] L L122 := agL.tr alL51 axL122 (by decide)
            have hP : va_P D vwCl (xw ad kk V121 L122 Z) H := hP
            have hD : va_D A (xw ad kk V121 L122 Z) := hD
            have hMV121 : rgd bX V121 := hMV121
            have ajV121 : agr [(1, 2), (1, 3), (1, 4), (1, 6), (1, 8), (6, 8), (6, 9), (6, 10)] [42, 43, 44, 48, 49, 56, 57, 58, 59, 60, 61] V50 V121 := ajV121
            have agV121 : agr [(1, 1), (1, 2), (1, 3), (1, 4), (1, 6), (1, 7), (1, 8), (6, 6), (6, 7), (6, 8), (6, 9), (6, 10)] [12, 13, 14, 41, 42, 43, 44, 45, 46, 47, 48, 49, 50, 51, 52, 53, 54, 55, 56, 57, 58, 59, 60, 61, 62, 63, 64, 65, 66] V V121 := agV50.tr ajV121 (by decide) (by decide)
            have rgz116 : 0 ≤ z116.toInt ∧ z116.toInt ≤ 1 := rgz116
            have t119 : (V121 1 2).toInt = (V50 1 2).toInt ∨ (V121 1 2).toInt = -1 := t119
            have t120 : Rd gT s1 (fun k => Imember :: k) (fun k => nxI (V121 1 2) k) z116.toInt (V121 1 3).toInt (fun s9 => RelC V121 L122 b gT s9 ∧ s1.1 0 + 1 ≤ s9.1 0) := t120
            have r123 : (-1) ≤ ((V121 1 2)).toInt ∧ ((V121 1 2)).toInt ≤ 47 := hMV121 1 2
            rcases t120 with ⟨q124, sx125, h126, rl127, kp128⟩ | ⟨q124, h126⟩
            · skip
              have hr129 : ∀ k, Rc gT (Crun gs (Istmt :: k)) (Crun sx125 (nxI (V121 1 2) k)) := fun k => (by have h9 := hq k; rw [nxI_m (show 0 ≤ (V50 1 2).toInt from by omega)] at h9; exact h9.tr (h126 k))
              have hp9 := kp128
              have cx130 : CTx V L V121 L122 := CTx.ag cq (ajV121 6 7 rfl) (ajV121 6 6 rfl) (funext fun q9 => ajV121 12 q9 rfl) (funext fun q9 => ajV121 13 q9 rfl) (funext fun q9 => axL122 14 q9 rfl)
              refine lv_istore_n (lv' := [(3, .int z116), (2, .int y49), (0, .ref (ad 1)), (1, .ref (ad (38 + b)))]) hx hb dX1_read_66 rfl hl (by decide) rfl (fun ls hl => ?_)
              refine lv_iload_n hx hb dX1_read_67 rfl (lv_at hl 0 rfl) ?_
              refine lv_if_ne (tgt := 76) hx hb dX1_read_68 (by decide) (fun c131 => ?_) (fun c131 => ?_)
              · skip
                have f132 : z116.toInt ≠ 0 := b_neq rfl (by decide) c131
                obtain ⟨z133, ez133⟩ : ∃ y : Int32, y = y49 + 1 := ⟨_, rfl⟩
                have hz133 : z133.toInt = y49.toInt + 1 := i_add ez133 rfl (by decide) (by omega)
                refine lv_iinc (v := z133) (lv' := [(2, .int z133), (3, .int z116), (0, .ref (ad 1)), (1, .ref (ad (38 + b)))]) hx hb dX1_read_76 hl (k := 1) rfl (by rw [ez133]; rfl) (by decide) rfl (fun ls hl => ?_)
                refine lv_goto (tgt := 31) hx hb dX1_read_79 (by decide) ?_
                have pq134 : (V121 1 1).toInt = ((nI b)).toInt := congrArg Int32.toInt ((ajV121 1 1 rfl).trans ((ajV50 1 1 rfl).trans ((ajV26 1 1 rfl).trans ((up2_k hV19 (by decide)).trans ((up2_k hV17 (by decide)).trans ((ajV15 1 1 rfl).trans (up2_s hV2)))))))
                exact ihlp52 z133 V121 L122 H locs ls (by omega) ⟨sx125, hr129, rl127, cx130, (by omega)⟩ (t119.elim (fun h9 => by rw [h9]; exact xlp52_1) (fun h9 => Or.inl h9)) (show (V121 1 1).toInt = (b : Int) from by omega) (by omega) alL122 (agr.tr (agr.tr agr.rf ajV50 (by decide) (by decide)) ajV121 (by decide) (by decide)) hMV121 hP hD hS (lv_sub hl [0, 2, 3] rfl)
              · skip
                have f135 : z116.toInt = 0 := b_eq rfl (by decide) c131
                exfalso; omega
            · skip
              have hb136 : Rc gT (Crun gs [Istmt]) (Cbad (V121 1 3).toInt) := (by have h9 := hq []; rw [nxI_m (show 0 ≤ (V50 1 2).toInt from by omega)] at h9; exact h9.tr (h126 []))
              have cx137 : CTx V L V121 L122 := CTx.ag cq (ajV121 6 7 rfl) (ajV121 6 6 rfl) (funext fun q9 => ajV121 12 q9 rfl) (funext fun q9 => ajV121 13 q9 rfl) (funext fun q9 => axL122 14 q9 rfl)
              refine lv_istore_n (lv' := [(3, .int z116), (2, .int y49), (0, .ref (ad 1)), (1, .ref (ad (38 + b)))]) hx hb dX1_read_66 rfl hl (by decide) rfl (fun ls hl => ?_)
              refine lv_iload_n hx hb dX1_read_67 rfl (lv_at hl 0 rfl) ?_
              refine lv_if_ne (tgt := 76) hx hb dX1_read_68 (by decide) (fun c138 => ?_) (fun c138 => ?_)
              · skip
                have f139 : z116.toInt ≠ 0 := b_neq rfl (by decide) c138
                exfalso; omega
              · skip
                have f140 : z116.toInt = 0 := b_eq rfl (by decide) c138
                refine lv_aload_n hx hb dX1_read_71 rfl (lv_at hl 2 rfl) ?_
                refine va_get (D := D) (ci := 1) (v := .int (V121 1 3)) (fs := (xfReader ad V121 L122 Z)) (C := RX1) (T := TX1) (N := 9) hx hb hg inX1 hown hK hP 1 xgReader rfl 3 (by decide) (hg _ w307) (fun _ h9 => h9) rfl dX1_read_72 ?_
                exact W.iret (v := (V121 1 3)) hx hb hr (fun t ht hW => ⟨⟨(V121 1 3), (V121, L122), rfl, ⟨hMV121, agV121, alL122, cx137, (by have e1 : tkOf V121 L122 = gT := (by rw [rq.tk]; unfold tkOf; rw [(by rw [(funext (fun q => ajV121 12 q rfl) : V121 12 = V50 12)] : V121 12 = V50 12), (by rw [(funext (fun q => ajV121 13 q rfl) : V121 13 = V50 13)] : V121 13 = V50 13), (by rw [(funext (fun q => axL122 14 q rfl) : L122 14 = L51 14)] : L122 14 = L51 14)]); rw [e1]; unfold BRES; rw [← hgs]; exact Or.inr hb136)⟩, by rw [ht]; exact hP, va_K.moved hW.alike hK, hD⟩, hS.F ht⟩) hS.2.2 dX1_read_75
  have r141 : Int32.toInt 0 = 0 := by decide
  have pq142 : (V26 1 1).toInt = ((nI b)).toInt := congrArg Int32.toInt ((ajV26 1 1 rfl).trans ((up2_k hV19 (by decide)).trans ((up2_k hV17 (by decide)).trans ((ajV15 1 1 rfl).trans (up2_s hV2)))))
  exact lp52 ((4000 - (Int32.toInt 0) + 1 : Int).toNat) 0 V26 L27 H locs ls (by decide) ⟨gs, (fun k => by rw [nxI_s (show (V26 1 2).toInt < 0 from by omega)]; exact Rc.rf), rl0, cx0, (by omega)⟩ (Or.inl (by omega)) (show (V26 1 1).toInt = (b : Int) from by omega) (by omega) alL27 agr.rf hMV26 hP hD hS (lv_sub hl [0, 1, 2] rfl)
