/-! the scope's step -/
theorem RelC.sc {V : Vf} {L : Lf} {b : Nat} {T : Tk} {s : St} (h : RelC V L b T (nx s 1)) (hn : (V 1 2).toInt < 0) : RelC V L b T (scopeS s) := ⟨h.1, h.2.1, h.2.2.1, h.2.2.2.1, fun q => absurd q (by omega)⟩
theorem keepT.tr {s A c : St} {n m : Nat} (h : keepS s n (nx A 1)) (k : keepS (scopeS A) m c) : True ∧ True ∧ (∀ j, j < 3 → c.2.1 j = s.2.1 j) ∧ True := ⟨trivial, trivial, fun j hj => (k.2.2.1 j hj).trans (h.2.2.1 j hj), trivial⟩


abbrev r_x_readComponent3 : Room := { frames := 4, cells := 0, slots := 0, locals := 85 }
abbrev q_x_readComponent3 (D : va_G) (ks : KS) (ad : Nat → Nat) (kk : Nat → ClassId) (V : Vf) (L : Lf) (Z : XZ) (b : Nat) (gT : Tk) (gs : St) (A : Nat → Prop) : Array Value → State → Outcome → State → Prop := va_Qi (fun (r : Int32) (u : Vf × Lf) => rgd bX u.1 ∧ agr [(1, 2), (1, 3), (1, 6), (1, 7), (1, 8), (6, 8), (6, 9), (6, 10)] [43, 44, 49, 50, 51, 52, 53, 54, 55, 56, 57, 61] V u.1 ∧ agL [1, 6, 44] L u.2 ∧ (0 ≤ r.toInt ∧ r.toInt ≤ 1) ∧ (Imp (r.toInt = 1) (24 * (b : Int) ≤ (u.1 1 2).toInt ∧ (u.1 1 2).toInt < 24 * (b : Int) + 24)) ∧ (Rd gT gs (fun k => Istmt :: k) (fun k => Imember :: k) r.toInt (u.1 1 3).toInt (fun s9 => RelC u.1 u.2 b gT s9 ∧ gs.1 0 + 1 ≤ s9.1 0)) ∧ (ROWL b L u.2)) (fun u t => gq D A (xw ad kk u.1 u.2 Z) (xty kk Z) t) A
set_option maxHeartbeats 4000000 in
set_option maxRecDepth 100000 in
theorem x_readComponent3 (l : Launch) (D : va_G) (ks : KS) (sz : Nat) (ad : Nat → Nat) (kk : Nat → ClassId) (V : Vf) (L : Lf) (Z : XZ) (b : Nat) (gT : Tk) (gs : St) (hMV : rgd bX V) (hb2 : b < 2) (rbk : (V 1 1).toInt = (b : Int)) (own : (V 1 2).toInt = -1) (rel : RelC V L b gT gs) (kd9 : (V 6 9).toInt = 131)  : Met l yX1_readComponent (Cond.code yX1_readComponent cX1_readComponent 4 (some .boolean) :: GW) r_x_readComponent3 (va_Pc [.ref (ad 1)] (gp D ks (xw ad kk V L Z) (xty kk Z) sz)) (q_x_readComponent3 D ks ad kk V L Z  b gT gs (va_A (xw ad kk V L Z) sz)) 0 0 (va_A (xw ad kk V L Z) sz) := by
  refine g_met (q_x_readComponent3 D ks ad kk V L Z  b gT gs) (by decide) (Nat.le_of_ble_eq_true rfl) ?_
  intro p e s m below meth c A ls H locs hx hb hr hml hown hg hlocks hin hnw hgk hP hK hD hS hA hl
  have hown : s.vm.findClass RX1 = some m.cls := hown
  have hl : lv_has ls 4 [(0, .ref (ad 1))] := hl
  have hP : va_P D vwCl (xw ad kk V L Z) H := hP
  have hD : va_D A (xw ad kk V L Z) := hD
  have hK : va_K D vwCl (xty kk Z) s := hK
  have agV : agr [(1, 2), (1, 3), (1, 6), (1, 7), (1, 8), (6, 8), (6, 9), (6, 10)] [43, 44, 49, 50, 51, 52, 53, 54, 55, 56, 57, 61] V V := agr.rf
  have alL : agL [1, 6, 44] L L := agL.rf
  have r1 : (-1) ≤ ((V 1 1)).toInt ∧ ((V 1 1)).toInt ≤ 1 := hMV 1 1
  have r2 : (-1) ≤ ((V 1 2)).toInt ∧ ((V 1 2)).toInt ≤ 47 := hMV 1 2
  have ln0 := (rel.2.2.1 2 (by decide)).1
  have r3 : xcap (5 * b + 2) = 24 := xcap_2
  refine lv_aload_n hx hb dX1_readComponent_0 rfl (lv_at hl 0 rfl) ?_
  refine va_get (D := D) (ci := 1) (v := rfN ad 38 (V 1 1)) (fs := (xfReader ad V L Z)) (C := RX1) (T := TX1) (N := 9) hx hb hg inX1 hown hK hP 1 xgReader rfl 1 (by decide) (hg _ w305) (fun _ h9 => h9) rfl dX1_readComponent_1 ?_
  refine g_topv (v := .ref (ad (38 + b))) (rfN_r (by omega)) ?_
  refine va_getN (D := D) (ci := 0) (v := .ref (ad (40 + (5 * b + 2)))) (fs := (xfBook ad V b)) (C := RX0) (T := TX0) (N := 13) hx hb hg inX0 hown hK hP (38 + b) (xgBook hb2) rfl 2 (by decide) (hnw.use 601 n601 rfl) (fun _ h9 => h9) rfl dX1_readComponent_4 ?_
  have il4 : (5 * b + 2) < 10 := by omega
  refine gA_int (gA_runV (As := []) (rest := []) (ci := 6) (q0 := (40 + (5 * b + 2))) hx hb hml hown hg hP hD hK hS hA hnw hgk (x_isFull2 l D ks H.size ad kk V L Z ((5 * b + 2)) hMV (show (5 * b + 2) < 10 from by omega)) w863 w864 w865 w168 w866 rfl (xgNames il4) hdV_yX6_isFull ⟨Nat.le_of_ble_eq_true rfl, Nat.le_of_ble_eq_true rfl⟩ rfl hl.1 rfl (Nat.le_of_ble_eq_true rfl) dX1_readComponent_7 ⟨Nat.le_of_ble_eq_true rfl, Nat.le_of_ble_eq_true rfl⟩) hP hD hK hS hA (fun z5 u6 H locs w7 hP hD hK hS => ?_)
  obtain ⟨rgz5, t8, t9⟩ := w7
  have rgz5 : 0 ≤ z5.toInt ∧ z5.toInt ≤ 1 := rgz5
  have t8 : Imp (z5.toInt = 0) ((V 43 (5 * b + 2)).toInt < ((xcap (5 * b + 2) : Nat) : Int)) := t8
  have t9 : Imp (z5.toInt = 1) (((xcap (5 * b + 2) : Nat) : Int) ≤ (V 43 (5 * b + 2)).toInt) := t9
  refine lv_if_eq (tgt := 19) hx hb dX1_readComponent_10 (by decide) (fun c10 => ?_) (fun c10 => ?_)
  · skip
    have f11 : z5.toInt = 0 := b_eq rfl (by decide) c10
    refine lv_aload_n hx hb dX1_readComponent_19 rfl (lv_at hl 0 rfl) ?_
    refine va_get (D := D) (ci := 1) (v := .ref (ad 6)) (fs := (xfReader ad V L Z)) (C := RX1) (T := TX1) (N := 9) hx hb hg inX1 hown hK hP 1 xgReader rfl 0 (by decide) (hg _ w304) (fun _ h9 => h9) rfl dX1_readComponent_20 ?_
    have hr12 : ∀ k, Rc gT (Crun gs (Istmt :: k)) (Crun gs (Istmt :: k)) := fun k => Rc.rf
    have kd13 : gT.1 (gs.1 0) = ((V 6 9)).toInt := RelC.kd rel
    have hr14 : ∀ k, Rc gT (Crun gs (Istmt :: k)) (Crun (nx gs 1) (InewComp :: k)) := fun k => Rc.go1 (hr12 k) (st_131 (kd13.trans kd9) (by first | omega | ((try (have i_t9 := Imp.go t9 (by omega))); (try (have i_t8 := Imp.go t8 (by omega))); (try (have i_t8 := Imp.go t8 (by omega))); (try (have i_t9 := Imp.go t9 (by omega))); omega)))
    have l815 := RelC.l8 rel
    have r16 : 0 ≤ ((V 6 8)).toInt ∧ ((V 6 8)).toInt ≤ 4000 := hMV 6 8
    have r17 : 0 ≤ ((V 6 7)).toInt ∧ ((V 6 7)).toInt ≤ 4000 := hMV 6 7
    have lk18 := RelC.lk rel (show (V 6 9).toInt ≠ 0 from by omega)
    refine gA_void (gA_runV (As := []) (rest := []) (ci := 9) (q0 := 6) hx hb hml hown hg hP hD hK hS hA hnw hgk (x_next2 l D ks H.size ad kk V L Z  hMV (show (V 6 8).toInt ≤ (V 6 7).toInt from by first | omega | ((try (have i_t9 := Imp.go t9 (by omega))); (try (have i_t8 := Imp.go t8 (by omega))); (try (have i_t8 := Imp.go t8 (by omega))); (try (have i_t9 := Imp.go t9 (by omega))); omega))) w871 w852 w853 w157 w854 rfl xgTape hdV_yX9_next ⟨Nat.le_of_ble_eq_true rfl, Nat.le_of_ble_eq_true rfl⟩ rfl hl.1 rfl (Nat.le_of_ble_eq_true rfl) dX1_readComponent_23 ⟨Nat.le_of_ble_eq_true rfl, Nat.le_of_ble_eq_true rfl⟩) hP hD hK hS hA (fun u20 H locs w21 hP hD hK hS => ?_)
    obtain ⟨V24, L25⟩ := u20
    obtain ⟨hMV24, ajV24, axL25, t22, t23⟩ := w21
    have alL25 : agL [1, 6, 44] L L25 := agL.tr alL axL25 (by decide)
    have hP : va_P D vwCl (xw ad kk V24 L25 Z) H := hP
    have hD : va_D A (xw ad kk V24 L25 Z) := hD
    have hMV24 : rgd bX V24 := hMV24
    have ajV24 : agr [(6, 8), (6, 9), (6, 10)] [] V V24 := ajV24
    have agV24 : agr [(1, 2), (1, 3), (1, 6), (1, 7), (1, 8), (6, 8), (6, 9), (6, 10)] [43, 44, 49, 50, 51, 52, 53, 54, 55, 56, 57, 61] V V24 := agV.tr ajV24 (by decide) (by decide)
    have t22 : (V24 6 8).toInt ≤ (V24 6 7).toInt := t22
    have t23 : CUR V24 L25 (Int32.toNatClampNeg (V 6 8)) := t23
    have r26 : 0 ≤ ((V24 6 8)).toInt ∧ ((V24 6 8)).toInt ≤ 4000 := hMV24 6 8
    have pq27 : (V24 6 7).toInt = ((V 6 7)).toInt := congrArg Int32.toInt (ajV24 6 7 rfl)
    have rl28 : RelC V24 L25 b gT (nx gs 1) := RelC.nx1 rel ajV24 (by decide) axL25 (by decide) (by rw [← lk18]; exact t23) (ajV24 1 3 rfl)
    refine lv_aload_n hx hb dX1_readComponent_26 rfl (lv_at hl 0 rfl) ?_
    have pq29 : (V24 1 1).toInt = ((V 1 1)).toInt := congrArg Int32.toInt (ajV24 1 1 rfl)
    refine gA_int (gA_runV (As := []) (rest := []) (ci := 1) (q0 := 1) hx hb hml hown hg hP hD hK hS hA hnw hgk (x_takeNewName3 l D ks H.size ad kk V24 L25 Z (b) (gT) ((nx gs 1)) hMV24 (show b < 2 from by first | omega | ((try (have i_t9 := Imp.go t9 (by omega))); (try (have i_t8 := Imp.go t8 (by omega))); (try (have i_t8 := Imp.go t8 (by omega))); (try (have i_t9 := Imp.go t9 (by omega))); omega)) (show (V24 1 1).toInt = (b : Int) from by first | omega | ((try (have i_t9 := Imp.go t9 (by omega))); (try (have i_t8 := Imp.go t8 (by omega))); (try (have i_t8 := Imp.go t8 (by omega))); (try (have i_t9 := Imp.go t9 (by omega))); omega)) rl28) w872 w874 w7 w162 w875 rfl xgReader hdV_yX1_takeNewName ⟨Nat.le_of_ble_eq_true rfl, Nat.le_of_ble_eq_true rfl⟩ rfl hl.1 rfl (Nat.le_of_ble_eq_true rfl) dX1_readComponent_27 ⟨Nat.le_of_ble_eq_true rfl, Nat.le_of_ble_eq_true rfl⟩) hP hD hK hS hA (fun z30 u31 H locs w32 hP hD hK hS => ?_)
    obtain ⟨V34, L35⟩ := u31
    obtain ⟨hMV34, ajV34, axL35, rgz30, t33⟩ := w32
    have alL35 : agL [1, 6, 44] L L35 := agL.tr alL25 axL35 (by decide)
    have hP : va_P D vwCl (xw ad kk V34 L35 Z) H := hP
    have hD : va_D A (xw ad kk V34 L35 Z) := hD
    have hMV34 : rgd bX V34 := hMV34
    have ajV34 : agr [(1, 3), (6, 8), (6, 9), (6, 10)] [] V24 V34 := ajV34
    have agV34 : agr [(1, 2), (1, 3), (1, 6), (1, 7), (1, 8), (6, 8), (6, 9), (6, 10)] [43, 44, 49, 50, 51, 52, 53, 54, 55, 56, 57, 61] V V34 := agV24.tr ajV34 (by decide) (by decide)
    have rgz30 : 0 ≤ z30.toInt ∧ z30.toInt ≤ 1 := rgz30
    have t33 : KcW (newN gT (nx gs 1)) z30.toInt (V34 1 3).toInt (fun w9 => RelC V34 L35 b gT (nx (nx gs 1) 1) ∧ L35 1 5 = w9) := t33
    rcases t33 with ⟨q36, wx37, h38, rl39, hw40⟩ | ⟨q36, h38⟩
    · skip
      have hr41 : ∀ k, Rc gT (Crun gs (Istmt :: k)) (Crun (nx (nx gs 1) 1) (Itake 132 :: Itypes 0 [] :: Iscope wx37 :: k)) := fun k => Rc.go1 (hr14 k) (nc_y h38)
      refine lv_if_ne (tgt := 35) hx hb dX1_readComponent_30 (by decide) (fun c42 => ?_) (fun c42 => ?_)
      · skip
        have f43 : z30.toInt ≠ 0 := b_neq rfl (by decide) c42
        refine lv_aload_n hx hb dX1_readComponent_35 rfl (lv_at hl 0 rfl) ?_
        refine va_get (D := D) (ci := 1) (v := .long (L35 1 5)) (fs := (xfReader ad V34 L35 Z)) (C := RX1) (T := TX1) (N := 9) hx hb hg inX1 hown hK hP 1 xgReader rfl 5 (by decide) (hg _ w309) (fun _ h9 => h9) rfl dX1_readComponent_36 ?_
        refine lv_lstore_n (lv' := [(1, .long (L35 1 5)), (0, .ref (ad 1))]) hx hb dX1_readComponent_39 rfl hl (by decide) rfl (fun ls hl => ?_)
        refine lv_aload_n hx hb dX1_readComponent_40 rfl (lv_at hl 1 rfl) ?_
        refine lv_sipush (v := 132) hx hb dX1_readComponent_41 (by decide) ?_
        have r44 : Int32.toInt 132 = 132 := by decide
        refine gA_int (gA_runV (As := [.int 132]) (rest := []) (ci := 1) (q0 := 1) hx hb hml hown hg hP hD hK hS hA hnw hgk (x_take2 l D ks H.size ad kk V34 L35 Z 132 (((nx (nx gs 1) 1).1 0)) hMV34 (rl39).1 (rl39).2.1.1 (show 1 ≤ (Int32.toInt 132) from by first | omega | ((try (have i_t9 := Imp.go t9 (by omega))); (try (have i_t8 := Imp.go t8 (by omega))); (try (have i_t8 := Imp.go t8 (by omega))); (try (have i_t9 := Imp.go t9 (by omega))); omega))) w893 w895 w10 w162 w896 rfl xgReader hdV_yX1_take ⟨Nat.le_of_ble_eq_true rfl, Nat.le_of_ble_eq_true rfl⟩ rfl hl.1 rfl (Nat.le_of_ble_eq_true rfl) dX1_readComponent_44 ⟨Nat.le_of_ble_eq_true rfl, Nat.le_of_ble_eq_true rfl⟩) hP hD hK hS hA (fun z45 u46 H locs w47 hP hD hK hS => ?_)
        obtain ⟨V50, L51⟩ := u46
        obtain ⟨hMV50, ajV50, axL51, rgz45, t48, t49⟩ := w47
        have alL51 : agL [1, 6, 44] L L51 := agL.tr alL35 axL51 (by decide)
        have hP : va_P D vwCl (xw ad kk V50 L51 Z) H := hP
        have hD : va_D A (xw ad kk V50 L51 Z) := hD
        have hMV50 : rgd bX V50 := hMV50
        have ajV50 : agr [(1, 3), (6, 8), (6, 9), (6, 10)] [] V34 V50 := ajV50
        have agV50 : agr [(1, 2), (1, 3), (1, 6), (1, 7), (1, 8), (6, 8), (6, 9), (6, 10)] [43, 44, 49, 50, 51, 52, 53, 54, 55, 56, 57, 61] V V50 := agV34.tr ajV50 (by decide) (by decide)
        have rgz45 : 0 ≤ z45.toInt ∧ z45.toInt ≤ 1 := rgz45
        have t48 : Imp (z45.toInt = 0) (1 ≤ (V50 1 3).toInt) := t48
        have t49 : (z45.toInt = 1 ∧ (V34 12 ((nx (nx gs 1) 1).1 0)).toInt = (Int32.toInt 132) ∧ CUR V50 L51 (((nx (nx gs 1) 1).1 0) + 1) ∧ V50 1 3 = V34 1 3) ∨ (z45.toInt = 0 ∧ (V34 12 ((nx (nx gs 1) 1).1 0)).toInt ≠ (Int32.toInt 132) ∧ (V50 1 3).toInt = 1 + 16 * (V34 13 ((nx (nx gs 1) 1).1 0)).toInt) := t49
        rcases t49 with ⟨q52, h53, k54, k55⟩ | ⟨q52, h53, k54⟩
        · skip
          have rl56 : RelC V50 L51 b gT (nx (nx (nx gs 1) 1) 1) := RelC.nx1 rl39 ajV50 (by decide) axL51 (by decide) k54 k55
          have hr57 : ∀ k, Rc gT (Crun gs (Istmt :: k)) (Crun (nx (nx (nx gs 1) 1) 1) (Itypes 0 [] :: Iscope wx37 :: k)) := fun k => Rc.go1 (hr41 k) (tk_y (rl39.tok.1.trans (h53.trans (by decide))))
          refine lv_if_eq (tgt := 57) hx hb dX1_readComponent_47 (by decide) (fun c58 => ?_) (fun c58 => ?_)
          · skip
            have f59 : z45.toInt = 0 := b_eq rfl (by decide) c58
            exfalso; first | omega | ((try (have i_t48 := Imp.go t48 (by omega))); (try (have i_t9 := Imp.go t9 (by omega))); (try (have i_t8 := Imp.go t8 (by omega))); (try (have i_t8 := Imp.go t8 (by omega))); (try (have i_t9 := Imp.go t9 (by omega))); (try (have i_t48 := Imp.go t48 (by omega))); omega)
          · skip
            have f60 : z45.toInt ≠ 0 := b_neq rfl (by decide) c58
            refine lv_aload_n hx hb dX1_readComponent_50 rfl (lv_at hl 1 rfl) ?_
            have pq61 : (V50 1 1).toInt = ((V 1 1)).toInt := congrArg Int32.toInt ((ajV50 1 1 rfl).trans ((ajV34 1 1 rfl).trans (ajV24 1 1 rfl)))
            refine gA_int (gA_runV (As := []) (rest := []) (ci := 1) (q0 := 1) hx hb hml hown hg hP hD hK hS hA hnw hgk (x_takeTypes3 l D ks H.size ad kk V50 L51 Z (b) (gT) ((nx (nx (nx gs 1) 1) 1)) hMV50 (show b < 2 from by first | omega | ((try (have i_t48 := Imp.go t48 (by omega))); (try (have i_t9 := Imp.go t9 (by omega))); (try (have i_t8 := Imp.go t8 (by omega))); (try (have i_t8 := Imp.go t8 (by omega))); (try (have i_t9 := Imp.go t9 (by omega))); (try (have i_t48 := Imp.go t48 (by omega))); omega)) (show (V50 1 1).toInt = (b : Int) from by first | omega | ((try (have i_t48 := Imp.go t48 (by omega))); (try (have i_t9 := Imp.go t9 (by omega))); (try (have i_t8 := Imp.go t8 (by omega))); (try (have i_t8 := Imp.go t8 (by omega))); (try (have i_t9 := Imp.go t9 (by omega))); (try (have i_t48 := Imp.go t48 (by omega))); omega)) rl56) w884 w886 w8 w162 w887 rfl xgReader hdV_yX1_takeTypes ⟨Nat.le_of_ble_eq_true rfl, Nat.le_of_ble_eq_true rfl⟩ rfl hl.1 rfl (Nat.le_of_ble_eq_true rfl) dX1_readComponent_51 ⟨Nat.le_of_ble_eq_true rfl, Nat.le_of_ble_eq_true rfl⟩) hP hD hK hS hA (fun z62 u63 H locs w64 hP hD hK hS => ?_)
            obtain ⟨V66, L67⟩ := u63
            obtain ⟨hMV66, ajV66, axL67, rgz62, t65⟩ := w64
            have alL67 : agL [1, 6, 44] L L67 := agL.tr alL51 axL67 (by decide)
            have hP : va_P D vwCl (xw ad kk V66 L67 Z) H := hP
            have hD : va_D A (xw ad kk V66 L67 Z) := hD
            have hMV66 : rgd bX V66 := hMV66
            have ajV66 : agr [(1, 3), (1, 6), (1, 7), (6, 8), (6, 9), (6, 10)] [] V50 V66 := ajV66
            have agV66 : agr [(1, 2), (1, 3), (1, 6), (1, 7), (1, 8), (6, 8), (6, 9), (6, 10)] [43, 44, 49, 50, 51, 52, 53, 54, 55, 56, 57, 61] V V66 := agV50.tr ajV66 (by decide) (by decide)
            have rgz62 : 0 ≤ z62.toInt ∧ z62.toInt ≤ 1 := rgz62
            have t65 : Rd gT (nx (nx (nx gs 1) 1) 1) (fun k => Itypes 0 [] :: k) (fun k => k) z62.toInt (V66 1 3).toInt (fun s9 => RelC V66 L67 b gT s9 ∧ keepS (nx (nx (nx gs 1) 1) 1) 1 s9) := t65
            rcases t65 with ⟨q68, sx69, h70, rl71, kp72⟩ | ⟨q68, h70⟩
            · skip
              have hr73 : ∀ k, Rc gT (Crun gs (Istmt :: k)) (Crun sx69 (Iscope wx37 :: k)) := fun k => (hr57 k).tr (h70 (Iscope wx37 :: k))
              refine lv_if_ne (tgt := 59) hx hb dX1_readComponent_54 (by decide) (fun c74 => ?_) (fun c74 => ?_)
              · skip
                have f75 : z62.toInt ≠ 0 := b_neq rfl (by decide) c74
                refine lv_aload_n hx hb dX1_readComponent_59 rfl (lv_at hl 1 rfl) ?_
                refine va_get (D := D) (ci := 1) (v := .ref (ad 6)) (fs := (xfReader ad V66 L67 Z)) (C := RX1) (T := TX1) (N := 9) hx hb hg inX1 hown hK hP 1 xgReader rfl 0 (by decide) (hg _ w304) (fun _ h9 => h9) rfl dX1_readComponent_60 ?_
                refine va_getN (D := D) (ci := 9) (v := .int (V66 6 9)) (fs := (xfTape ad V66 L67 Z)) (C := RX9) (T := TX9) (N := 12) hx hb hg inX9 hown hK hP 6 xgTape rfl 9 (by decide) (hnw.use 262 n262 rfl) (fun _ h9 => h9) rfl dX1_readComponent_63 ?_
                refine lv_sipush (v := 148) hx hb dX1_readComponent_66 (by decide) ?_
                refine lv_icmp_lt (tgt := 85) hx hb dX1_readComponent_69 (by decide) (fun c76 => ?_) (fun c76 => ?_)
                · skip
                  have f77 : ((V66 6 9)).toInt < 148 := b_lt rfl (by decide) c76
                  refine lv_aload_n hx hb dX1_readComponent_85 rfl (lv_at hl 1 rfl) ?_
                  refine lv_iconst (v := 1) hx hb dX1_readComponent_86 (by decide) ?_
                  have kd78 : gT.1 (sx69.1 0) = ((V66 6 9)).toInt := RelC.kd rl71
                  have r79 : Int32.toInt 1 = 1 := by decide
                  refine gA_int (gA_runV (As := [.int 1]) (rest := []) (ci := 1) (q0 := 1) hx hb hml hown hg hP hD hK hS hA hnw hgk (x_wrong2 l D ks H.size ad kk V66 L67 Z 1 hMV66 (by decide)) w867 w869 w6 w162 w870 rfl xgReader hdV_yX1_wrong ⟨Nat.le_of_ble_eq_true rfl, Nat.le_of_ble_eq_true rfl⟩ rfl hl.1 rfl (Nat.le_of_ble_eq_true rfl) dX1_readComponent_87 ⟨Nat.le_of_ble_eq_true rfl, Nat.le_of_ble_eq_true rfl⟩) hP hD hK hS hA (fun z80 u81 H locs w82 hP hD hK hS => ?_)
                  obtain ⟨V85, L86⟩ := u81
                  obtain ⟨hMV85, ajV85, axL86, rgz80, t83, t84⟩ := w82
                  have axL86 : L67 = L86 := Eq.symm axL86
                  subst axL86
                  have hP : va_P D vwCl (xw ad kk V85 L67 Z) H := hP
                  have hD : va_D A (xw ad kk V85 L67 Z) := hD
                  have hMV85 : rgd bX V85 := hMV85
                  have ajV85 : agr [(1, 3)] [] V66 V85 := ajV85
                  have agV85 : agr [(1, 2), (1, 3), (1, 6), (1, 7), (1, 8), (6, 8), (6, 9), (6, 10)] [43, 44, 49, 50, 51, 52, 53, 54, 55, 56, 57, 61] V V85 := agV66.tr ajV85 (by decide) (by decide)
                  have rgz80 : 0 ≤ z80.toInt ∧ z80.toInt ≤ 0 := rgz80
                  have t83 : 1 ≤ (V85 1 3).toInt := t83
                  have t84 : (V85 1 3).toInt = (Int32.toInt 1) + 16 * (V66 6 10).toInt := t84
                  have r87 : 0 ≤ ((V66 6 10)).toInt ∧ ((V66 6 10)).toInt ≤ 4000 := hMV66 6 10
                  have hb88 : ∀ k, Rc gT (Crun gs (Istmt :: k)) (Cbad (V85 1 3).toInt) := fun k => Rc.go1 (hr73 k) ((sc_n wx37 (by rw [kd78]; omega)).trans (fl_eq (RelC.st rl71) (show (V85 1 3).toInt = 1 + 16 * (V66 6 10).toInt from by omega)))
                  have pq89 : (V85 1 2).toInt = ((V 1 2)).toInt := congrArg Int32.toInt ((ajV85 1 2 rfl).trans ((ajV66 1 2 rfl).trans ((ajV50 1 2 rfl).trans ((ajV34 1 2 rfl).trans (ajV24 1 2 rfl)))))
                  have rw90 : ROWL b L L67 := (fun k hk => ((axL67 44 k rfl).trans ((axL51 44 k rfl).trans ((axL35 44 k rfl).trans ((axL25 44 k rfl).trans rfl)))))
                  exact W.zret (v := z80) hx hb hr (nb_ok (by omega)) (fun t ht hW => ⟨⟨z80, (V85, L67), rfl, ⟨hMV85, agV85, alL67, (show 0 ≤ z80.toInt ∧ z80.toInt ≤ 1 from by first | omega | ((try (have i_t48 := Imp.go t48 (by omega))); (try (have i_t9 := Imp.go t9 (by omega))); (try (have i_t8 := Imp.go t8 (by omega))); (try (have i_t8 := Imp.go t8 (by omega))); (try (have i_t9 := Imp.go t9 (by omega))); (try (have i_t48 := Imp.go t48 (by omega))); omega)), (Imp.mk (fun hp => have hp : z80.toInt = 1 := hp; (show 24 * (b : Int) ≤ (V85 1 2).toInt ∧ (V85 1 2).toInt < 24 * (b : Int) + 24 from by first | omega | ((try (have i_t48 := Imp.go t48 (by omega))); (try (have i_t9 := Imp.go t9 (by omega))); (try (have i_t8 := Imp.go t8 (by omega))); (try (have i_t8 := Imp.go t8 (by omega))); (try (have i_t9 := Imp.go t9 (by omega))); (try (have i_t48 := Imp.go t48 (by omega))); omega)))), (Or.inr ⟨(by omega), hb88⟩), rw90⟩, by rw [ht]; exact hP, va_K.moved hW.alike hK, hD⟩, hS.F ht⟩) hS.2.2 dX1_readComponent_90
                · skip
                  have f91 : 148 ≤ ((V66 6 9)).toInt := b_nlt rfl (by decide) c76
                  refine lv_aload_n hx hb dX1_readComponent_72 rfl (lv_at hl 1 rfl) ?_
                  refine va_get (D := D) (ci := 1) (v := .ref (ad 6)) (fs := (xfReader ad V66 L67 Z)) (C := RX1) (T := TX1) (N := 9) hx hb hg inX1 hown hK hP 1 xgReader rfl 0 (by decide) (hg _ w304) (fun _ h9 => h9) rfl dX1_readComponent_73 ?_
                  refine va_getN (D := D) (ci := 9) (v := .int (V66 6 9)) (fs := (xfTape ad V66 L67 Z)) (C := RX9) (T := TX9) (N := 12) hx hb hg inX9 hown hK hP 6 xgTape rfl 9 (by decide) (hnw.use 262 n262 rfl) (fun _ h9 => h9) rfl dX1_readComponent_76 ?_
                  refine lv_sipush (v := 151) hx hb dX1_readComponent_79 (by decide) ?_
                  refine lv_icmp_le (tgt := 91) hx hb dX1_readComponent_82 (by decide) (fun c92 => ?_) (fun c92 => ?_)
                  · skip
                    have f93 : ((V66 6 9)).toInt ≤ 151 := b_le rfl (by decide) c92
                    refine lv_aload_n hx hb dX1_readComponent_91 rfl (lv_at hl 1 rfl) ?_
                    refine va_get (D := D) (ci := 1) (v := rfN ad 38 (V66 1 1)) (fs := (xfReader ad V66 L67 Z)) (C := RX1) (T := TX1) (N := 9) hx hb hg inX1 hown hK hP 1 xgReader rfl 1 (by decide) (hg _ w305) (fun _ h9 => h9) rfl dX1_readComponent_92 ?_
                    have pq94 : (V66 1 1).toInt = ((V 1 1)).toInt := congrArg Int32.toInt ((ajV66 1 1 rfl).trans ((ajV50 1 1 rfl).trans ((ajV34 1 1 rfl).trans (ajV24 1 1 rfl))))
                    refine g_topv (v := .ref (ad (38 + b))) (rfN_r (by first | omega | ((try (have i_t48 := Imp.go t48 (by omega))); (try (have i_t9 := Imp.go t9 (by omega))); (try (have i_t8 := Imp.go t8 (by omega))); (try (have i_t8 := Imp.go t8 (by omega))); (try (have i_t9 := Imp.go t9 (by omega))); (try (have i_t48 := Imp.go t48 (by omega))); omega))) ?_
                    refine va_getN (D := D) (ci := 0) (v := .ref (ad (64 + b))) (fs := (xfBook ad V66 b)) (C := RX0) (T := TX0) (N := 13) hx hb hg inX0 hown hK hP (38 + b) (xgBook hb2) rfl 7 (by decide) (hnw.use 616 n616 rfl) (fun _ h9 => h9) rfl dX1_readComponent_95 ?_
                    refine lv_aload_n hx hb dX1_readComponent_98 rfl (lv_at hl 1 rfl) ?_
                    refine va_get (D := D) (ci := 1) (v := rfN ad 38 (V66 1 1)) (fs := (xfReader ad V66 L67 Z)) (C := RX1) (T := TX1) (N := 9) hx hb hg inX1 hown hK hP 1 xgReader rfl 1 (by decide) (hg _ w305) (fun _ h9 => h9) rfl dX1_readComponent_99 ?_
                    refine g_topv (v := .ref (ad (38 + b))) (rfN_r (by first | omega | ((try (have i_t48 := Imp.go t48 (by omega))); (try (have i_t9 := Imp.go t9 (by omega))); (try (have i_t8 := Imp.go t8 (by omega))); (try (have i_t8 := Imp.go t8 (by omega))); (try (have i_t9 := Imp.go t9 (by omega))); (try (have i_t48 := Imp.go t48 (by omega))); omega))) ?_
                    refine va_getN (D := D) (ci := 0) (v := .ref (ad (40 + (5 * b + 2)))) (fs := (xfBook ad V66 b)) (C := RX0) (T := TX0) (N := 13) hx hb hg inX0 hown hK hP (38 + b) (xgBook hb2) rfl 2 (by decide) (hnw.use 601 n601 rfl) (fun _ h9 => h9) rfl dX1_readComponent_102 ?_
                    refine va_getN (D := D) (ci := 6) (v := .int (V66 43 (5 * b + 2))) (fs := (xfNames ad V66 (5 * b + 2))) (C := RX6) (T := TX6) (N := 2) hx hb hg inX6 hown hK hP (40 + (5 * b + 2)) (xgNames il4) rfl 1 (by decide) (hnw.use 484 n484 rfl) (fun _ h9 => h9) rfl dX1_readComponent_105 ?_
                    refine g_top (v := (V 43 (5 * b + 2))) ((ajV66 43 (5 * b + 2) rfl).trans ((ajV50 43 (5 * b + 2) rfl).trans ((ajV34 43 (5 * b + 2) rfl).trans (ajV24 43 (5 * b + 2) rfl)))) ?_
                    have r95 : 0 ≤ ((V 43 (5 * b + 2))).toInt ∧ ((V 43 (5 * b + 2))).toInt ≤ ((xcap (5 * b + 2) : Nat) : Int) := hMV 43 (5 * b + 2)
                    have il96 : b < 2 := by first | omega | ((try (have i_t48 := Imp.go t48 (by omega))); (try (have i_t9 := Imp.go t9 (by omega))); (try (have i_t8 := Imp.go t8 (by omega))); (try (have i_t8 := Imp.go t8 (by omega))); (try (have i_t9 := Imp.go t9 (by omega))); (try (have i_t48 := Imp.go t48 (by omega))); omega)
                    refine va_aldq (D := D) (i := (V 43 (5 * b + 2))) hx hb hK hP (64 + b) (57 + b) (xgcomps il96) (xtcomps il96) (i_in (a := ((V 43 (5 * b + 2))).toInt) rfl (by first | omega | ((try (have i_t48 := Imp.go t48 (by omega))); (try (have i_t9 := Imp.go t9 (by omega))); (try (have i_t8 := Imp.go t8 (by omega))); (try (have i_t8 := Imp.go t8 (by omega))); (try (have i_t9 := Imp.go t9 (by omega))); (try (have i_t48 := Imp.go t48 (by omega))); omega))) dX1_readComponent_108 ?_
                    have kc97 := i_clamp (x := (V 43 (5 * b + 2))) rfl (by first | omega | ((try (have i_t48 := Imp.go t48 (by omega))); (try (have i_t9 := Imp.go t9 (by omega))); (try (have i_t8 := Imp.go t8 (by omega))); (try (have i_t8 := Imp.go t8 (by omega))); (try (have i_t9 := Imp.go t9 (by omega))); (try (have i_t48 := Imp.go t48 (by omega))); omega))
                    refine g_topv (v := .ref (ad (72 + (24 * b + (Int32.toNatClampNeg (V 43 (5 * b + 2))))))) (congrArg va_rf (if_pos (by first | omega | ((try (have i_t48 := Imp.go t48 (by omega))); (try (have i_t9 := Imp.go t9 (by omega))); (try (have i_t8 := Imp.go t8 (by omega))); (try (have i_t8 := Imp.go t8 (by omega))); (try (have i_t9 := Imp.go t9 (by omega))); (try (have i_t48 := Imp.go t48 (by omega))); omega)))) ?_
                    have il98 : (24 * b + (Int32.toNatClampNeg (V 43 (5 * b + 2)))) < 48 := by first | omega | ((try (have i_t48 := Imp.go t48 (by omega))); (try (have i_t9 := Imp.go t9 (by omega))); (try (have i_t8 := Imp.go t8 (by omega))); (try (have i_t8 := Imp.go t8 (by omega))); (try (have i_t9 := Imp.go t9 (by omega))); (try (have i_t48 := Imp.go t48 (by omega))); omega)
                    refine lv_astore_n (lv' := [(3, .ref (ad (72 + (24 * b + (Int32.toNatClampNeg (V 43 (5 * b + 2))))))), (1, .long (L35 1 5)), (0, .ref (ad 1))]) hx hb dX1_readComponent_109 rfl hl (by decide) rfl (fun ls hl => ?_)
                    refine lv_aload_n hx hb dX1_readComponent_110 rfl (lv_at hl 0 rfl) ?_
                    refine gA_void (gA_runV (As := []) (rest := []) (ci := 3) (q0 := (72 + (24 * b + (Int32.toNatClampNeg (V 43 (5 * b + 2)))))) hx hb hml hown hg hP hD hK hS hA hnw hgk (x_cclear l D ks H.size ad kk V66 L67 Z ((24 * b + (Int32.toNatClampNeg (V 43 (5 * b + 2))))) hMV66 (show (24 * b + (Int32.toNatClampNeg (V 43 (5 * b + 2)))) < 48 from by first | omega | ((try (have i_t48 := Imp.go t48 (by omega))); (try (have i_t9 := Imp.go t9 (by omega))); (try (have i_t8 := Imp.go t8 (by omega))); (try (have i_t8 := Imp.go t8 (by omega))); (try (have i_t9 := Imp.go t9 (by omega))); (try (have i_t48 := Imp.go t48 (by omega))); omega))) w914 w915 w916 w169 w917 rfl (xgComp il98) hdV_yX3_clear ⟨Nat.le_of_ble_eq_true rfl, Nat.le_of_ble_eq_true rfl⟩ rfl hl.1 rfl (Nat.le_of_ble_eq_true rfl) dX1_readComponent_111 ⟨Nat.le_of_ble_eq_true rfl, Nat.le_of_ble_eq_true rfl⟩) hP hD hK hS hA (fun u100 H locs w101 hP hD hK hS => ?_)
                    obtain ⟨V110, L111⟩ := u100
                    obtain ⟨hMV110, ajV110, axL111, fyV110, t102, t103, t104, t105, t106, t107, t108, t109⟩ := w101
                    have axL111 : L67 = L111 := Eq.symm axL111
                    subst axL111
                    have hP : va_P D vwCl (xw ad kk V110 L67 Z) H := hP
                    have hD : va_D A (xw ad kk V110 L67 Z) := hD
                    have hMV110 : rgd bX V110 := hMV110
                    have ajV110 : agr [] [49, 50, 51, 52, 53, 54, 55, 56, 57, 61] V66 V110 := ajV110
                    have agV110 : agr [(1, 2), (1, 3), (1, 6), (1, 7), (1, 8), (6, 8), (6, 9), (6, 10)] [43, 44, 49, 50, 51, 52, 53, 54, 55, 56, 57, 61] V V110 := agV66.tr ajV110 (by decide) (by decide)
                    have t102 : (V110 56 (24 * b + (Int32.toNatClampNeg (V 43 (5 * b + 2))))).toInt = -1 := t102
                    have t103 : (V110 57 (24 * b + (Int32.toNatClampNeg (V 43 (5 * b + 2))))).toInt = -1 := t103
                    have t104 : (V110 49 (24 * b + (Int32.toNatClampNeg (V 43 (5 * b + 2))))).toInt = 0 := t104
                    have t105 : (∀ q : Nat, (q : Int) < 20 → (V110 61 (20 * (24 * b + (Int32.toNatClampNeg (V 43 (5 * b + 2)))) + q)).toInt = -1) := t105
                    have t106 : (∀ q : Nat, ¬ (20 * (24 * b + (Int32.toNatClampNeg (V 43 (5 * b + 2)))) ≤ q ∧ q < 20 * (24 * b + (Int32.toNatClampNeg (V 43 (5 * b + 2)))) + 20) → V110 61 q = V66 61 q) := t106
                    have t107 : (∀ q : Nat, ¬ q = (24 * b + (Int32.toNatClampNeg (V 43 (5 * b + 2)))) → V110 56 q = V66 56 q) := t107
                    have t108 : (∀ q : Nat, ¬ q = (24 * b + (Int32.toNatClampNeg (V 43 (5 * b + 2)))) → V110 57 q = V66 57 q) := t108
                    have t109 : (∀ q : Nat, ¬ q = (24 * b + (Int32.toNatClampNeg (V 43 (5 * b + 2)))) → V110 49 q = V66 49 q) := t109
                    refine lv_aload_n hx hb dX1_readComponent_114 rfl (lv_at hl 0 rfl) ?_
                    refine lv_aload_n hx hb dX1_readComponent_115 rfl (lv_at hl 2 rfl) ?_
                    refine va_get (D := D) (ci := 1) (v := .int (V110 1 7)) (fs := (xfReader ad V110 L67 Z)) (C := RX1) (T := TX1) (N := 9) hx hb hg inX1 hown hK hP 1 xgReader rfl 7 (by decide) (hg _ w311) (fun _ h9 => h9) rfl dX1_readComponent_116 ?_
                    refine g_top (v := (V66 1 7)) (ajV110 1 7 rfl) ?_
                    refine va_putN (D := D) (ci := 3) (v := .int (V66 1 7)) (ty := tyX3 5) (fs := (xfComp ad V110 (24 * b + (Int32.toNatClampNeg (V 43 (5 * b + 2)))))) (C := RX3) (T := TX3) (N := 13) hx hb hg inX3 tyX3 tyX3_ok nmX3 hown hK hP hD hS (72 + (24 * b + (Int32.toNatClampNeg (V 43 (5 * b + 2))))) (xgComp il98) rfl 5 (by decide) (hnw.use 516 n516 rfl) (fun _ h9 => h9) rfl (tyX3_ok 5 (by decide)) rfl rfl (Nat.le_of_ble_eq_true rfl) dX1_readComponent_119 (fun H locs hP hD hS => ?_)
                    obtain ⟨V112, hV112⟩ : ∃ z, z = up2 V110 50 (24 * b + (Int32.toNatClampNeg (V 43 (5 * b + 2)))) (V66 1 7) := ⟨_, rfl⟩
                    have ew113 : (xw ad kk V110 L67 Z).set (72 + (24 * b + (Int32.toNatClampNeg (V 43 (5 * b + 2))))) ((ad (72 + (24 * b + (Int32.toNatClampNeg (V 43 (5 * b + 2)))))), .inr (3, (xfComp ad V110 (24 * b + (Int32.toNatClampNeg (V 43 (5 * b + 2))))).set 5 (.int (V66 1 7)))) = xw ad kk V112 L67 Z := by rw [hV112]; exact xpComp_under il98
                    have hP : va_P D vwCl (xw ad kk V112 L67 Z) H := by rw [← ew113]; exact hP
                    have hD : va_D A (xw ad kk V112 L67 Z) := by rw [← ew113]; exact hD
                    have hMV112 : rgd bX V112 := hMV110.put hV112 (i_full _)
                    have agV112 : agr [(1, 2), (1, 3), (1, 6), (1, 7), (1, 8), (6, 8), (6, 9), (6, 10)] [43, 44, 49, 50, 51, 52, 53, 54, 55, 56, 57, 61] V V112 := agV110.up hV112 rfl
                    refine lv_aload_n hx hb dX1_readComponent_122 rfl (lv_at hl 0 rfl) ?_
                    refine lv_aload_n hx hb dX1_readComponent_123 rfl (lv_at hl 2 rfl) ?_
                    refine va_get (D := D) (ci := 1) (v := .ref (ad 6)) (fs := (xfReader ad V112 L67 Z)) (C := RX1) (T := TX1) (N := 9) hx hb hg inX1 hown hK hP 1 xgReader rfl 0 (by decide) (hg _ w304) (fun _ h9 => h9) rfl dX1_readComponent_124 ?_
                    refine va_getN (D := D) (ci := 9) (v := .int (V112 6 9)) (fs := (xfTape ad V112 L67 Z)) (C := RX9) (T := TX9) (N := 12) hx hb hg inX9 hown hK hP 6 xgTape rfl 9 (by decide) (hnw.use 262 n262 rfl) (fun _ h9 => h9) rfl dX1_readComponent_127 ?_
                    refine g_top (v := (V66 6 9)) ((up2_o hV112 (by decide)).trans (ajV110 6 9 rfl)) ?_
                    refine lv_sipush (v := 148) hx hb dX1_readComponent_130 (by decide) ?_
                    refine lv_isub hx hb dX1_readComponent_133 ?_
                    refine lv_topi (fun z114 ez114 => ?_)
                    have hz114 : z114.toInt = ((V66 6 9)).toInt - 148 := i_sub ez114 rfl (by decide) (by omega)
                    refine va_putN (D := D) (ci := 3) (v := .int z114) (ty := tyX3 6) (fs := (xfComp ad V112 (24 * b + (Int32.toNatClampNeg (V 43 (5 * b + 2)))))) (C := RX3) (T := TX3) (N := 13) hx hb hg inX3 tyX3 tyX3_ok nmX3 hown hK hP hD hS (72 + (24 * b + (Int32.toNatClampNeg (V 43 (5 * b + 2))))) (xgComp il98) rfl 6 (by decide) (hnw.use 520 n520 rfl) (fun _ h9 => h9) rfl (tyX3_ok 6 (by decide)) rfl rfl (Nat.le_of_ble_eq_true rfl) dX1_readComponent_134 (fun H locs hP hD hS => ?_)
                    obtain ⟨V115, hV115⟩ : ∃ z, z = up2 V112 51 (24 * b + (Int32.toNatClampNeg (V 43 (5 * b + 2)))) z114 := ⟨_, rfl⟩
                    have ew116 : (xw ad kk V112 L67 Z).set (72 + (24 * b + (Int32.toNatClampNeg (V 43 (5 * b + 2))))) ((ad (72 + (24 * b + (Int32.toNatClampNeg (V 43 (5 * b + 2)))))), .inr (3, (xfComp ad V112 (24 * b + (Int32.toNatClampNeg (V 43 (5 * b + 2))))).set 6 (.int z114))) = xw ad kk V115 L67 Z := by rw [hV115]; exact xpComp_scope il98
                    have hP : va_P D vwCl (xw ad kk V115 L67 Z) H := by rw [← ew116]; exact hP
                    have hD : va_D A (xw ad kk V115 L67 Z) := by rw [← ew116]; exact hD
                    have hMV115 : rgd bX V115 := hMV112.put hV115 (show 0 ≤ z114.toInt ∧ z114.toInt ≤ 3 from by first | omega | ((try (have i_t48 := Imp.go t48 (by omega))); (try (have i_t9 := Imp.go t9 (by omega))); (try (have i_t8 := Imp.go t8 (by omega))); (try (have i_t8 := Imp.go t8 (by omega))); (try (have i_t9 := Imp.go t9 (by omega))); (try (have i_t48 := Imp.go t48 (by omega))); omega))
                    have agV115 : agr [(1, 2), (1, 3), (1, 6), (1, 7), (1, 8), (6, 8), (6, 9), (6, 10)] [43, 44, 49, 50, 51, 52, 53, 54, 55, 56, 57, 61] V V115 := agV112.up hV115 rfl
                    refine lv_aload_n hx hb dX1_readComponent_137 rfl (lv_at hl 2 rfl) ?_
                    refine va_get (D := D) (ci := 1) (v := .ref (ad 6)) (fs := (xfReader ad V115 L67 Z)) (C := RX1) (T := TX1) (N := 9) hx hb hg inX1 hown hK hP 1 xgReader rfl 0 (by decide) (hg _ w304) (fun _ h9 => h9) rfl dX1_readComponent_138 ?_
                    have pq118 : (V66 1 2).toInt = ((V 1 2)).toInt := congrArg Int32.toInt ((ajV66 1 2 rfl).trans ((ajV50 1 2 rfl).trans ((ajV34 1 2 rfl).trans (ajV24 1 2 rfl))))
                    have rl117 : RelC V115 L67 b gT sx69 := RelC.agn rl71 (by omega) (show agr [] [49, 50, 51, 52, 53, 54, 55, 56, 57, 61] V66 V115 from (agr.up (agr.up (agr.tr agr.rf ajV110 (by decide) (by decide)) hV112 rfl) hV115 rfl)) (by decide) (show agL [] L67 L67 from agL.rf) (by decide)
                    have kd119 : gT.1 (sx69.1 0) = ((V66 6 9)).toInt := (RelC.kd rl117).trans (congrArg Int32.toInt ((up2_o hV115 (by decide)).trans ((up2_o hV112 (by decide)).trans (ajV110 6 9 rfl))))
                    have hr120 : ∀ k, Rc gT (Crun gs (Istmt :: k)) (Crun (scopeS sx69) (Icalled :: Irank :: IwhenI :: Itake 123 :: IaddNm wx37 :: Imember :: k)) := fun k => Rc.go1 (hr73 k) (sc_y wx37 (by rw [kd119]; omega))
                    have l8121 := RelC.l8 rl117
                    have pq122 : (V115 6 8).toInt = ((V66 6 8)).toInt := congrArg Int32.toInt ((up2_o hV115 (by decide)).trans ((up2_o hV112 (by decide)).trans (ajV110 6 8 rfl)))
                    have r123 : 0 ≤ ((V66 6 8)).toInt ∧ ((V66 6 8)).toInt ≤ 4000 := hMV66 6 8
                    have pq124 : (V115 6 7).toInt = ((V 6 7)).toInt := congrArg Int32.toInt ((up2_o hV115 (by decide)).trans ((up2_o hV112 (by decide)).trans ((ajV110 6 7 rfl).trans ((ajV66 6 7 rfl).trans ((ajV50 6 7 rfl).trans ((ajV34 6 7 rfl).trans (ajV24 6 7 rfl)))))))
                    have pq125 : (V115 6 9).toInt = ((V66 6 9)).toInt := congrArg Int32.toInt ((up2_o hV115 (by decide)).trans ((up2_o hV112 (by decide)).trans (ajV110 6 9 rfl)))
                    have lk126 := RelC.lk rl117 (show (V115 6 9).toInt ≠ 0 from by omega)
                    refine gA_void (gA_runV (As := []) (rest := []) (ci := 9) (q0 := 6) hx hb hml hown hg hP hD hK hS hA hnw hgk (x_next2 l D ks H.size ad kk V115 L67 Z  hMV115 (show (V115 6 8).toInt ≤ (V115 6 7).toInt from by first | omega | ((try (have i_t48 := Imp.go t48 (by omega))); (try (have i_t9 := Imp.go t9 (by omega))); (try (have i_t8 := Imp.go t8 (by omega))); (try (have i_t8 := Imp.go t8 (by omega))); (try (have i_t9 := Imp.go t9 (by omega))); (try (have i_t48 := Imp.go t48 (by omega))); omega))) w871 w852 w853 w157 w854 rfl xgTape hdV_yX9_next ⟨Nat.le_of_ble_eq_true rfl, Nat.le_of_ble_eq_true rfl⟩ rfl hl.1 rfl (Nat.le_of_ble_eq_true rfl) dX1_readComponent_141 ⟨Nat.le_of_ble_eq_true rfl, Nat.le_of_ble_eq_true rfl⟩) hP hD hK hS hA (fun u128 H locs w129 hP hD hK hS => ?_)
                    obtain ⟨V132, L133⟩ := u128
                    obtain ⟨hMV132, ajV132, axL133, t130, t131⟩ := w129
                    have alL133 : agL [1, 6, 44] L L133 := agL.tr alL67 axL133 (by decide)
                    have hP : va_P D vwCl (xw ad kk V132 L133 Z) H := hP
                    have hD : va_D A (xw ad kk V132 L133 Z) := hD
                    have hMV132 : rgd bX V132 := hMV132
                    have ajV132 : agr [(6, 8), (6, 9), (6, 10)] [] V115 V132 := ajV132
                    have agV132 : agr [(1, 2), (1, 3), (1, 6), (1, 7), (1, 8), (6, 8), (6, 9), (6, 10)] [43, 44, 49, 50, 51, 52, 53, 54, 55, 56, 57, 61] V V132 := agV115.tr ajV132 (by decide) (by decide)
                    have t130 : (V132 6 8).toInt ≤ (V132 6 7).toInt := t130
                    have t131 : CUR V132 L133 (Int32.toNatClampNeg (V115 6 8)) := t131
                    have r134 : 0 ≤ ((V132 6 8)).toInt ∧ ((V132 6 8)).toInt ≤ 4000 := hMV132 6 8
                    have pq135 : (V132 6 7).toInt = ((V 6 7)).toInt := congrArg Int32.toInt ((ajV132 6 7 rfl).trans ((up2_o hV115 (by decide)).trans ((up2_o hV112 (by decide)).trans ((ajV110 6 7 rfl).trans ((ajV66 6 7 rfl).trans ((ajV50 6 7 rfl).trans ((ajV34 6 7 rfl).trans (ajV24 6 7 rfl))))))))
                    have rl136 : RelC V132 L133 b gT (nx sx69 1) := RelC.nx1 rl117 ajV132 (by decide) axL133 (by decide) (by rw [← lk126]; exact t131) (ajV132 1 3 rfl)
                    have pq138 : (V132 1 2).toInt = ((V 1 2)).toInt := congrArg Int32.toInt ((ajV132 1 2 rfl).trans ((up2_o hV115 (by decide)).trans ((up2_o hV112 (by decide)).trans ((ajV110 1 2 rfl).trans ((ajV66 1 2 rfl).trans ((ajV50 1 2 rfl).trans ((ajV34 1 2 rfl).trans (ajV24 1 2 rfl))))))))
                    have rl137 : RelC V132 L133 b gT (scopeS sx69) := RelC.sc rl136 (by omega)
                    refine lv_aload_n hx hb dX1_readComponent_144 rfl (lv_at hl 2 rfl) ?_
                    refine lv_aload_n hx hb dX1_readComponent_145 rfl (lv_at hl 0 rfl) ?_
                    have pq139 : (V132 1 1).toInt = ((V 1 1)).toInt := congrArg Int32.toInt ((ajV132 1 1 rfl).trans ((up2_o hV115 (by decide)).trans ((up2_o hV112 (by decide)).trans ((ajV110 1 1 rfl).trans ((ajV66 1 1 rfl).trans ((ajV50 1 1 rfl).trans ((ajV34 1 1 rfl).trans (ajV24 1 1 rfl))))))))
                    refine gA_int (gA_runV (As := [.ref (ad (72 + (24 * b + (Int32.toNatClampNeg (V 43 (5 * b + 2))))))]) (rest := []) (ci := 1) (q0 := 1) hx hb hml hown hg hP hD hK hS hA hnw hgk (x_readExtras3 l D ks H.size ad kk V132 L133 Z (b) (gT) ((scopeS sx69)) ((24 * b + (Int32.toNatClampNeg (V 43 (5 * b + 2))))) hMV132 (show b < 2 from by first | omega | ((try (have i_t48 := Imp.go t48 (by omega))); (try (have i_t9 := Imp.go t9 (by omega))); (try (have i_t8 := Imp.go t8 (by omega))); (try (have i_t8 := Imp.go t8 (by omega))); (try (have i_t9 := Imp.go t9 (by omega))); (try (have i_t48 := Imp.go t48 (by omega))); omega)) (show (V132 1 1).toInt = (b : Int) from by first | omega | ((try (have i_t48 := Imp.go t48 (by omega))); (try (have i_t9 := Imp.go t9 (by omega))); (try (have i_t8 := Imp.go t8 (by omega))); (try (have i_t8 := Imp.go t8 (by omega))); (try (have i_t9 := Imp.go t9 (by omega))); (try (have i_t48 := Imp.go t48 (by omega))); omega)) rl137 (show (24 * b + (Int32.toNatClampNeg (V 43 (5 * b + 2)))) < 48 from by first | omega | ((try (have i_t48 := Imp.go t48 (by omega))); (try (have i_t9 := Imp.go t9 (by omega))); (try (have i_t8 := Imp.go t8 (by omega))); (try (have i_t8 := Imp.go t8 (by omega))); (try (have i_t9 := Imp.go t9 (by omega))); (try (have i_t48 := Imp.go t48 (by omega))); omega)) (show 24 * b ≤ (24 * b + (Int32.toNatClampNeg (V 43 (5 * b + 2)))) from by first | omega | ((try (have i_t48 := Imp.go t48 (by omega))); (try (have i_t9 := Imp.go t9 (by omega))); (try (have i_t8 := Imp.go t8 (by omega))); (try (have i_t8 := Imp.go t8 (by omega))); (try (have i_t9 := Imp.go t9 (by omega))); (try (have i_t48 := Imp.go t48 (by omega))); omega)) (show (24 * b + (Int32.toNatClampNeg (V 43 (5 * b + 2)))) < 24 * b + 24 from by first | omega | ((try (have i_t48 := Imp.go t48 (by omega))); (try (have i_t9 := Imp.go t9 (by omega))); (try (have i_t8 := Imp.go t8 (by omega))); (try (have i_t8 := Imp.go t8 (by omega))); (try (have i_t9 := Imp.go t9 (by omega))); (try (have i_t48 := Imp.go t48 (by omega))); omega))) w919 w921 w14 w162 w922 rfl xgReader hdV_yX1_readExtras ⟨Nat.le_of_ble_eq_true rfl, Nat.le_of_ble_eq_true rfl⟩ rfl hl.1 rfl (Nat.le_of_ble_eq_true rfl) dX1_readComponent_146 ⟨Nat.le_of_ble_eq_true rfl, Nat.le_of_ble_eq_true rfl⟩) hP hD hK hS hA (fun z140 u141 H locs w142 hP hD hK hS => ?_)
                    obtain ⟨V145, L146⟩ := u141
                    obtain ⟨hMV145, ajV145, axL146, rgz140, t143, t144⟩ := w142
                    have alL146 : agL [1, 6, 44] L L146 := agL.tr alL133 axL146 (by decide)
                    have hP : va_P D vwCl (xw ad kk V145 L146 Z) H := hP
                    have hD : va_D A (xw ad kk V145 L146 Z) := hD
                    have hMV145 : rgd bX V145 := hMV145
                    have ajV145 : agr [(1, 3), (1, 6), (1, 8), (6, 8), (6, 9), (6, 10)] [43, 44, 52, 53, 54, 55] V132 V145 := ajV145
                    have agV145 : agr [(1, 2), (1, 3), (1, 6), (1, 7), (1, 8), (6, 8), (6, 9), (6, 10)] [43, 44, 49, 50, 51, 52, 53, 54, 55, 56, 57, 61] V V145 := agV132.tr ajV145 (by decide) (by decide)
                    have rgz140 : 0 ≤ z140.toInt ∧ z140.toInt ≤ 1 := rgz140
                    have t143 : Rd gT (scopeS sx69) (fun k => Icalled :: Irank :: IwhenI :: k) (fun k => k) z140.toInt (V145 1 3).toInt (fun s9 => RelC V145 L146 b gT s9 ∧ keepS (scopeS sx69) 0 s9) := t143
                    have t144 : ROWL b L133 L146 := t144
                    rcases t143 with ⟨q147, sx148, h149, rl150, kp151⟩ | ⟨q147, h149⟩
                    · skip
                      have hr152 : ∀ k, Rc gT (Crun gs (Istmt :: k)) (Crun sx148 (Itake 123 :: IaddNm wx37 :: Imember :: k)) := fun k => (hr120 k).tr (h149 (Itake 123 :: IaddNm wx37 :: Imember :: k))
                      refine lv_if_eq (tgt := 161) hx hb dX1_readComponent_149 (by decide) (fun c153 => ?_) (fun c153 => ?_)
                      · skip
                        have f154 : z140.toInt = 0 := b_eq rfl (by decide) c153
                        exfalso; first | omega | ((try (have i_t48 := Imp.go t48 (by omega))); (try (have i_t9 := Imp.go t9 (by omega))); (try (have i_t8 := Imp.go t8 (by omega))); (try (have i_t8 := Imp.go t8 (by omega))); (try (have i_t9 := Imp.go t9 (by omega))); (try (have i_t48 := Imp.go t48 (by omega))); omega)
                      · skip
                        have f155 : z140.toInt ≠ 0 := b_neq rfl (by decide) c153
                        refine lv_aload_n hx hb dX1_readComponent_152 rfl (lv_at hl 2 rfl) ?_
                        refine lv_bipush (v := 123) hx hb dX1_readComponent_153 (by decide) ?_
                        have r156 : Int32.toInt 123 = 123 := by decide
                        refine gA_int (gA_runV (As := [.int 123]) (rest := []) (ci := 1) (q0 := 1) hx hb hml hown hg hP hD hK hS hA hnw hgk (x_take2 l D ks H.size ad kk V145 L146 Z 123 ((sx148.1 0)) hMV145 (rl150).1 (rl150).2.1.1 (show 1 ≤ (Int32.toInt 123) from by first | omega | ((try (have i_t48 := Imp.go t48 (by omega))); (try (have i_t9 := Imp.go t9 (by omega))); (try (have i_t8 := Imp.go t8 (by omega))); (try (have i_t8 := Imp.go t8 (by omega))); (try (have i_t9 := Imp.go t9 (by omega))); (try (have i_t48 := Imp.go t48 (by omega))); omega))) w893 w895 w10 w162 w896 rfl xgReader hdV_yX1_take ⟨Nat.le_of_ble_eq_true rfl, Nat.le_of_ble_eq_true rfl⟩ rfl hl.1 rfl (Nat.le_of_ble_eq_true rfl) dX1_readComponent_155 ⟨Nat.le_of_ble_eq_true rfl, Nat.le_of_ble_eq_true rfl⟩) hP hD hK hS hA (fun z157 u158 H locs w159 hP hD hK hS => ?_)
                        obtain ⟨V162, L163⟩ := u158
                        obtain ⟨hMV162, ajV162, axL163, rgz157, t160, t161⟩ := w159
                        have alL163 : agL [1, 6, 44] L L163 := agL.tr alL146 axL163 (by decide)
                        have hP : va_P D vwCl (xw ad kk V162 L163 Z) H := hP
                        have hD : va_D A (xw ad kk V162 L163 Z) := hD
                        have hMV162 : rgd bX V162 := hMV162
                        have ajV162 : agr [(1, 3), (6, 8), (6, 9), (6, 10)] [] V145 V162 := ajV162
                        have agV162 : agr [(1, 2), (1, 3), (1, 6), (1, 7), (1, 8), (6, 8), (6, 9), (6, 10)] [43, 44, 49, 50, 51, 52, 53, 54, 55, 56, 57, 61] V V162 := agV145.tr ajV162 (by decide) (by decide)
                        have rgz157 : 0 ≤ z157.toInt ∧ z157.toInt ≤ 1 := rgz157
                        have t160 : Imp (z157.toInt = 0) (1 ≤ (V162 1 3).toInt) := t160
                        have t161 : (z157.toInt = 1 ∧ (V145 12 (sx148.1 0)).toInt = (Int32.toInt 123) ∧ CUR V162 L163 ((sx148.1 0) + 1) ∧ V162 1 3 = V145 1 3) ∨ (z157.toInt = 0 ∧ (V145 12 (sx148.1 0)).toInt ≠ (Int32.toInt 123) ∧ (V162 1 3).toInt = 1 + 16 * (V145 13 (sx148.1 0)).toInt) := t161
                        rcases t161 with ⟨q164, h165, k166, k167⟩ | ⟨q164, h165, k166⟩
                        · skip
                          have rl168 : RelC V162 L163 b gT (nx sx148 1) := RelC.nx1 rl150 ajV162 (by decide) axL163 (by decide) k166 k167
                          have hr169 : ∀ k, Rc gT (Crun gs (Istmt :: k)) (Crun (nx sx148 1) (IaddNm wx37 :: Imember :: k)) := fun k => Rc.go1 (hr152 k) (tk_y (rl150.tok.1.trans (h165.trans (by decide))))
                          refine lv_if_ne (tgt := 163) hx hb dX1_readComponent_158 (by decide) (fun c170 => ?_) (fun c170 => ?_)
                          · skip
                            have f171 : z157.toInt ≠ 0 := b_neq rfl (by decide) c170
                            refine lv_aload_n hx hb dX1_readComponent_163 rfl (lv_at hl 2 rfl) ?_
                            refine va_get (D := D) (ci := 1) (v := rfN ad 38 (V162 1 1)) (fs := (xfReader ad V162 L163 Z)) (C := RX1) (T := TX1) (N := 9) hx hb hg inX1 hown hK hP 1 xgReader rfl 1 (by decide) (hg _ w305) (fun _ h9 => h9) rfl dX1_readComponent_164 ?_
                            have pq172 : (V162 1 1).toInt = ((V 1 1)).toInt := congrArg Int32.toInt ((ajV162 1 1 rfl).trans ((ajV145 1 1 rfl).trans ((ajV132 1 1 rfl).trans ((up2_o hV115 (by decide)).trans ((up2_o hV112 (by decide)).trans ((ajV110 1 1 rfl).trans ((ajV66 1 1 rfl).trans ((ajV50 1 1 rfl).trans ((ajV34 1 1 rfl).trans (ajV24 1 1 rfl))))))))))
                            refine g_topv (v := .ref (ad (38 + b))) (rfN_r (by first | omega | ((try (have i_t160 := Imp.go t160 (by omega))); (try (have i_t48 := Imp.go t48 (by omega))); (try (have i_t9 := Imp.go t9 (by omega))); (try (have i_t8 := Imp.go t8 (by omega))); (try (have i_t8 := Imp.go t8 (by omega))); (try (have i_t9 := Imp.go t9 (by omega))); (try (have i_t48 := Imp.go t48 (by omega))); (try (have i_t160 := Imp.go t160 (by omega))); omega))) ?_
                            refine va_getN (D := D) (ci := 0) (v := .ref (ad (40 + (5 * b + 2)))) (fs := (xfBook ad V162 b)) (C := RX0) (T := TX0) (N := 13) hx hb hg inX0 hown hK hP (38 + b) (xgBook hb2) rfl 2 (by decide) (hnw.use 601 n601 rfl) (fun _ h9 => h9) rfl dX1_readComponent_167 ?_
                            refine lv_lload_n hx hb dX1_readComponent_170 rfl (lv_at hl 1 rfl) ?_
                            have ad1 := (rl168.2.2.1 2 (by decide)).1
                            have ad2 := congrArg List.length (((keepT.tr (keepS.tr (keepS.tr (keepS.tr (keepS.tr (keepS.tr (keepS.rf : keepS gs 0 gs) (keepS.n1 1)) (keepS.n1 1)) (keepS.n1 1)) kp72) (keepS.n1 1)) (keepS.tr (keepS.tr (keepS.rf : keepS (scopeS sx69) 0 (scopeS sx69)) kp151) (keepS.n1 1)))).2.2.1 2 (by decide))
                            have ad3 := ln0
                            refine gA_int (gA_runV (As := [.long (L35 1 5)]) (rest := []) (ci := 6) (q0 := (40 + (5 * b + 2))) hx hb hml hown hg hP hD hK hS hA hnw hgk (x_add2 l D ks H.size ad kk V162 L163 Z (L35 1 5) ((5 * b + 2)) hMV162 (show (5 * b + 2) < 10 from by first | omega | ((try (have i_t160 := Imp.go t160 (by omega))); (try (have i_t48 := Imp.go t48 (by omega))); (try (have i_t9 := Imp.go t9 (by omega))); (try (have i_t8 := Imp.go t8 (by omega))); (try (have i_t8 := Imp.go t8 (by omega))); (try (have i_t9 := Imp.go t9 (by omega))); (try (have i_t48 := Imp.go t48 (by omega))); (try (have i_t160 := Imp.go t160 (by omega))); omega))) w897 w898 w899 w168 w900 rfl (xgNames il4) hdV_yX6_add ⟨Nat.le_of_ble_eq_true rfl, Nat.le_of_ble_eq_true rfl⟩ rfl hl.1 rfl (Nat.le_of_ble_eq_true rfl) dX1_readComponent_171 ⟨Nat.le_of_ble_eq_true rfl, Nat.le_of_ble_eq_true rfl⟩) hP hD hK hS hA (fun z173 u174 H locs w175 hP hD hK hS => ?_)
                            obtain ⟨V181, L182⟩ := u174
                            obtain ⟨hMV181, ajV181, axL182, fyV181, rgz173, t176, t177, t178, t179, t180⟩ := w175
                            have alL182 : agL [1, 6, 44] L L182 := agL.tr alL163 axL182 (by decide)
                            have hP : va_P D vwCl (xw ad kk V181 L182 Z) H := hP
                            have hD : va_D A (xw ad kk V181 L182 Z) := hD
                            have hMV181 : rgd bX V181 := hMV181
                            have ajV181 : agr [] [43, 44] V162 V181 := ajV181
                            have agV181 : agr [(1, 2), (1, 3), (1, 6), (1, 7), (1, 8), (6, 8), (6, 9), (6, 10)] [43, 44, 49, 50, 51, 52, 53, 54, 55, 56, 57, 61] V V181 := agV162.tr ajV181 (by decide) (by decide)
                            have rgz173 : (-1) ≤ z173.toInt ∧ z173.toInt ≤ 23 := rgz173
                            have t176 : z173.toInt < (V181 43 (5 * b + 2)).toInt := t176
                            have t177 : Imp ((V162 43 (5 * b + 2)).toInt < ((xcap (5 * b + 2) : Nat) : Int)) (z173.toInt = (V162 43 (5 * b + 2)).toInt ∧ (V181 43 (5 * b + 2)).toInt = (V162 43 (5 * b + 2)).toInt + 1) := t177
                            have t178 : Imp (((xcap (5 * b + 2) : Nat) : Int) ≤ (V162 43 (5 * b + 2)).toInt) (z173.toInt = -1 ∧ (V181 43 (5 * b + 2)).toInt = (V162 43 (5 * b + 2)).toInt) := t178
                            have t179 : ∀ n : Nat, ¬ n = (5 * b + 2) → V181 43 n = V162 43 n := t179
                            have t180 : (z173.toInt = -1 ∧ L182 = L163) ∨ (0 ≤ z173.toInt ∧ L182 = upL L163 44 (24 * (5 * b + 2) + Int32.toNatClampNeg (V162 43 (5 * b + 2))) (L35 1 5)) := t180
                            have ig185 := Imp.go t177 (by first | omega | ((try (have i_t160 := Imp.go t160 (by omega))); (try (have i_t48 := Imp.go t48 (by omega))); (try (have i_t9 := Imp.go t9 (by omega))); (try (have i_t8 := Imp.go t8 (by omega))); (try (have i_t8 := Imp.go t8 (by omega))); (try (have i_t9 := Imp.go t9 (by omega))); (try (have i_t48 := Imp.go t48 (by omega))); (try (have i_t160 := Imp.go t160 (by omega))); omega))
                            rcases t180 with ⟨q183, h184⟩ | ⟨q183, h184⟩
                            · exfalso; omega
                            · skip
                              have rl186 : RelC V181 L182 b gT (sA (nx sx148 1) 2 wx37) := RelC.add rl168 (by decide) ajV181 (by decide) t179 ig185.2 (by rw [← hw40]; exact h184) (sz24 hMV162) (by omega)
                              have hr187 : ∀ k, Rc gT (Crun gs (Istmt :: k)) (Crun (sA (nx sx148 1) 2 wx37) (Imember :: k)) := fun k => Rc.go1 (hr169 k) (m_addNm wx37)
                              refine lv_pop hx hb dX1_readComponent_174 rfl ?_
                              refine lv_aload_n hx hb dX1_readComponent_175 rfl (lv_at hl 2 rfl) ?_
                              refine lv_aload_n hx hb dX1_readComponent_176 rfl (lv_at hl 0 rfl) ?_
                              refine va_put (D := D) (ci := 1) (v := .ref (ad (72 + (24 * b + (Int32.toNatClampNeg (V 43 (5 * b + 2))))))) (ty := tyX1 2) (fs := (xfReader ad V181 L182 Z)) (C := RX1) (T := TX1) (N := 9) hx hb hg inX1 tyX1 tyX1_ok nmX1 hown hK hP hD hS 1 xgReader rfl 2 (by decide) (hg _ w306) (fun _ h9 => h9) rfl (tyX1_ok 2 (by decide)) rfl rfl (Nat.le_of_ble_eq_true rfl) dX1_readComponent_177 (fun H locs hP hD hS => ?_)
                              have r188 : (nI (24 * b + (Int32.toNatClampNeg (V 43 (5 * b + 2))))).toInt = (((24 * b + (Int32.toNatClampNeg (V 43 (5 * b + 2)))) : Nat) : Int) := nI_toInt (by omega)
                              obtain ⟨V189, hV189⟩ : ∃ z, z = up2 V181 1 2 (nI (24 * b + (Int32.toNatClampNeg (V 43 (5 * b + 2))))) := ⟨_, rfl⟩
                              have ew190 : (xw ad kk V181 L182 Z).set 1 ((ad 1), .inr (1, (xfReader ad V181 L182 Z).set 2 (.ref (ad (72 + (24 * b + (Int32.toNatClampNeg (V 43 (5 * b + 2))))))))) = xw ad kk V189 L182 Z := by rw [hV189]; exact xr_owner il98
                              have hP : va_P D vwCl (xw ad kk V189 L182 Z) H := by rw [← ew190]; exact hP
                              have hD : va_D A (xw ad kk V189 L182 Z) := by rw [← ew190]; exact hD
                              have hMV189 : rgd bX V189 := hMV181.put hV189 (show (-1) ≤ ((nI (24 * b + (Int32.toNatClampNeg (V 43 (5 * b + 2)))))).toInt ∧ ((nI (24 * b + (Int32.toNatClampNeg (V 43 (5 * b + 2)))))).toInt ≤ 47 from by first | omega | ((try (have i_t178 := Imp.go t178 (by omega))); (try (have i_t177 := Imp.go t177 (by omega))); (try (have i_t160 := Imp.go t160 (by omega))); (try (have i_t48 := Imp.go t48 (by omega))); (try (have i_t9 := Imp.go t9 (by omega))); (try (have i_t8 := Imp.go t8 (by omega))); (try (have i_t8 := Imp.go t8 (by omega))); (try (have i_t9 := Imp.go t9 (by omega))); (try (have i_t48 := Imp.go t48 (by omega))); (try (have i_t160 := Imp.go t160 (by omega))); (try (have i_t177 := Imp.go t177 (by omega))); (try (have i_t178 := Imp.go t178 (by omega))); omega))
                              have agV189 : agr [(1, 2), (1, 3), (1, 6), (1, 7), (1, 8), (6, 8), (6, 9), (6, 10)] [43, 44, 49, 50, 51, 52, 53, 54, 55, 56, 57, 61] V V189 := agV181.up hV189 rfl
                              have ow9 : OWr V181 (24 * b + (Int32.toNatClampNeg (V 43 (5 * b + 2)))) (sA (nx sx148 1) 2 wx37) := OWr.fresh (keepS.tr (keepS.tr (keepS.rf : keepS (scopeS sx69) 0 (scopeS sx69)) kp151) (keepS.n1 1)) (by rw [(show agr [(1, 3), (1, 6), (1, 8), (6, 8), (6, 9), (6, 10)] [43, 44, 50, 51, 52, 53, 54, 55] V110 V181 from (agr.tr (agr.tr (agr.tr (agr.tr (agr.up (agr.up agr.rf hV112 rfl) hV115 rfl) ajV132 (by decide) (by decide)) ajV145 (by decide) (by decide)) ajV162 (by decide) (by decide)) ajV181 (by decide) (by decide))) 49 _ rfl]; exact t104) (by rw [(show agr [(1, 3), (1, 6), (1, 8), (6, 8), (6, 9), (6, 10)] [43, 44, 50, 51, 52, 53, 54, 55] V110 V181 from (agr.tr (agr.tr (agr.tr (agr.tr (agr.up (agr.up agr.rf hV112 rfl) hV115 rfl) ajV132 (by decide) (by decide)) ajV145 (by decide) (by decide)) ajV162 (by decide) (by decide)) ajV181 (by decide) (by decide))) 56 _ rfl]; exact t102) (by rw [(show agr [(1, 3), (1, 6), (1, 8), (6, 8), (6, 9), (6, 10)] [43, 44, 50, 51, 52, 53, 54, 55] V110 V181 from (agr.tr (agr.tr (agr.tr (agr.tr (agr.up (agr.up agr.rf hV112 rfl) hV115 rfl) ajV132 (by decide) (by decide)) ajV145 (by decide) (by decide)) ajV162 (by decide) (by decide)) ajV181 (by decide) (by decide))) 57 _ rfl]; exact t103) (fun q hq => by rw [(show agr [(1, 3), (1, 6), (1, 8), (6, 8), (6, 9), (6, 10)] [43, 44, 50, 51, 52, 53, 54, 55] V110 V181 from (agr.tr (agr.tr (agr.tr (agr.tr (agr.up (agr.up agr.rf hV112 rfl) hV115 rfl) ajV132 (by decide) (by decide)) ajV145 (by decide) (by decide)) ajV162 (by decide) (by decide)) ajV181 (by decide) (by decide))) 61 _ rfl]; exact t105 q hq) wx37
                              have rl191 : RelC V189 L182 b gT (sA (nx sx148 1) 2 wx37) := RelC.os (o := (24 * b + (Int32.toNatClampNeg (V 43 (5 * b + 2))))) rl186 hV189 (nI_toInt (by omega)) ow9
                              refine lv_iconst (v := 1) hx hb dX1_readComponent_180 (by decide) ?_
                              have pq192 : (V189 1 2).toInt = ((nI (24 * b + (Int32.toNatClampNeg (V 43 (5 * b + 2)))))).toInt := congrArg Int32.toInt (up2_s hV189)
                              have ps193 : gs.1 0 + 1 ≤ (nx gs 1).1 0 := ((keepS.n1 1)).1
                              have ps194 : (nx gs 1).1 0 + 1 ≤ (nx (nx gs 1) 1).1 0 := ((keepS.n1 1)).1
                              have ps195 : (nx (nx gs 1) 1).1 0 + 1 ≤ (nx (nx (nx gs 1) 1) 1).1 0 := ((keepS.n1 1)).1
                              have ps196 : (nx (nx (nx gs 1) 1) 1).1 0 + 1 ≤ sx69.1 0 := (kp72).1
                              have ps197 : sx69.1 0 + 1 ≤ (nx sx69 1).1 0 := ((keepS.n1 1)).1
                              have ps198 : (scopeS sx69).1 0 = (nx sx69 1).1 0 := rfl
                              have ps199 : (scopeS sx69).1 0 + 0 ≤ sx148.1 0 := (kp151).1
                              have ps200 : sx148.1 0 + 1 ≤ (nx sx148 1).1 0 := ((keepS.n1 1)).1
                              have ps201 : (sA (nx sx148 1) 2 wx37).1 0 = (nx sx148 1).1 0 := rfl
                              have rw202 : ROWL b L L182 := (fun k hk => ((ROWL.ad t180 t178 (hMV162 43 _).1 (by omega) hk).trans ((axL163 44 k rfl).trans ((t144 k hk).trans ((axL133 44 k rfl).trans ((axL67 44 k rfl).trans ((axL51 44 k rfl).trans ((axL35 44 k rfl).trans ((axL25 44 k rfl).trans rfl)))))))))
                              exact W.zret (v := 1) hx hb hr rfl (fun t ht hW => ⟨⟨1, (V189, L182), rfl, ⟨hMV189, agV189, alL182, (by decide), (Imp.mk (fun _ => (show 24 * (b : Int) ≤ (V189 1 2).toInt ∧ (V189 1 2).toInt < 24 * (b : Int) + 24 from by first | omega | ((try (have i_t178 := Imp.go t178 (by omega))); (try (have i_t177 := Imp.go t177 (by omega))); (try (have i_t160 := Imp.go t160 (by omega))); (try (have i_t48 := Imp.go t48 (by omega))); (try (have i_t9 := Imp.go t9 (by omega))); (try (have i_t8 := Imp.go t8 (by omega))); (try (have i_t8 := Imp.go t8 (by omega))); (try (have i_t9 := Imp.go t9 (by omega))); (try (have i_t48 := Imp.go t48 (by omega))); (try (have i_t160 := Imp.go t160 (by omega))); (try (have i_t177 := Imp.go t177 (by omega))); (try (have i_t178 := Imp.go t178 (by omega))); omega)))), (Or.inl ⟨rfl, (sA (nx sx148 1) 2 wx37), hr187, rl191, (by omega)⟩), rw202⟩, by rw [ht]; exact hP, va_K.moved hW.alike hK, hD⟩, hS.F ht⟩) hS.2.2 dX1_readComponent_181
                          · skip
                            have f203 : z157.toInt = 0 := b_eq rfl (by decide) c170
                            exfalso; first | omega | ((try (have i_t160 := Imp.go t160 (by omega))); (try (have i_t48 := Imp.go t48 (by omega))); (try (have i_t9 := Imp.go t9 (by omega))); (try (have i_t8 := Imp.go t8 (by omega))); (try (have i_t8 := Imp.go t8 (by omega))); (try (have i_t9 := Imp.go t9 (by omega))); (try (have i_t48 := Imp.go t48 (by omega))); (try (have i_t160 := Imp.go t160 (by omega))); omega)
                        · skip
                          have hb204 : ∀ k, Rc gT (Crun gs (Istmt :: k)) (Cbad (V162 1 3).toInt) := fun k => Rc.go1 (hr152 k) ((tk_n (fun h9 => h165 (rl150.tok.1.symm.trans (h9.trans (by decide))))).trans (fl_eq rl150.tok.2.2 k166))
                          refine lv_if_ne (tgt := 163) hx hb dX1_readComponent_158 (by decide) (fun c205 => ?_) (fun c205 => ?_)
                          · skip
                            have f206 : z157.toInt ≠ 0 := b_neq rfl (by decide) c205
                            exfalso; first | omega | ((try (have i_t160 := Imp.go t160 (by omega))); (try (have i_t48 := Imp.go t48 (by omega))); (try (have i_t9 := Imp.go t9 (by omega))); (try (have i_t8 := Imp.go t8 (by omega))); (try (have i_t8 := Imp.go t8 (by omega))); (try (have i_t9 := Imp.go t9 (by omega))); (try (have i_t48 := Imp.go t48 (by omega))); (try (have i_t160 := Imp.go t160 (by omega))); omega)
                          · skip
                            have f207 : z157.toInt = 0 := b_eq rfl (by decide) c205
                            refine lv_iconst (v := 0) hx hb dX1_readComponent_161 (by decide) ?_
                            have pq208 : (V162 1 2).toInt = ((V 1 2)).toInt := congrArg Int32.toInt ((ajV162 1 2 rfl).trans ((ajV145 1 2 rfl).trans ((ajV132 1 2 rfl).trans ((up2_o hV115 (by decide)).trans ((up2_o hV112 (by decide)).trans ((ajV110 1 2 rfl).trans ((ajV66 1 2 rfl).trans ((ajV50 1 2 rfl).trans ((ajV34 1 2 rfl).trans (ajV24 1 2 rfl))))))))))
                            have rw209 : ROWL b L L163 := (fun k hk => ((axL163 44 k rfl).trans ((t144 k hk).trans ((axL133 44 k rfl).trans ((axL67 44 k rfl).trans ((axL51 44 k rfl).trans ((axL35 44 k rfl).trans ((axL25 44 k rfl).trans rfl))))))))
                            exact W.zret (v := 0) hx hb hr rfl (fun t ht hW => ⟨⟨0, (V162, L163), rfl, ⟨hMV162, agV162, alL163, (by decide), (Imp.mk (fun hp => absurd hp (by decide))), (Or.inr ⟨rfl, hb204⟩), rw209⟩, by rw [ht]; exact hP, va_K.moved hW.alike hK, hD⟩, hS.F ht⟩) hS.2.2 dX1_readComponent_162
                    · skip
                      have hb210 : ∀ k, Rc gT (Crun gs (Istmt :: k)) (Cbad (V145 1 3).toInt) := fun k => (hr120 k).tr (h149 (Itake 123 :: IaddNm wx37 :: Imember :: k))
                      refine lv_if_eq (tgt := 161) hx hb dX1_readComponent_149 (by decide) (fun c211 => ?_) (fun c211 => ?_)
                      · skip
                        have f212 : z140.toInt = 0 := b_eq rfl (by decide) c211
                        refine lv_iconst (v := 0) hx hb dX1_readComponent_161 (by decide) ?_
                        have pq213 : (V145 1 2).toInt = ((V 1 2)).toInt := congrArg Int32.toInt ((ajV145 1 2 rfl).trans ((ajV132 1 2 rfl).trans ((up2_o hV115 (by decide)).trans ((up2_o hV112 (by decide)).trans ((ajV110 1 2 rfl).trans ((ajV66 1 2 rfl).trans ((ajV50 1 2 rfl).trans ((ajV34 1 2 rfl).trans (ajV24 1 2 rfl)))))))))
                        have rw214 : ROWL b L L146 := (fun k hk => ((t144 k hk).trans ((axL133 44 k rfl).trans ((axL67 44 k rfl).trans ((axL51 44 k rfl).trans ((axL35 44 k rfl).trans ((axL25 44 k rfl).trans rfl)))))))
                        exact W.zret (v := 0) hx hb hr rfl (fun t ht hW => ⟨⟨0, (V145, L146), rfl, ⟨hMV145, agV145, alL146, (by decide), (Imp.mk (fun hp => absurd hp (by decide))), (Or.inr ⟨rfl, hb210⟩), rw214⟩, by rw [ht]; exact hP, va_K.moved hW.alike hK, hD⟩, hS.F ht⟩) hS.2.2 dX1_readComponent_162
                      · skip
                        have f215 : z140.toInt ≠ 0 := b_neq rfl (by decide) c211
                        exfalso; first | omega | ((try (have i_t48 := Imp.go t48 (by omega))); (try (have i_t9 := Imp.go t9 (by omega))); (try (have i_t8 := Imp.go t8 (by omega))); (try (have i_t8 := Imp.go t8 (by omega))); (try (have i_t9 := Imp.go t9 (by omega))); (try (have i_t48 := Imp.go t48 (by omega))); omega)
                  · skip
                    have f216 : 151 < ((V66 6 9)).toInt := b_nle rfl (by decide) c92
                    refine lv_aload_n hx hb dX1_readComponent_85 rfl (lv_at hl 1 rfl) ?_
                    refine lv_iconst (v := 1) hx hb dX1_readComponent_86 (by decide) ?_
                    have kd217 : gT.1 (sx69.1 0) = ((V66 6 9)).toInt := RelC.kd rl71
                    have r218 : Int32.toInt 1 = 1 := by decide
                    refine gA_int (gA_runV (As := [.int 1]) (rest := []) (ci := 1) (q0 := 1) hx hb hml hown hg hP hD hK hS hA hnw hgk (x_wrong2 l D ks H.size ad kk V66 L67 Z 1 hMV66 (by decide)) w867 w869 w6 w162 w870 rfl xgReader hdV_yX1_wrong ⟨Nat.le_of_ble_eq_true rfl, Nat.le_of_ble_eq_true rfl⟩ rfl hl.1 rfl (Nat.le_of_ble_eq_true rfl) dX1_readComponent_87 ⟨Nat.le_of_ble_eq_true rfl, Nat.le_of_ble_eq_true rfl⟩) hP hD hK hS hA (fun z219 u220 H locs w221 hP hD hK hS => ?_)
                    obtain ⟨V224, L225⟩ := u220
                    obtain ⟨hMV224, ajV224, axL225, rgz219, t222, t223⟩ := w221
                    have axL225 : L67 = L225 := Eq.symm axL225
                    subst axL225
                    have hP : va_P D vwCl (xw ad kk V224 L67 Z) H := hP
                    have hD : va_D A (xw ad kk V224 L67 Z) := hD
                    have hMV224 : rgd bX V224 := hMV224
                    have ajV224 : agr [(1, 3)] [] V66 V224 := ajV224
                    have agV224 : agr [(1, 2), (1, 3), (1, 6), (1, 7), (1, 8), (6, 8), (6, 9), (6, 10)] [43, 44, 49, 50, 51, 52, 53, 54, 55, 56, 57, 61] V V224 := agV66.tr ajV224 (by decide) (by decide)
                    have rgz219 : 0 ≤ z219.toInt ∧ z219.toInt ≤ 0 := rgz219
                    have t222 : 1 ≤ (V224 1 3).toInt := t222
                    have t223 : (V224 1 3).toInt = (Int32.toInt 1) + 16 * (V66 6 10).toInt := t223
                    have r226 : 0 ≤ ((V66 6 10)).toInt ∧ ((V66 6 10)).toInt ≤ 4000 := hMV66 6 10
                    have hb227 : ∀ k, Rc gT (Crun gs (Istmt :: k)) (Cbad (V224 1 3).toInt) := fun k => Rc.go1 (hr73 k) ((sc_n wx37 (by rw [kd217]; omega)).trans (fl_eq (RelC.st rl71) (show (V224 1 3).toInt = 1 + 16 * (V66 6 10).toInt from by omega)))
                    have pq228 : (V224 1 2).toInt = ((V 1 2)).toInt := congrArg Int32.toInt ((ajV224 1 2 rfl).trans ((ajV66 1 2 rfl).trans ((ajV50 1 2 rfl).trans ((ajV34 1 2 rfl).trans (ajV24 1 2 rfl)))))
                    have rw229 : ROWL b L L67 := (fun k hk => ((axL67 44 k rfl).trans ((axL51 44 k rfl).trans ((axL35 44 k rfl).trans ((axL25 44 k rfl).trans rfl)))))
                    exact W.zret (v := z219) hx hb hr (nb_ok (by omega)) (fun t ht hW => ⟨⟨z219, (V224, L67), rfl, ⟨hMV224, agV224, alL67, (show 0 ≤ z219.toInt ∧ z219.toInt ≤ 1 from by first | omega | ((try (have i_t48 := Imp.go t48 (by omega))); (try (have i_t9 := Imp.go t9 (by omega))); (try (have i_t8 := Imp.go t8 (by omega))); (try (have i_t8 := Imp.go t8 (by omega))); (try (have i_t9 := Imp.go t9 (by omega))); (try (have i_t48 := Imp.go t48 (by omega))); omega)), (Imp.mk (fun hp => have hp : z219.toInt = 1 := hp; (show 24 * (b : Int) ≤ (V224 1 2).toInt ∧ (V224 1 2).toInt < 24 * (b : Int) + 24 from by first | omega | ((try (have i_t48 := Imp.go t48 (by omega))); (try (have i_t9 := Imp.go t9 (by omega))); (try (have i_t8 := Imp.go t8 (by omega))); (try (have i_t8 := Imp.go t8 (by omega))); (try (have i_t9 := Imp.go t9 (by omega))); (try (have i_t48 := Imp.go t48 (by omega))); omega)))), (Or.inr ⟨(by omega), hb227⟩), rw229⟩, by rw [ht]; exact hP, va_K.moved hW.alike hK, hD⟩, hS.F ht⟩) hS.2.2 dX1_readComponent_90
              · skip
                have f230 : z62.toInt = 0 := b_eq rfl (by decide) c74
                exfalso; first | omega | ((try (have i_t48 := Imp.go t48 (by omega))); (try (have i_t9 := Imp.go t9 (by omega))); (try (have i_t8 := Imp.go t8 (by omega))); (try (have i_t8 := Imp.go t8 (by omega))); (try (have i_t9 := Imp.go t9 (by omega))); (try (have i_t48 := Imp.go t48 (by omega))); omega)
            · skip
              have hb231 : ∀ k, Rc gT (Crun gs (Istmt :: k)) (Cbad (V66 1 3).toInt) := fun k => (hr57 k).tr (h70 (Iscope wx37 :: k))
              refine lv_if_ne (tgt := 59) hx hb dX1_readComponent_54 (by decide) (fun c232 => ?_) (fun c232 => ?_)
              · skip
                have f233 : z62.toInt ≠ 0 := b_neq rfl (by decide) c232
                exfalso; first | omega | ((try (have i_t48 := Imp.go t48 (by omega))); (try (have i_t9 := Imp.go t9 (by omega))); (try (have i_t8 := Imp.go t8 (by omega))); (try (have i_t8 := Imp.go t8 (by omega))); (try (have i_t9 := Imp.go t9 (by omega))); (try (have i_t48 := Imp.go t48 (by omega))); omega)
              · skip
                have f234 : z62.toInt = 0 := b_eq rfl (by decide) c232
                refine lv_iconst (v := 0) hx hb dX1_readComponent_57 (by decide) ?_
                have pq235 : (V66 1 2).toInt = ((V 1 2)).toInt := congrArg Int32.toInt ((ajV66 1 2 rfl).trans ((ajV50 1 2 rfl).trans ((ajV34 1 2 rfl).trans (ajV24 1 2 rfl))))
                have rw236 : ROWL b L L67 := (fun k hk => ((axL67 44 k rfl).trans ((axL51 44 k rfl).trans ((axL35 44 k rfl).trans ((axL25 44 k rfl).trans rfl)))))
                exact W.zret (v := 0) hx hb hr rfl (fun t ht hW => ⟨⟨0, (V66, L67), rfl, ⟨hMV66, agV66, alL67, (by decide), (Imp.mk (fun hp => absurd hp (by decide))), (Or.inr ⟨rfl, hb231⟩), rw236⟩, by rw [ht]; exact hP, va_K.moved hW.alike hK, hD⟩, hS.F ht⟩) hS.2.2 dX1_readComponent_58
        · skip
          have hb237 : ∀ k, Rc gT (Crun gs (Istmt :: k)) (Cbad (V50 1 3).toInt) := fun k => Rc.go1 (hr41 k) ((tk_n (fun h9 => h53 (rl39.tok.1.symm.trans (h9.trans (by decide))))).trans (fl_eq rl39.tok.2.2 k54))
          refine lv_if_eq (tgt := 57) hx hb dX1_readComponent_47 (by decide) (fun c238 => ?_) (fun c238 => ?_)
          · skip
            have f239 : z45.toInt = 0 := b_eq rfl (by decide) c238
            refine lv_iconst (v := 0) hx hb dX1_readComponent_57 (by decide) ?_
            have pq240 : (V50 1 2).toInt = ((V 1 2)).toInt := congrArg Int32.toInt ((ajV50 1 2 rfl).trans ((ajV34 1 2 rfl).trans (ajV24 1 2 rfl)))
            have rw241 : ROWL b L L51 := (fun k hk => ((axL51 44 k rfl).trans ((axL35 44 k rfl).trans ((axL25 44 k rfl).trans rfl))))
            exact W.zret (v := 0) hx hb hr rfl (fun t ht hW => ⟨⟨0, (V50, L51), rfl, ⟨hMV50, agV50, alL51, (by decide), (Imp.mk (fun hp => absurd hp (by decide))), (Or.inr ⟨rfl, hb237⟩), rw241⟩, by rw [ht]; exact hP, va_K.moved hW.alike hK, hD⟩, hS.F ht⟩) hS.2.2 dX1_readComponent_58
          · skip
            have f242 : z45.toInt ≠ 0 := b_neq rfl (by decide) c238
            exfalso; first | omega | ((try (have i_t48 := Imp.go t48 (by omega))); (try (have i_t9 := Imp.go t9 (by omega))); (try (have i_t8 := Imp.go t8 (by omega))); (try (have i_t8 := Imp.go t8 (by omega))); (try (have i_t9 := Imp.go t9 (by omega))); (try (have i_t48 := Imp.go t48 (by omega))); omega)
      · skip
        have f243 : z30.toInt = 0 := b_eq rfl (by decide) c42
        exfalso; first | omega | ((try (have i_t9 := Imp.go t9 (by omega))); (try (have i_t8 := Imp.go t8 (by omega))); (try (have i_t8 := Imp.go t8 (by omega))); (try (have i_t9 := Imp.go t9 (by omega))); omega)
    · skip
      have hb244 : ∀ k, Rc gT (Crun gs (Istmt :: k)) (Cbad (V34 1 3).toInt) := fun k => Rc.go1 (hr14 k) (nc_b h38)
      refine lv_if_ne (tgt := 35) hx hb dX1_readComponent_30 (by decide) (fun c245 => ?_) (fun c245 => ?_)
      · skip
        have f246 : z30.toInt ≠ 0 := b_neq rfl (by decide) c245
        exfalso; first | omega | ((try (have i_t9 := Imp.go t9 (by omega))); (try (have i_t8 := Imp.go t8 (by omega))); (try (have i_t8 := Imp.go t8 (by omega))); (try (have i_t9 := Imp.go t9 (by omega))); omega)
      · skip
        have f247 : z30.toInt = 0 := b_eq rfl (by decide) c245
        refine lv_iconst (v := 0) hx hb dX1_readComponent_33 (by decide) ?_
        have pq248 : (V34 1 2).toInt = ((V 1 2)).toInt := congrArg Int32.toInt ((ajV34 1 2 rfl).trans (ajV24 1 2 rfl))
        have rw249 : ROWL b L L35 := (fun k hk => ((axL35 44 k rfl).trans ((axL25 44 k rfl).trans rfl)))
        exact W.zret (v := 0) hx hb hr rfl (fun t ht hW => ⟨⟨0, (V34, L35), rfl, ⟨hMV34, agV34, alL35, (by decide), (Imp.mk (fun hp => absurd hp (by decide))), (Or.inr ⟨rfl, hb244⟩), rw249⟩, by rw [ht]; exact hP, va_K.moved hW.alike hK, hD⟩, hS.F ht⟩) hS.2.2 dX1_readComponent_34
  · skip
    have f250 : z5.toInt ≠ 0 := b_neq rfl (by decide) c10
    refine lv_aload_n hx hb dX1_readComponent_13 rfl (lv_at hl 0 rfl) ?_
    refine lv_iconst (v := 5) hx hb dX1_readComponent_14 (by decide) ?_
    have kd251 : gT.1 (gs.1 0) = ((V 6 9)).toInt := RelC.kd rel
    have r252 : Int32.toInt 5 = 5 := by decide
    refine gA_int (gA_runV (As := [.int 5]) (rest := []) (ci := 1) (q0 := 1) hx hb hml hown hg hP hD hK hS hA hnw hgk (x_wrong2 l D ks H.size ad kk V L Z 5 hMV (by decide)) w867 w869 w6 w162 w870 rfl xgReader hdV_yX1_wrong ⟨Nat.le_of_ble_eq_true rfl, Nat.le_of_ble_eq_true rfl⟩ rfl hl.1 rfl (Nat.le_of_ble_eq_true rfl) dX1_readComponent_15 ⟨Nat.le_of_ble_eq_true rfl, Nat.le_of_ble_eq_true rfl⟩) hP hD hK hS hA (fun z253 u254 H locs w255 hP hD hK hS => ?_)
    obtain ⟨V258, L259⟩ := u254
    obtain ⟨hMV258, ajV258, axL259, rgz253, t256, t257⟩ := w255
    have axL259 : L = L259 := Eq.symm axL259
    subst axL259
    have hP : va_P D vwCl (xw ad kk V258 L Z) H := hP
    have hD : va_D A (xw ad kk V258 L Z) := hD
    have hMV258 : rgd bX V258 := hMV258
    have ajV258 : agr [(1, 3)] [] V V258 := ajV258
    have agV258 : agr [(1, 2), (1, 3), (1, 6), (1, 7), (1, 8), (6, 8), (6, 9), (6, 10)] [43, 44, 49, 50, 51, 52, 53, 54, 55, 56, 57, 61] V V258 := agV.tr ajV258 (by decide) (by decide)
    have rgz253 : 0 ≤ z253.toInt ∧ z253.toInt ≤ 0 := rgz253
    have t256 : 1 ≤ (V258 1 3).toInt := t256
    have t257 : (V258 1 3).toInt = (Int32.toInt 5) + 16 * (V 6 10).toInt := t257
    have r260 : 0 ≤ ((V 6 10)).toInt ∧ ((V 6 10)).toInt ≤ 4000 := hMV 6 10
    have hr261 : ∀ k, Rc gT (Crun gs (Istmt :: k)) (Crun gs (Istmt :: k)) := fun k => Rc.rf
    have hb262 : ∀ k, Rc gT (Crun gs (Istmt :: k)) (Cbad (V258 1 3).toInt) := fun k => Rc.go1 (hr261 k) ((st_131f (kd251.trans kd9) (by first | omega | ((try (have i_t9 := Imp.go t9 (by omega))); (try (have i_t8 := Imp.go t8 (by omega))); (try (have i_t8 := Imp.go t8 (by omega))); (try (have i_t9 := Imp.go t9 (by omega))); omega))).trans (fl_eq (RelC.st rel) (show (V258 1 3).toInt = 5 + 16 * (V 6 10).toInt from by omega)))
    have pq263 : (V258 1 2).toInt = ((V 1 2)).toInt := congrArg Int32.toInt (ajV258 1 2 rfl)
    have rw264 : ROWL b L L := (fun k hk => rfl)
    exact W.zret (v := z253) hx hb hr (nb_ok (by omega)) (fun t ht hW => ⟨⟨z253, (V258, L), rfl, ⟨hMV258, agV258, alL, (show 0 ≤ z253.toInt ∧ z253.toInt ≤ 1 from by first | omega | ((try (have i_t9 := Imp.go t9 (by omega))); (try (have i_t8 := Imp.go t8 (by omega))); (try (have i_t8 := Imp.go t8 (by omega))); (try (have i_t9 := Imp.go t9 (by omega))); omega)), (Imp.mk (fun hp => have hp : z253.toInt = 1 := hp; (show 24 * (b : Int) ≤ (V258 1 2).toInt ∧ (V258 1 2).toInt < 24 * (b : Int) + 24 from by first | omega | ((try (have i_t9 := Imp.go t9 (by omega))); (try (have i_t8 := Imp.go t8 (by omega))); (try (have i_t8 := Imp.go t8 (by omega))); (try (have i_t9 := Imp.go t9 (by omega))); omega)))), (Or.inr ⟨(by omega), hb262⟩), rw264⟩, by rw [ht]; exact hP, va_K.moved hW.alike hK, hD⟩, hS.F ht⟩) hS.2.2 dX1_readComponent_18
abbrev r_x_readWrap3 : Room := { frames := 91, cells := 0, slots := 0, locals := 2683 }
abbrev q_x_readWrap3 (D : va_G) (ks : KS) (ad : Nat → Nat) (kk : Nat → ClassId) (V : Vf) (L : Lf) (Z : XZ) (b : Nat) (gT : Tk) (gs : St) (A : Nat → Prop) : Array Value → State → Outcome → State → Prop := va_Qi (fun (r : Int32) (u : Vf × Lf) => rgd bX u.1 ∧ agr [(1, 3), (1, 4), (1, 6), (1, 8), (6, 8), (6, 9), (6, 10)] [41, 42, 43, 44, 47, 48, 62, 63, 64, 65, 66] V u.1 ∧ agL [6, 44] L u.2 ∧ (0 ≤ r.toInt ∧ r.toInt ≤ 1) ∧ (Rd gT gs (fun k => Istmt :: k) (fun k => Istmt :: k) r.toInt (u.1 1 3).toInt (fun s9 => RelC u.1 u.2 b gT s9 ∧ gs.1 0 + 1 ≤ s9.1 0)) ∧ (ROWL b L u.2)) (fun u t => gq D A (xw ad kk u.1 u.2 Z) (xty kk Z) t) A
set_option maxHeartbeats 4000000 in
set_option maxRecDepth 100000 in
theorem x_readWrap3 (l : Launch) (D : va_G) (ks : KS) (sz : Nat) (ad : Nat → Nat) (kk : Nat → ClassId) (V : Vf) (L : Lf) (Z : XZ) (b : Nat) (gT : Tk) (gs : St) (hMV : rgd bX V) (hb2 : b < 2) (rbk : (V 1 1).toInt = (b : Int)) (own : (V 1 2).toInt = -1) (rel : RelC V L b gT gs) (kd9 : (V 6 9).toInt = 136)  : Met l yX1_readWrap (Cond.code yX1_readWrap cX1_readWrap 6 (some .boolean) :: GW) r_x_readWrap3 (va_Pc [.ref (ad 1)] (gp D ks (xw ad kk V L Z) (xty kk Z) sz)) (q_x_readWrap3 D ks ad kk V L Z  b gT gs (va_A (xw ad kk V L Z) sz)) 0 0 (va_A (xw ad kk V L Z) sz) := by
  refine g_met (q_x_readWrap3 D ks ad kk V L Z  b gT gs) (by decide) (Nat.le_of_ble_eq_true rfl) ?_
  intro p e s m below meth c A ls H locs hx hb hr hml hown hg hlocks hin hnw hgk hP hK hD hS hA hl
  have hown : s.vm.findClass RX1 = some m.cls := hown
  have hl : lv_has ls 6 [(0, .ref (ad 1))] := hl
  have hP : va_P D vwCl (xw ad kk V L Z) H := hP
  have hD : va_D A (xw ad kk V L Z) := hD
  have hK : va_K D vwCl (xty kk Z) s := hK
  have agV : agr [(1, 3), (1, 4), (1, 6), (1, 8), (6, 8), (6, 9), (6, 10)] [41, 42, 43, 44, 47, 48, 62, 63, 64, 65, 66] V V := agr.rf
  have alL : agL [6, 44] L L := agL.rf
  have r1 : (-1) ≤ ((V 1 1)).toInt ∧ ((V 1 1)).toInt ≤ 1 := hMV 1 1
  have r2 : (-1) ≤ ((V 1 2)).toInt ∧ ((V 1 2)).toInt ≤ 47 := hMV 1 2
  have ln0 := rel.2.2.2.1.1
  refine lv_aload_n hx hb dX1_readWrap_0 rfl (lv_at hl 0 rfl) ?_
  refine va_get (D := D) (ci := 1) (v := rfN ad 38 (V 1 1)) (fs := (xfReader ad V L Z)) (C := RX1) (T := TX1) (N := 9) hx hb hg inX1 hown hK hP 1 xgReader rfl 1 (by decide) (hg _ w305) (fun _ h9 => h9) rfl dX1_readWrap_1 ?_
  refine g_topv (v := .ref (ad (38 + b))) (rfN_r (by omega)) ?_
  refine va_getN (D := D) (ci := 0) (v := .int (V 41 b)) (fs := (xfBook ad V b)) (C := RX0) (T := TX0) (N := 13) hx hb hg inX0 hown hK hP (38 + b) (xgBook hb2) rfl 11 (by decide) (hnw.use 626 n626 rfl) (fun _ h9 => h9) rfl dX1_readWrap_4 ?_
  have r3 : 0 ≤ ((V 41 b)).toInt ∧ ((V 41 b)).toInt ≤ 12 := hMV 41 b
  refine lv_bipush (v := 12) hx hb dX1_readWrap_7 (by decide) ?_
  refine lv_icmp_lt (tgt := 18) hx hb dX1_readWrap_9 (by decide) (fun c4 => ?_) (fun c4 => ?_)
  · skip
    have f5 : ((V 41 b)).toInt < 12 := b_lt rfl (by decide) c4
    refine lv_aload_n hx hb dX1_readWrap_18 rfl (lv_at hl 0 rfl) ?_
    refine va_get (D := D) (ci := 1) (v := .ref (ad 6)) (fs := (xfReader ad V L Z)) (C := RX1) (T := TX1) (N := 9) hx hb hg inX1 hown hK hP 1 xgReader rfl 0 (by decide) (hg _ w304) (fun _ h9 => h9) rfl dX1_readWrap_19 ?_
    have hr6 : ∀ k, Rc gT (Crun gs (Istmt :: k)) (Crun gs (Istmt :: k)) := fun k => Rc.rf
    have kd7 : gT.1 (gs.1 0) = ((V 6 9)).toInt := RelC.kd rel
    have hr8 : ∀ k, Rc gT (Crun gs (Istmt :: k)) (Crun (nx gs 1) (IwrapType :: k)) := fun k => Rc.go1 (hr6 k) (st_136 (kd7.trans kd9) (by omega))
    have l89 := RelC.l8 rel
    have r10 : 0 ≤ ((V 6 8)).toInt ∧ ((V 6 8)).toInt ≤ 4000 := hMV 6 8
    have r11 : 0 ≤ ((V 6 7)).toInt ∧ ((V 6 7)).toInt ≤ 4000 := hMV 6 7
    have lk12 := RelC.lk rel (show (V 6 9).toInt ≠ 0 from by omega)
    refine gA_void (gA_runV (As := []) (rest := []) (ci := 9) (q0 := 6) hx hb hml hown hg hP hD hK hS hA hnw hgk (x_next2 l D ks H.size ad kk V L Z  hMV (show (V 6 8).toInt ≤ (V 6 7).toInt from by omega)) w871 w852 w853 w157 w854 rfl xgTape hdV_yX9_next ⟨Nat.le_of_ble_eq_true rfl, Nat.le_of_ble_eq_true rfl⟩ rfl hl.1 rfl (Nat.le_of_ble_eq_true rfl) dX1_readWrap_22 ⟨Nat.le_of_ble_eq_true rfl, Nat.le_of_ble_eq_true rfl⟩) hP hD hK hS hA (fun u14 H locs w15 hP hD hK hS => ?_)
    obtain ⟨V18, L19⟩ := u14
    obtain ⟨hMV18, ajV18, axL19, t16, t17⟩ := w15
    have alL19 : agL [6, 44] L L19 := agL.tr alL axL19 (by decide)
    have hP : va_P D vwCl (xw ad kk V18 L19 Z) H := hP
    have hD : va_D A (xw ad kk V18 L19 Z) := hD
    have hMV18 : rgd bX V18 := hMV18
    have ajV18 : agr [(6, 8), (6, 9), (6, 10)] [] V V18 := ajV18
    have agV18 : agr [(1, 3), (1, 4), (1, 6), (1, 8), (6, 8), (6, 9), (6, 10)] [41, 42, 43, 44, 47, 48, 62, 63, 64, 65, 66] V V18 := agV.tr ajV18 (by decide) (by decide)
    have t16 : (V18 6 8).toInt ≤ (V18 6 7).toInt := t16
    have t17 : CUR V18 L19 (Int32.toNatClampNeg (V 6 8)) := t17
    have r20 : 0 ≤ ((V18 6 8)).toInt ∧ ((V18 6 8)).toInt ≤ 4000 := hMV18 6 8
    have pq21 : (V18 6 7).toInt = ((V 6 7)).toInt := congrArg Int32.toInt (ajV18 6 7 rfl)
    have rl22 : RelC V18 L19 b gT (nx gs 1) := RelC.nx1 rel ajV18 (by decide) axL19 (by decide) (by rw [← lk12]; exact t17) (ajV18 1 3 rfl)
    refine lv_aload_n hx hb dX1_readWrap_25 rfl (lv_at hl 0 rfl) ?_
    have pq23 : (V18 1 1).toInt = ((V 1 1)).toInt := congrArg Int32.toInt (ajV18 1 1 rfl)
    refine gA_int (gA_runV (As := []) (rest := []) (ci := 1) (q0 := 1) hx hb hml hown hg hP hD hK hS hA hnw hgk (x_isToldType3 l D ks H.size ad kk V18 L19 Z (b) (gT) ((nx gs 1)) hMV18 (show b < 2 from by omega) (show (V18 1 1).toInt = (b : Int) from by omega) rl22) w888 w890 w9 w162 w891 rfl xgReader hdV_yX1_isToldType ⟨Nat.le_of_ble_eq_true rfl, Nat.le_of_ble_eq_true rfl⟩ rfl hl.1 rfl (Nat.le_of_ble_eq_true rfl) dX1_readWrap_26 ⟨Nat.le_of_ble_eq_true rfl, Nat.le_of_ble_eq_true rfl⟩) hP hD hK hS hA (fun z24 u25 H locs w26 hP hD hK hS => ?_)
    obtain ⟨V28, L29⟩ := u25
    obtain ⟨hMV28, ajV28, axL29, rgz24, t27⟩ := w26
    have axL29 : L19 = L29 := Eq.symm axL29
    subst axL29
    have hP : va_P D vwCl (xw ad kk V28 L19 Z) H := hP
    have hD : va_D A (xw ad kk V28 L19 Z) := hD
    have hMV28 : rgd bX V28 := hMV28
    have ajV28 : agr [(1, 3), (1, 6)] [] V18 V28 := ajV28
    have agV28 : agr [(1, 3), (1, 4), (1, 6), (1, 8), (6, 8), (6, 9), (6, 10)] [41, 42, 43, 44, 47, 48, 62, 63, 64, 65, 66] V V28 := agV18.tr ajV28 (by decide) (by decide)
    have rgz24 : 0 ≤ z24.toInt ∧ z24.toInt ≤ 1 := rgz24
    have t27 : KcN (look gT (nx gs 1) ((nx gs 1).2.1 0)) z24.toInt (V28 1 3).toInt (fun f9 => RelC V28 L19 b gT (nx gs 1) ∧ (V28 1 6).toInt = ((f9 : Nat) : Int) ∧ f9 < 24) := t27
    rcases t27 with ⟨q30, fx31, h32, rl33, hf34, hb35⟩ | ⟨q30, h32⟩
    · skip
      have kn36 := look_ne h32
      have kd37 : gT.1 ((nx gs 1).1 0) = ((V18 6 9)).toInt := (RelC.kd rl33).trans (congrArg Int32.toInt (ajV28 6 9 rfl))
      refine lv_if_ne (tgt := 34) hx hb dX1_readWrap_29 (by decide) (fun c38 => ?_) (fun c38 => ?_)
      · skip
        have f39 : z24.toInt ≠ 0 := b_neq rfl (by decide) c38
        refine lv_aload_n hx hb dX1_readWrap_34 rfl (lv_at hl 0 rfl) ?_
        refine va_get (D := D) (ci := 1) (v := .int (V28 1 6)) (fs := (xfReader ad V28 L19 Z)) (C := RX1) (T := TX1) (N := 9) hx hb hg inX1 hown hK hP 1 xgReader rfl 6 (by decide) (hg _ w310) (fun _ h9 => h9) rfl dX1_readWrap_35 ?_
        have r40 : (-1) ≤ ((V28 1 6)).toInt ∧ ((V28 1 6)).toInt ≤ 23 := hMV28 1 6
        refine lv_istore_n (lv' := [(1, .int (V28 1 6)), (0, .ref (ad 1))]) hx hb dX1_readWrap_38 rfl hl (by decide) rfl (fun ls hl => ?_)
        refine lv_aload_n hx hb dX1_readWrap_39 rfl (lv_at hl 1 rfl) ?_
        refine va_get (D := D) (ci := 1) (v := .ref (ad 6)) (fs := (xfReader ad V28 L19 Z)) (C := RX1) (T := TX1) (N := 9) hx hb hg inX1 hown hK hP 1 xgReader rfl 0 (by decide) (hg _ w304) (fun _ h9 => h9) rfl dX1_readWrap_40 ?_
        have hr41 : ∀ k, Rc gT (Crun gs (Istmt :: k)) (Crun (nx (nx gs 1) 1) (Itake 46 :: IwrapMeth :: k)) := fun k => Rc.go1 (hr8 k) (wt_y h32)
        have l842 := RelC.l8 rl33
        have pq43 : (V28 6 8).toInt = ((V18 6 8)).toInt := congrArg Int32.toInt (ajV28 6 8 rfl)
        have pq44 : (V28 6 7).toInt = ((V 6 7)).toInt := congrArg Int32.toInt ((ajV28 6 7 rfl).trans (ajV18 6 7 rfl))
        have pq45 : (V28 6 9).toInt = ((V18 6 9)).toInt := congrArg Int32.toInt (ajV28 6 9 rfl)
        have lk46 := RelC.lk rl33 (show (V28 6 9).toInt ≠ 0 from by omega)
        refine gA_void (gA_runV (As := []) (rest := []) (ci := 9) (q0 := 6) hx hb hml hown hg hP hD hK hS hA hnw hgk (x_next2 l D ks H.size ad kk V28 L19 Z  hMV28 (show (V28 6 8).toInt ≤ (V28 6 7).toInt from by omega)) w871 w852 w853 w157 w854 rfl xgTape hdV_yX9_next ⟨Nat.le_of_ble_eq_true rfl, Nat.le_of_ble_eq_true rfl⟩ rfl hl.1 rfl (Nat.le_of_ble_eq_true rfl) dX1_readWrap_43 ⟨Nat.le_of_ble_eq_true rfl, Nat.le_of_ble_eq_true rfl⟩) hP hD hK hS hA (fun u48 H locs w49 hP hD hK hS => ?_)
        obtain ⟨V52, L53⟩ := u48
        obtain ⟨hMV52, ajV52, axL53, t50, t51⟩ := w49
        have alL53 : agL [6, 44] L L53 := agL.tr alL19 axL53 (by decide)
        have hP : va_P D vwCl (xw ad kk V52 L53 Z) H := hP
        have hD : va_D A (xw ad kk V52 L53 Z) := hD
        have hMV52 : rgd bX V52 := hMV52
        have ajV52 : agr [(6, 8), (6, 9), (6, 10)] [] V28 V52 := ajV52
        have agV52 : agr [(1, 3), (1, 4), (1, 6), (1, 8), (6, 8), (6, 9), (6, 10)] [41, 42, 43, 44, 47, 48, 62, 63, 64, 65, 66] V V52 := agV28.tr ajV52 (by decide) (by decide)
        have t50 : (V52 6 8).toInt ≤ (V52 6 7).toInt := t50
        have t51 : CUR V52 L53 (Int32.toNatClampNeg (V28 6 8)) := t51
        have r54 : 0 ≤ ((V52 6 8)).toInt ∧ ((V52 6 8)).toInt ≤ 4000 := hMV52 6 8
        have pq55 : (V52 6 7).toInt = ((V 6 7)).toInt := congrArg Int32.toInt ((ajV52 6 7 rfl).trans ((ajV28 6 7 rfl).trans (ajV18 6 7 rfl)))
        have rl56 : RelC V52 L53 b gT (nx (nx gs 1) 1) := RelC.nx1 rl33 ajV52 (by decide) axL53 (by decide) (by rw [← lk46]; exact t51) (ajV52 1 3 rfl)
        refine lv_aload_n hx hb dX1_readWrap_46 rfl (lv_at hl 1 rfl) ?_
        refine lv_bipush (v := 46) hx hb dX1_readWrap_47 (by decide) ?_
        have r57 : Int32.toInt 46 = 46 := by decide
        refine gA_int (gA_runV (As := [.int 46]) (rest := []) (ci := 1) (q0 := 1) hx hb hml hown hg hP hD hK hS hA hnw hgk (x_take2 l D ks H.size ad kk V52 L53 Z 46 (((nx (nx gs 1) 1).1 0)) hMV52 (rl56).1 (rl56).2.1.1 (show 1 ≤ (Int32.toInt 46) from by omega)) w893 w895 w10 w162 w896 rfl xgReader hdV_yX1_take ⟨Nat.le_of_ble_eq_true rfl, Nat.le_of_ble_eq_true rfl⟩ rfl hl.1 rfl (Nat.le_of_ble_eq_true rfl) dX1_readWrap_49 ⟨Nat.le_of_ble_eq_true rfl, Nat.le_of_ble_eq_true rfl⟩) hP hD hK hS hA (fun z58 u59 H locs w60 hP hD hK hS => ?_)
        obtain ⟨V63, L64⟩ := u59
        obtain ⟨hMV63, ajV63, axL64, rgz58, t61, t62⟩ := w60
        have alL64 : agL [6, 44] L L64 := agL.tr alL53 axL64 (by decide)
        have hP : va_P D vwCl (xw ad kk V63 L64 Z) H := hP
        have hD : va_D A (xw ad kk V63 L64 Z) := hD
        have hMV63 : rgd bX V63 := hMV63
        have ajV63 : agr [(1, 3), (6, 8), (6, 9), (6, 10)] [] V52 V63 := ajV63
        have agV63 : agr [(1, 3), (1, 4), (1, 6), (1, 8), (6, 8), (6, 9), (6, 10)] [41, 42, 43, 44, 47, 48, 62, 63, 64, 65, 66] V V63 := agV52.tr ajV63 (by decide) (by decide)
        have rgz58 : 0 ≤ z58.toInt ∧ z58.toInt ≤ 1 := rgz58
        have t61 : Imp (z58.toInt = 0) (1 ≤ (V63 1 3).toInt) := t61
        have t62 : (z58.toInt = 1 ∧ (V52 12 ((nx (nx gs 1) 1).1 0)).toInt = (Int32.toInt 46) ∧ CUR V63 L64 (((nx (nx gs 1) 1).1 0) + 1) ∧ V63 1 3 = V52 1 3) ∨ (z58.toInt = 0 ∧ (V52 12 ((nx (nx gs 1) 1).1 0)).toInt ≠ (Int32.toInt 46) ∧ (V63 1 3).toInt = 1 + 16 * (V52 13 ((nx (nx gs 1) 1).1 0)).toInt) := t62
        rcases t62 with ⟨q65, h66, k67, k68⟩ | ⟨q65, h66, k67⟩
        · skip
          have rl69 : RelC V63 L64 b gT (nx (nx (nx gs 1) 1) 1) := RelC.nx1 rl56 ajV63 (by decide) axL64 (by decide) k67 k68
          have hr70 : ∀ k, Rc gT (Crun gs (Istmt :: k)) (Crun (nx (nx (nx gs 1) 1) 1) (IwrapMeth :: k)) := fun k => Rc.go1 (hr41 k) (tk_y (rl56.tok.1.trans (h66.trans (by decide))))
          refine lv_if_eq (tgt := 63) hx hb dX1_readWrap_52 (by decide) (fun c71 => ?_) (fun c71 => ?_)
          · skip
            have f72 : z58.toInt = 0 := b_eq rfl (by decide) c71
            exfalso; first | omega | ((try (have i_t61 := Imp.go t61 (by omega))); omega)
          · skip
            have f73 : z58.toInt ≠ 0 := b_neq rfl (by decide) c71
            refine lv_aload_n hx hb dX1_readWrap_55 rfl (lv_at hl 1 rfl) ?_
            refine lv_null hx hb dX1_readWrap_56 ?_
            have pq74 : (V63 1 1).toInt = ((V 1 1)).toInt := congrArg Int32.toInt ((ajV63 1 1 rfl).trans ((ajV52 1 1 rfl).trans ((ajV28 1 1 rfl).trans (ajV18 1 1 rfl))))
            refine gA_int (gA_runV (As := [.null]) (rest := []) (ci := 1) (q0 := 1) hx hb hml hown hg hP hD hK hS hA hnw hgk (x_takeMethodN3 l D ks H.size ad kk V63 L64 Z (b) (gT) ((nx (nx (nx gs 1) 1) 1)) hMV63 (show b < 2 from by first | omega | ((try (have i_t61 := Imp.go t61 (by omega))); omega)) (show (V63 1 1).toInt = (b : Int) from by first | omega | ((try (have i_t61 := Imp.go t61 (by omega))); omega)) rl69) w939 w941 w19 w162 w942 rfl xgReader hdV_yX1_takeMethod ⟨Nat.le_of_ble_eq_true rfl, Nat.le_of_ble_eq_true rfl⟩ rfl hl.1 rfl (Nat.le_of_ble_eq_true rfl) dX1_readWrap_57 ⟨Nat.le_of_ble_eq_true rfl, Nat.le_of_ble_eq_true rfl⟩) hP hD hK hS hA (fun z75 u76 H locs w77 hP hD hK hS => ?_)
            obtain ⟨V80, L81⟩ := u76
            obtain ⟨hMV80, ajV80, axL81, rgz75, t78, t79⟩ := w77
            have alL81 : agL [6, 44] L L81 := agL.tr alL64 axL81 (by decide)
            have hP : va_P D vwCl (xw ad kk V80 L81 Z) H := hP
            have hD : va_D A (xw ad kk V80 L81 Z) := hD
            have hMV80 : rgd bX V80 := hMV80
            have ajV80 : agr [(1, 3), (1, 6), (6, 8), (6, 9), (6, 10)] [43, 44] V63 V80 := ajV80
            have agV80 : agr [(1, 3), (1, 4), (1, 6), (1, 8), (6, 8), (6, 9), (6, 10)] [41, 42, 43, 44, 47, 48, 62, 63, 64, 65, 66] V V80 := agV63.tr ajV80 (by decide) (by decide)
            have rgz75 : 0 ≤ z75.toInt ∧ z75.toInt ≤ 1 := rgz75
            have t78 : KcS (mthW gT (nx (nx (nx gs 1) 1) 1) 3) z75.toInt (V80 1 3).toInt (fun x9 => RelC V80 L81 b gT x9.2 ∧ (V80 1 6).toInt = ((x9.1 : Nat) : Int) ∧ x9.1 < 20 ∧ keepS (nx (nx (nx gs 1) 1) 1) 1 x9.2) := t78
            have t79 : ROWL b L64 L81 := t79
            rcases t78 with ⟨q82, mx83, h84, rl85, hf86, hb87, kp88⟩ | ⟨q82, h84⟩
            · skip
              have hr89 : ∀ k, Rc gT (Crun gs (Istmt :: k)) (Crun mx83.2 (Inum 0 99 :: Iphase mx83.1 :: k)) := fun k => Rc.go1 (hr70 k) (wm_y h84)
              refine lv_if_ne (tgt := 65) hx hb dX1_readWrap_60 (by decide) (fun c90 => ?_) (fun c90 => ?_)
              · skip
                have f91 : z75.toInt ≠ 0 := b_neq rfl (by decide) c90
                refine lv_aload_n hx hb dX1_readWrap_65 rfl (lv_at hl 1 rfl) ?_
                refine va_get (D := D) (ci := 1) (v := .int (V80 1 6)) (fs := (xfReader ad V80 L81 Z)) (C := RX1) (T := TX1) (N := 9) hx hb hg inX1 hown hK hP 1 xgReader rfl 6 (by decide) (hg _ w310) (fun _ h9 => h9) rfl dX1_readWrap_66 ?_
                have r92 : (-1) ≤ ((V80 1 6)).toInt ∧ ((V80 1 6)).toInt ≤ 23 := hMV80 1 6
                refine lv_istore_n (lv' := [(2, .int (V80 1 6)), (1, .int (V28 1 6)), (0, .ref (ad 1))]) hx hb dX1_readWrap_69 rfl hl (by decide) rfl (fun ls hl => ?_)
                refine lv_aload_n hx hb dX1_readWrap_70 rfl (lv_at hl 2 rfl) ?_
                refine lv_iconst (v := 0) hx hb dX1_readWrap_71 (by decide) ?_
                refine lv_bipush (v := 99) hx hb dX1_readWrap_72 (by decide) ?_
                have r93 : Int32.toInt 0 = 0 := by decide
                have r94 : Int32.toInt 99 = 99 := by decide
                refine gA_int (gA_runV (As := [.int 0, .int 99]) (rest := []) (ci := 1) (q0 := 1) hx hb hml hown hg hP hD hK hS hA hnw hgk (x_takeNumber2 l D ks H.size ad kk V80 L81 Z 0 99 ((mx83.2.1 0)) hMV80 (rl85).1 (rl85).2.1.1 (show 0 ≤ (Int32.toInt 0) from by first | omega | ((try (have i_t61 := Imp.go t61 (by omega))); omega)) (show (Int32.toInt 99) ≤ 999999999 from by first | omega | ((try (have i_t61 := Imp.go t61 (by omega))); omega))) w906 w908 w12 w162 w909 rfl xgReader hdV_yX1_takeNumber ⟨Nat.le_of_ble_eq_true rfl, Nat.le_of_ble_eq_true rfl⟩ rfl hl.1 rfl (Nat.le_of_ble_eq_true rfl) dX1_readWrap_74 ⟨Nat.le_of_ble_eq_true rfl, Nat.le_of_ble_eq_true rfl⟩) hP hD hK hS hA (fun z95 u96 H locs w97 hP hD hK hS => ?_)
                obtain ⟨V101, L102⟩ := u96
                obtain ⟨hMV101, ajV101, axL102, rgz95, t98, t99, t100⟩ := w97
                have alL102 : agL [6, 44] L L102 := agL.tr alL81 axL102 (by decide)
                have hP : va_P D vwCl (xw ad kk V101 L102 Z) H := hP
                have hD : va_D A (xw ad kk V101 L102 Z) := hD
                have hMV101 : rgd bX V101 := hMV101
                have ajV101 : agr [(1, 3), (1, 8), (6, 8), (6, 9), (6, 10)] [] V80 V101 := ajV101
                have agV101 : agr [(1, 3), (1, 4), (1, 6), (1, 8), (6, 8), (6, 9), (6, 10)] [41, 42, 43, 44, 47, 48, 62, 63, 64, 65, 66] V V101 := agV80.tr ajV101 (by decide) (by decide)
                have rgz95 : 0 ≤ z95.toInt ∧ z95.toInt ≤ 1 := rgz95
                have t98 : Imp (z95.toInt = 1) ((Int32.toInt 0) ≤ (V101 1 8).toInt ∧ (V101 1 8).toInt ≤ (Int32.toInt 99)) := t98
                have t99 : Imp (z95.toInt = 0) (1 ≤ (V101 1 3).toInt) := t99
                have t100 : (z95.toInt = 1 ∧ (V80 12 (mx83.2.1 0)).toInt = 2 ∧ (Int32.toInt 0) ≤ (L81 14 (mx83.2.1 0)).toInt ∧ (L81 14 (mx83.2.1 0)).toInt ≤ (Int32.toInt 99) ∧ CUR V101 L102 ((mx83.2.1 0) + 1) ∧ (V101 1 8).toInt = (L81 14 (mx83.2.1 0)).toInt ∧ V101 1 3 = V80 1 3) ∨ (z95.toInt = 0 ∧ (((V80 12 (mx83.2.1 0)).toInt ≠ 2 ∧ (V101 1 3).toInt = 1 + 16 * (V80 13 (mx83.2.1 0)).toInt) ∨ ((V80 12 (mx83.2.1 0)).toInt = 2 ∧ ((L81 14 (mx83.2.1 0)).toInt < (Int32.toInt 0) ∨ (Int32.toInt 99) < (L81 14 (mx83.2.1 0)).toInt) ∧ (V101 1 3).toInt = 4 + 16 * (V80 13 (mx83.2.1 0)).toInt))) := t100
                have r103 : 0 ≤ ((V101 1 8)).toInt ∧ ((V101 1 8)).toInt ≤ 999999999 := hMV101 1 8
                have nv111 := congrArg Int64.toInt rl85.tok.2.1
                rcases t100 with ⟨q104, h105, h106, h107, k108, k109, k110⟩ | ⟨q104, ⟨h105, k108⟩ | ⟨h105, h106, k108⟩⟩
                · skip
                  have rl112 : RelC V101 L102 b gT (nx mx83.2 1) := RelC.nx1 rl85 ajV101 (by decide) axL102 (by decide) k108 k110
                  have hr113 : ∀ k, Rc gT (Crun gs (Istmt :: k)) (Crun (nx mx83.2 1) (Iphase mx83.1 :: k)) := fun k => Rc.go1 (hr89 k) (nm_y (rl85.tok.1.trans h105) (by omega) (by omega))
                  refine lv_if_ne (tgt := 82) hx hb dX1_readWrap_77 (by decide) (fun c114 => ?_) (fun c114 => ?_)
                  · skip
                    have f115 : z95.toInt ≠ 0 := b_neq rfl (by decide) c114
                    refine lv_aload_n hx hb dX1_readWrap_82 rfl (lv_at hl 2 rfl) ?_
                    refine va_get (D := D) (ci := 1) (v := .int (V101 1 8)) (fs := (xfReader ad V101 L102 Z)) (C := RX1) (T := TX1) (N := 9) hx hb hg inX1 hown hK hP 1 xgReader rfl 8 (by decide) (hg _ w312) (fun _ h9 => h9) rfl dX1_readWrap_83 ?_
                    refine lv_istore_n (lv' := [(3, .int (V101 1 8)), (2, .int (V80 1 6)), (1, .int (V28 1 6)), (0, .ref (ad 1))]) hx hb dX1_readWrap_86 rfl hl (by decide) rfl (fun ls hl => ?_)
                    refine lv_aload_n hx hb dX1_readWrap_87 rfl (lv_at hl 3 rfl) ?_
                    refine va_get (D := D) (ci := 1) (v := .ref (ad 6)) (fs := (xfReader ad V101 L102 Z)) (C := RX1) (T := TX1) (N := 9) hx hb hg inX1 hown hK hP 1 xgReader rfl 0 (by decide) (hg _ w304) (fun _ h9 => h9) rfl dX1_readWrap_88 ?_
                    refine va_getN (D := D) (ci := 9) (v := .int (V101 6 9)) (fs := (xfTape ad V101 L102 Z)) (C := RX9) (T := TX9) (N := 12) hx hb hg inX9 hown hK hP 6 xgTape rfl 9 (by decide) (hnw.use 262 n262 rfl) (fun _ h9 => h9) rfl dX1_readWrap_91 ?_
                    refine lv_sipush (v := 152) hx hb dX1_readWrap_94 (by decide) ?_
                    refine lv_icmp_lt (tgt := 113) hx hb dX1_readWrap_97 (by decide) (fun c116 => ?_) (fun c116 => ?_)
                    · skip
                      have f117 : ((V101 6 9)).toInt < 152 := b_lt rfl (by decide) c116
                      refine lv_aload_n hx hb dX1_readWrap_113 rfl (lv_at hl 3 rfl) ?_
                      refine lv_iconst (v := 1) hx hb dX1_readWrap_114 (by decide) ?_
                      have kd118 : gT.1 ((nx mx83.2 1).1 0) = ((V101 6 9)).toInt := RelC.kd rl112
                      have r119 : Int32.toInt 1 = 1 := by decide
                      refine gA_int (gA_runV (As := [.int 1]) (rest := []) (ci := 1) (q0 := 1) hx hb hml hown hg hP hD hK hS hA hnw hgk (x_wrong2 l D ks H.size ad kk V101 L102 Z 1 hMV101 (by decide)) w867 w869 w6 w162 w870 rfl xgReader hdV_yX1_wrong ⟨Nat.le_of_ble_eq_true rfl, Nat.le_of_ble_eq_true rfl⟩ rfl hl.1 rfl (Nat.le_of_ble_eq_true rfl) dX1_readWrap_115 ⟨Nat.le_of_ble_eq_true rfl, Nat.le_of_ble_eq_true rfl⟩) hP hD hK hS hA (fun z120 u121 H locs w122 hP hD hK hS => ?_)
                      obtain ⟨V125, L126⟩ := u121
                      obtain ⟨hMV125, ajV125, axL126, rgz120, t123, t124⟩ := w122
                      have axL126 : L102 = L126 := Eq.symm axL126
                      subst axL126
                      have hP : va_P D vwCl (xw ad kk V125 L102 Z) H := hP
                      have hD : va_D A (xw ad kk V125 L102 Z) := hD
                      have hMV125 : rgd bX V125 := hMV125
                      have ajV125 : agr [(1, 3)] [] V101 V125 := ajV125
                      have agV125 : agr [(1, 3), (1, 4), (1, 6), (1, 8), (6, 8), (6, 9), (6, 10)] [41, 42, 43, 44, 47, 48, 62, 63, 64, 65, 66] V V125 := agV101.tr ajV125 (by decide) (by decide)
                      have rgz120 : 0 ≤ z120.toInt ∧ z120.toInt ≤ 0 := rgz120
                      have t123 : 1 ≤ (V125 1 3).toInt := t123
                      have t124 : (V125 1 3).toInt = (Int32.toInt 1) + 16 * (V101 6 10).toInt := t124
                      have r127 : 0 ≤ ((V101 6 10)).toInt ∧ ((V101 6 10)).toInt ≤ 4000 := hMV101 6 10
                      have hb128 : ∀ k, Rc gT (Crun gs (Istmt :: k)) (Cbad (V125 1 3).toInt) := fun k => Rc.go1 (hr113 k) ((ph_1 mx83.1 (by rw [kd118]; omega)).trans (fl_eq (RelC.st rl112) (show (V125 1 3).toInt = 1 + 16 * (V101 6 10).toInt from by omega)))
                      have rw129 : ROWL b L L102 := (fun k hk => ((axL102 44 k rfl).trans ((t79 k hk).trans ((axL64 44 k rfl).trans ((axL53 44 k rfl).trans ((axL19 44 k rfl).trans rfl))))))
                      exact W.zret (v := z120) hx hb hr (nb_ok (by omega)) (fun t ht hW => ⟨⟨z120, (V125, L102), rfl, ⟨hMV125, agV125, alL102, (show 0 ≤ z120.toInt ∧ z120.toInt ≤ 1 from by first | omega | ((try (have i_t99 := Imp.go t99 (by omega))); (try (have i_t98 := Imp.go t98 (by omega))); (try (have i_t61 := Imp.go t61 (by omega))); (try (have i_t61 := Imp.go t61 (by omega))); (try (have i_t98 := Imp.go t98 (by omega))); (try (have i_t99 := Imp.go t99 (by omega))); omega)), (Or.inr ⟨(by omega), hb128⟩), rw129⟩, by rw [ht]; exact hP, va_K.moved hW.alike hK, hD⟩, hS.F ht⟩) hS.2.2 dX1_readWrap_118
                    · skip
                      have f130 : 152 ≤ ((V101 6 9)).toInt := b_nlt rfl (by decide) c116
                      refine lv_aload_n hx hb dX1_readWrap_100 rfl (lv_at hl 3 rfl) ?_
                      refine va_get (D := D) (ci := 1) (v := .ref (ad 6)) (fs := (xfReader ad V101 L102 Z)) (C := RX1) (T := TX1) (N := 9) hx hb hg inX1 hown hK hP 1 xgReader rfl 0 (by decide) (hg _ w304) (fun _ h9 => h9) rfl dX1_readWrap_101 ?_
                      refine va_getN (D := D) (ci := 9) (v := .int (V101 6 9)) (fs := (xfTape ad V101 L102 Z)) (C := RX9) (T := TX9) (N := 12) hx hb hg inX9 hown hK hP 6 xgTape rfl 9 (by decide) (hnw.use 262 n262 rfl) (fun _ h9 => h9) rfl dX1_readWrap_104 ?_
                      refine lv_sipush (v := 155) hx hb dX1_readWrap_107 (by decide) ?_
                      refine lv_icmp_le (tgt := 119) hx hb dX1_readWrap_110 (by decide) (fun c131 => ?_) (fun c131 => ?_)
                      · skip
                        have f132 : ((V101 6 9)).toInt ≤ 155 := b_le rfl (by decide) c131
                        refine lv_aload_n hx hb dX1_readWrap_119 rfl (lv_at hl 3 rfl) ?_
                        refine va_get (D := D) (ci := 1) (v := .ref (ad 6)) (fs := (xfReader ad V101 L102 Z)) (C := RX1) (T := TX1) (N := 9) hx hb hg inX1 hown hK hP 1 xgReader rfl 0 (by decide) (hg _ w304) (fun _ h9 => h9) rfl dX1_readWrap_120 ?_
                        refine va_getN (D := D) (ci := 9) (v := .int (V101 6 9)) (fs := (xfTape ad V101 L102 Z)) (C := RX9) (T := TX9) (N := 12) hx hb hg inX9 hown hK hP 6 xgTape rfl 9 (by decide) (hnw.use 262 n262 rfl) (fun _ h9 => h9) rfl dX1_readWrap_123 ?_
                        refine lv_sipush (v := 152) hx hb dX1_readWrap_126 (by decide) ?_
                        refine lv_isub hx hb dX1_readWrap_129 ?_
                        refine lv_topi (fun z133 ez133 => ?_)
                        have hz133 : z133.toInt = ((V101 6 9)).toInt - 152 := i_sub ez133 rfl (by decide) (by omega)
                        refine lv_istore (lv' := [(4, .int z133), (3, .int (V101 1 8)), (2, .int (V80 1 6)), (1, .int (V28 1 6)), (0, .ref (ad 1))]) hx hb dX1_readWrap_130 hl (by decide) rfl (fun ls hl => ?_)
                        refine lv_iload hx hb dX1_readWrap_132 (lv_at hl 0 rfl) ?_
                        refine lv_iconst (v := 1) hx hb dX1_readWrap_134 (by decide) ?_
                        refine lv_icmp_ne (tgt := 156) hx hb dX1_readWrap_135 (by decide) (fun c134 => ?_) (fun c134 => ?_)
                        · skip
                          have f135 : z133.toInt ≠ 1 := b_neq rfl (by decide) c134
                          have kd136 : gT.1 ((nx mx83.2 1).1 0) = ((V101 6 9)).toInt := RelC.kd rl112
                          have hr137 : ∀ k, Rc gT (Crun gs (Istmt :: k)) (Crun (sN (nx (nx mx83.2 1) 1) 4 1) (Iexpr 0 :: Itake 59 :: IaddWr mx83.1 (gT.1 ((nx mx83.2 1).1 0) - 152) :: Istmt :: k)) := fun k => Rc.go1 (hr113 k) (ph_y mx83.1 (by rw [kd136]; omega) (by rw [kd136]; omega))
                          refine lv_aload_n hx hb dX1_readWrap_156 rfl (lv_at hl 4 rfl) ?_
                          refine va_get (D := D) (ci := 1) (v := rfN ad 38 (V101 1 1)) (fs := (xfReader ad V101 L102 Z)) (C := RX1) (T := TX1) (N := 9) hx hb hg inX1 hown hK hP 1 xgReader rfl 1 (by decide) (hg _ w305) (fun _ h9 => h9) rfl dX1_readWrap_157 ?_
                          have pq138 : (V101 1 1).toInt = ((V 1 1)).toInt := congrArg Int32.toInt ((ajV101 1 1 rfl).trans ((ajV80 1 1 rfl).trans ((ajV63 1 1 rfl).trans ((ajV52 1 1 rfl).trans ((ajV28 1 1 rfl).trans (ajV18 1 1 rfl))))))
                          refine g_topv (v := .ref (ad (38 + b))) (rfN_r (by first | omega | ((try (have i_t99 := Imp.go t99 (by omega))); (try (have i_t98 := Imp.go t98 (by omega))); (try (have i_t61 := Imp.go t61 (by omega))); (try (have i_t61 := Imp.go t61 (by omega))); (try (have i_t98 := Imp.go t98 (by omega))); (try (have i_t99 := Imp.go t99 (by omega))); omega))) ?_
                          refine va_getN (D := D) (ci := 0) (v := .int (V101 42 b)) (fs := (xfBook ad V101 b)) (C := RX0) (T := TX0) (N := 13) hx hb hg inX0 hown hK hP (38 + b) (xgBook hb2) rfl 12 (by decide) (hnw.use 630 n630 rfl) (fun _ h9 => h9) rfl dX1_readWrap_160 ?_
                          refine g_top (v := (V 42 b)) ((ajV101 42 b rfl).trans ((ajV80 42 b rfl).trans ((ajV63 42 b rfl).trans ((ajV52 42 b rfl).trans ((ajV28 42 b rfl).trans (ajV18 42 b rfl)))))) ?_
                          have r139 : 0 ≤ ((V 42 b)).toInt ∧ ((V 42 b)).toInt ≤ 8200 := hMV 42 b
                          refine lv_istore (lv' := [(5, .int (V 42 b)), (4, .int z133), (3, .int (V101 1 8)), (2, .int (V80 1 6)), (1, .int (V28 1 6)), (0, .ref (ad 1))]) hx hb dX1_readWrap_163 hl (by decide) rfl (fun ls hl => ?_)
                          refine lv_aload_n hx hb dX1_readWrap_165 rfl (lv_at hl 5 rfl) ?_
                          refine va_get (D := D) (ci := 1) (v := .ref (ad 6)) (fs := (xfReader ad V101 L102 Z)) (C := RX1) (T := TX1) (N := 9) hx hb hg inX1 hown hK hP 1 xgReader rfl 0 (by decide) (hg _ w304) (fun _ h9 => h9) rfl dX1_readWrap_166 ?_
                          have l8140 := RelC.l8 rl112
                          have r141 : 0 ≤ ((V101 6 8)).toInt ∧ ((V101 6 8)).toInt ≤ 4000 := hMV101 6 8
                          have pq142 : (V101 6 7).toInt = ((V 6 7)).toInt := congrArg Int32.toInt ((ajV101 6 7 rfl).trans ((ajV80 6 7 rfl).trans ((ajV63 6 7 rfl).trans ((ajV52 6 7 rfl).trans ((ajV28 6 7 rfl).trans (ajV18 6 7 rfl))))))
                          have lk143 := RelC.lk rl112 (show (V101 6 9).toInt ≠ 0 from by omega)
                          refine gA_void (gA_runV (As := []) (rest := []) (ci := 9) (q0 := 6) hx hb hml hown hg hP hD hK hS hA hnw hgk (x_next2 l D ks H.size ad kk V101 L102 Z  hMV101 (show (V101 6 8).toInt ≤ (V101 6 7).toInt from by first | omega | ((try (have i_t99 := Imp.go t99 (by omega))); (try (have i_t98 := Imp.go t98 (by omega))); (try (have i_t61 := Imp.go t61 (by omega))); (try (have i_t61 := Imp.go t61 (by omega))); (try (have i_t98 := Imp.go t98 (by omega))); (try (have i_t99 := Imp.go t99 (by omega))); omega))) w871 w852 w853 w157 w854 rfl xgTape hdV_yX9_next ⟨Nat.le_of_ble_eq_true rfl, Nat.le_of_ble_eq_true rfl⟩ rfl hl.1 rfl (Nat.le_of_ble_eq_true rfl) dX1_readWrap_169 ⟨Nat.le_of_ble_eq_true rfl, Nat.le_of_ble_eq_true rfl⟩) hP hD hK hS hA (fun u145 H locs w146 hP hD hK hS => ?_)
                          obtain ⟨V149, L150⟩ := u145
                          obtain ⟨hMV149, ajV149, axL150, t147, t148⟩ := w146
                          have alL150 : agL [6, 44] L L150 := agL.tr alL102 axL150 (by decide)
                          have hP : va_P D vwCl (xw ad kk V149 L150 Z) H := hP
                          have hD : va_D A (xw ad kk V149 L150 Z) := hD
                          have hMV149 : rgd bX V149 := hMV149
                          have ajV149 : agr [(6, 8), (6, 9), (6, 10)] [] V101 V149 := ajV149
                          have agV149 : agr [(1, 3), (1, 4), (1, 6), (1, 8), (6, 8), (6, 9), (6, 10)] [41, 42, 43, 44, 47, 48, 62, 63, 64, 65, 66] V V149 := agV101.tr ajV149 (by decide) (by decide)
                          have t147 : (V149 6 8).toInt ≤ (V149 6 7).toInt := t147
                          have t148 : CUR V149 L150 (Int32.toNatClampNeg (V101 6 8)) := t148
                          have r151 : 0 ≤ ((V149 6 8)).toInt ∧ ((V149 6 8)).toInt ≤ 4000 := hMV149 6 8
                          have pq152 : (V149 6 7).toInt = ((V 6 7)).toInt := congrArg Int32.toInt ((ajV149 6 7 rfl).trans ((ajV101 6 7 rfl).trans ((ajV80 6 7 rfl).trans ((ajV63 6 7 rfl).trans ((ajV52 6 7 rfl).trans ((ajV28 6 7 rfl).trans (ajV18 6 7 rfl)))))))
                          have rl153 : RelC V149 L150 b gT (nx (nx mx83.2 1) 1) := RelC.nx1 rl112 ajV149 (by decide) axL150 (by decide) (by rw [← lk143]; exact t148) (ajV149 1 3 rfl)
                          have pq155 : (V149 1 2).toInt = ((V 1 2)).toInt := congrArg Int32.toInt ((ajV149 1 2 rfl).trans ((ajV101 1 2 rfl).trans ((ajV80 1 2 rfl).trans ((ajV63 1 2 rfl).trans ((ajV52 1 2 rfl).trans ((ajV28 1 2 rfl).trans (ajV18 1 2 rfl)))))))
                          have rl154 : RelC V149 L150 b gT (sN (nx (nx mx83.2 1) 1) 4 1) := RelC.s4 rl153 (by omega)
                          refine lv_aload_n hx hb dX1_readWrap_172 rfl (lv_at hl 5 rfl) ?_
                          refine lv_iload hx hb dX1_readWrap_173 (lv_at hl 1 rfl) ?_
                          refine lv_iconst (v := 1) hx hb dX1_readWrap_175 (by decide) ?_
                          refine lv_icmp_ne (tgt := 183) hx hb dX1_readWrap_176 (by decide) (fun c156 => ?_) (fun c156 => ?_)
                          · skip
                            have f157 : z133.toInt ≠ 1 := b_neq rfl (by decide) c156
                            refine lv_iconst (v := 1) hx hb dX1_readWrap_183 (by decide) ?_
                            have w4158 : (sN (nx (nx mx83.2 1) 1) 4 1).1 4 = 1 := rfl
                            have r159 : Int32.toInt 1 = 1 := by decide
                            have pq160 : (V149 1 1).toInt = ((V 1 1)).toInt := congrArg Int32.toInt ((ajV149 1 1 rfl).trans ((ajV101 1 1 rfl).trans ((ajV80 1 1 rfl).trans ((ajV63 1 1 rfl).trans ((ajV52 1 1 rfl).trans ((ajV28 1 1 rfl).trans (ajV18 1 1 rfl)))))))
                            refine gA_int (gA_runV (As := [.int 1]) (rest := []) (ci := 1) (q0 := 1) hx hb hml hown hg hP hD hK hS hA hnw hgk (x_readE3 l D ks H.size ad kk V149 L150 Z 1 (b) (gT) ((sN (nx (nx mx83.2 1) 1) 4 1)) hMV149 (by decide) (show b < 2 from by first | omega | ((try (have i_t99 := Imp.go t99 (by omega))); (try (have i_t98 := Imp.go t98 (by omega))); (try (have i_t61 := Imp.go t61 (by omega))); (try (have i_t61 := Imp.go t61 (by omega))); (try (have i_t98 := Imp.go t98 (by omega))); (try (have i_t99 := Imp.go t99 (by omega))); omega)) (show (V149 1 1).toInt = (b : Int) from by first | omega | ((try (have i_t99 := Imp.go t99 (by omega))); (try (have i_t98 := Imp.go t98 (by omega))); (try (have i_t61 := Imp.go t61 (by omega))); (try (have i_t61 := Imp.go t61 (by omega))); (try (have i_t98 := Imp.go t98 (by omega))); (try (have i_t99 := Imp.go t99 (by omega))); omega)) rl154 (show (Int32.toInt 1) = (((sN (nx (nx mx83.2 1) 1) 4 1).1 4 : Nat) : Int) from by first | omega | ((try (have i_t99 := Imp.go t99 (by omega))); (try (have i_t98 := Imp.go t98 (by omega))); (try (have i_t61 := Imp.go t61 (by omega))); (try (have i_t61 := Imp.go t61 (by omega))); (try (have i_t98 := Imp.go t98 (by omega))); (try (have i_t99 := Imp.go t99 (by omega))); omega)) (fun h9 => by exfalso; omega)) w947 w949 w20 w162 w950 rfl xgReader hdV_yX1_readE ⟨Nat.le_of_ble_eq_true rfl, Nat.le_of_ble_eq_true rfl⟩ rfl hl.1 rfl (Nat.le_of_ble_eq_true rfl) dX1_readWrap_184 ⟨Nat.le_of_ble_eq_true rfl, Nat.le_of_ble_eq_true rfl⟩) hP hD hK hS hA (fun z161 u162 H locs w163 hP hD hK hS => ?_)
                            obtain ⟨V166, L167⟩ := u162
                            obtain ⟨hMV166, ajV166, axL167, rgz161, t164, t165⟩ := w163
                            have alL167 : agL [6, 44] L L167 := agL.tr alL150 axL167 (by decide)
                            have hP : va_P D vwCl (xw ad kk V166 L167 Z) H := hP
                            have hD : va_D A (xw ad kk V166 L167 Z) := hD
                            have hMV166 : rgd bX V166 := hMV166
                            have ajV166 : agr [(1, 3), (1, 4), (1, 6), (1, 8), (6, 8), (6, 9), (6, 10)] [42, 43, 44, 48] V149 V166 := ajV166
                            have agV166 : agr [(1, 3), (1, 4), (1, 6), (1, 8), (6, 8), (6, 9), (6, 10)] [41, 42, 43, 44, 47, 48, 62, 63, 64, 65, 66] V V166 := agV149.tr ajV166 (by decide) (by decide)
                            have rgz161 : 0 ≤ z161.toInt ∧ z161.toInt ≤ 1 := rgz161
                            have t164 : Rd gT (sN (nx (nx mx83.2 1) 1) 4 1) (fun k => Iexpr 0 :: Itake 59 :: k) (fun k => k) z161.toInt (V166 1 3).toInt (fun s9 => RelC V166 L167 b gT s9 ∧ keepS (sN (nx (nx mx83.2 1) 1) 4 1) 2 s9) := t164
                            have t165 : ROWL b L150 L167 := t165
                            rcases t164 with ⟨q168, sx169, h170, rl171, kp172⟩ | ⟨q168, h170⟩
                            · skip
                              have hr173 : ∀ k, Rc gT (Crun gs (Istmt :: k)) (Crun sx169 (IaddWr mx83.1 (gT.1 ((nx mx83.2 1).1 0) - 152) :: Istmt :: k)) := fun k => (hr137 k).tr (h170 (IaddWr mx83.1 (gT.1 ((nx mx83.2 1).1 0) - 152) :: Istmt :: k))
                              refine lv_if_ne (tgt := 192) hx hb dX1_readWrap_187 (by decide) (fun c174 => ?_) (fun c174 => ?_)
                              · skip
                                have f175 : z161.toInt ≠ 0 := b_neq rfl (by decide) c174
                                refine lv_aload_n hx hb dX1_readWrap_192 rfl (lv_at hl 5 rfl) ?_
                                refine va_get (D := D) (ci := 1) (v := rfN ad 38 (V166 1 1)) (fs := (xfReader ad V166 L167 Z)) (C := RX1) (T := TX1) (N := 9) hx hb hg inX1 hown hK hP 1 xgReader rfl 1 (by decide) (hg _ w305) (fun _ h9 => h9) rfl dX1_readWrap_193 ?_
                                have pq176 : (V166 1 1).toInt = ((V 1 1)).toInt := congrArg Int32.toInt ((ajV166 1 1 rfl).trans ((ajV149 1 1 rfl).trans ((ajV101 1 1 rfl).trans ((ajV80 1 1 rfl).trans ((ajV63 1 1 rfl).trans ((ajV52 1 1 rfl).trans ((ajV28 1 1 rfl).trans (ajV18 1 1 rfl))))))))
                                refine g_topv (v := .ref (ad (38 + b))) (rfN_r (by first | omega | ((try (have i_t99 := Imp.go t99 (by omega))); (try (have i_t98 := Imp.go t98 (by omega))); (try (have i_t61 := Imp.go t61 (by omega))); (try (have i_t61 := Imp.go t61 (by omega))); (try (have i_t98 := Imp.go t98 (by omega))); (try (have i_t99 := Imp.go t99 (by omega))); omega))) ?_
                                refine lv_iload_n hx hb dX1_readWrap_196 rfl (lv_at hl 4 rfl) ?_
                                refine lv_iload_n hx hb dX1_readWrap_197 rfl (lv_at hl 3 rfl) ?_
                                refine lv_iload_n hx hb dX1_readWrap_198 rfl (lv_at hl 2 rfl) ?_
                                refine lv_iload hx hb dX1_readWrap_199 (lv_at hl 1 rfl) ?_
                                refine lv_iload hx hb dX1_readWrap_201 (lv_at hl 0 rfl) ?_
                                refine gA_void (gA_runV (As := [.int (V28 1 6), .int (V80 1 6), .int (V101 1 8), .int z133, .int (V 42 b)]) (rest := []) (ci := 0) (q0 := (38 + b)) hx hb hml hown hg hP hD hK hS hA hnw hgk (x_addWrap3 l D ks H.size ad kk V166 L167 Z (V28 1 6) (V80 1 6) (V101 1 8) z133 (V 42 b) (b) hMV166 (by first | omega | ((try (have i_t99 := Imp.go t99 (by omega))); (try (have i_t98 := Imp.go t98 (by omega))); (try (have i_t61 := Imp.go t61 (by omega))); (try (have i_t61 := Imp.go t61 (by omega))); (try (have i_t98 := Imp.go t98 (by omega))); (try (have i_t99 := Imp.go t99 (by omega))); omega)) (show b < 2 from by first | omega | ((try (have i_t99 := Imp.go t99 (by omega))); (try (have i_t98 := Imp.go t98 (by omega))); (try (have i_t61 := Imp.go t61 (by omega))); (try (have i_t61 := Imp.go t61 (by omega))); (try (have i_t98 := Imp.go t98 (by omega))); (try (have i_t99 := Imp.go t99 (by omega))); omega))) w999 w1000 w1001 w167 w1002 rfl (xgBook hb2) hdV_yX0_addWrap ⟨Nat.le_of_ble_eq_true rfl, Nat.le_of_ble_eq_true rfl⟩ rfl hl.1 rfl (Nat.le_of_ble_eq_true rfl) dX1_readWrap_203 ⟨Nat.le_of_ble_eq_true rfl, Nat.le_of_ble_eq_true rfl⟩) hP hD hK hS hA (fun u178 H locs w179 hP hD hK hS => ?_)
                                obtain ⟨V183, L184⟩ := u178
                                obtain ⟨hMV183, ajV183, axL184, t180, t181, t182⟩ := w179
                                have axL184 : L167 = L184 := Eq.symm axL184
                                subst axL184
                                have hP : va_P D vwCl (xw ad kk V183 L167 Z) H := hP
                                have hD : va_D A (xw ad kk V183 L167 Z) := hD
                                have hMV183 : rgd bX V183 := hMV183
                                have ajV183 : agr [] [41, 47, 62, 63, 64, 65, 66] V166 V183 := ajV183
                                have agV183 : agr [(1, 3), (1, 4), (1, 6), (1, 8), (6, 8), (6, 9), (6, 10)] [41, 42, 43, 44, 47, 48, 62, 63, 64, 65, 66] V V183 := agV166.tr ajV183 (by decide) (by decide)
                                have t180 : Imp ((V166 41 b).toInt < 12) ((V183 41 b).toInt = (V166 41 b).toInt + 1) := t180
                                have t181 : Imp ((V166 41 b).toInt < 12) (V183 63 = upd (V166 63) (12 * b + Int32.toNatClampNeg (V166 41 b)) (V80 1 6)) := t181
                                have t182 : Imp ((V166 41 b).toInt < 12) (V183 65 = upd (V166 65) (12 * b + Int32.toNatClampNeg (V166 41 b)) z133) := t182
                                have pq185 : (V166 41 b).toInt = ((V 41 b)).toInt := congrArg Int32.toInt ((ajV166 41 b rfl).trans ((ajV149 41 b rfl).trans ((ajV101 41 b rfl).trans ((ajV80 41 b rfl).trans ((ajV63 41 b rfl).trans ((ajV52 41 b rfl).trans ((ajV28 41 b rfl).trans (ajV18 41 b rfl))))))))
                                have w41 := rl171.2.2.2.1.1
                                have w42 := congrArg (fun q9 : List (Nat × Bool) × List Nat => q9.1.length) ((kp172).2.2.2.trans ((rfl : (sN (nx (nx mx83.2 1) 1) 4 1).2.2 = (nx (nx mx83.2 1) 1).2.2).trans (((keepS.n1 1)).2.2.2.trans (((keepS.n1 1)).2.2.2.trans ((kp88).2.2.2.trans (((keepS.n1 1)).2.2.2.trans (((keepS.n1 1)).2.2.2.trans (((keepS.n1 1)).2.2.2.trans (rfl : gs.2.2 = gs.2.2)))))))))
                                have w43 : (sx169.2.2.1.length) = gs.2.2.1.length := w42
                                have l41187 : (V166 41 b).toInt < 12 := by omega
                                have rl186 : RelC V183 L167 b gT (sW sx169 (mx83.1, decide (z133.toInt = 1))) := RelC.wr rl171 ajV183 (by decide) (hMV166 41 b).1 (Imp.go t180 l41187) (Imp.go t181 l41187) (Imp.go t182 l41187) (by omega)
                                have ph9 : z133.toInt = (gT.1 ((nx mx83.2 1).1 0) - 152) := by rw [kd136]; omega
                                have rl188 : RelC V183 L167 b gT (sW sx169 (mx83.1, decide ((gT.1 ((nx mx83.2 1).1 0) - 152) = 1))) := by have h9 := rl186; rw [ph9] at h9; exact h9
                                have hr189 : ∀ k, Rc gT (Crun gs (Istmt :: k)) (Crun (sW sx169 (mx83.1, decide ((gT.1 ((nx mx83.2 1).1 0) - 152) = 1))) (Istmt :: k)) := fun k => Rc.go1 (hr173 k) (m_addWr mx83.1 (gT.1 ((nx mx83.2 1).1 0) - 152))
                                refine lv_iconst (v := 1) hx hb dX1_readWrap_206 (by decide) ?_
                                have ps190 : gs.1 0 + 1 ≤ (nx gs 1).1 0 := ((keepS.n1 1)).1
                                have ps191 : (nx gs 1).1 0 + 1 ≤ (nx (nx gs 1) 1).1 0 := ((keepS.n1 1)).1
                                have ps192 : (nx (nx gs 1) 1).1 0 + 1 ≤ (nx (nx (nx gs 1) 1) 1).1 0 := ((keepS.n1 1)).1
                                have ps193 : (nx (nx (nx gs 1) 1) 1).1 0 + 1 ≤ mx83.2.1 0 := (kp88).1
                                have ps194 : mx83.2.1 0 + 1 ≤ (nx mx83.2 1).1 0 := ((keepS.n1 1)).1
                                have ps195 : (nx mx83.2 1).1 0 + 1 ≤ (nx (nx mx83.2 1) 1).1 0 := ((keepS.n1 1)).1
                                have ps196 : (sN (nx (nx mx83.2 1) 1) 4 1).1 0 = (nx (nx mx83.2 1) 1).1 0 := rfl
                                have ps197 : (sN (nx (nx mx83.2 1) 1) 4 1).1 0 + 2 ≤ sx169.1 0 := (kp172).1
                                have ps198 : (sW sx169 (mx83.1, decide ((gT.1 ((nx mx83.2 1).1 0) - 152) = 1))).1 0 = sx169.1 0 := rfl
                                have rw199 : ROWL b L L167 := (fun k hk => ((t165 k hk).trans ((axL150 44 k rfl).trans ((axL102 44 k rfl).trans ((t79 k hk).trans ((axL64 44 k rfl).trans ((axL53 44 k rfl).trans ((axL19 44 k rfl).trans rfl))))))))
                                exact W.zret (v := 1) hx hb hr rfl (fun t ht hW => ⟨⟨1, (V183, L167), rfl, ⟨hMV183, agV183, alL167, (by decide), (Or.inl ⟨rfl, (sW sx169 (mx83.1, decide ((gT.1 ((nx mx83.2 1).1 0) - 152) = 1))), hr189, rl188, (by omega)⟩), rw199⟩, by rw [ht]; exact hP, va_K.moved hW.alike hK, hD⟩, hS.F ht⟩) hS.2.2 dX1_readWrap_207
                              · skip
                                have f200 : z161.toInt = 0 := b_eq rfl (by decide) c174
                                exfalso; first | omega | ((try (have i_t99 := Imp.go t99 (by omega))); (try (have i_t98 := Imp.go t98 (by omega))); (try (have i_t61 := Imp.go t61 (by omega))); (try (have i_t61 := Imp.go t61 (by omega))); (try (have i_t98 := Imp.go t98 (by omega))); (try (have i_t99 := Imp.go t99 (by omega))); omega)
                            · skip
                              have hb201 : ∀ k, Rc gT (Crun gs (Istmt :: k)) (Cbad (V166 1 3).toInt) := fun k => (hr137 k).tr (h170 (IaddWr mx83.1 (gT.1 ((nx mx83.2 1).1 0) - 152) :: Istmt :: k))
                              refine lv_if_ne (tgt := 192) hx hb dX1_readWrap_187 (by decide) (fun c202 => ?_) (fun c202 => ?_)
                              · skip
                                have f203 : z161.toInt ≠ 0 := b_neq rfl (by decide) c202
                                exfalso; first | omega | ((try (have i_t99 := Imp.go t99 (by omega))); (try (have i_t98 := Imp.go t98 (by omega))); (try (have i_t61 := Imp.go t61 (by omega))); (try (have i_t61 := Imp.go t61 (by omega))); (try (have i_t98 := Imp.go t98 (by omega))); (try (have i_t99 := Imp.go t99 (by omega))); omega)
                              · skip
                                have f204 : z161.toInt = 0 := b_eq rfl (by decide) c202
                                refine lv_iconst (v := 0) hx hb dX1_readWrap_190 (by decide) ?_
                                have rw205 : ROWL b L L167 := (fun k hk => ((t165 k hk).trans ((axL150 44 k rfl).trans ((axL102 44 k rfl).trans ((t79 k hk).trans ((axL64 44 k rfl).trans ((axL53 44 k rfl).trans ((axL19 44 k rfl).trans rfl))))))))
                                exact W.zret (v := 0) hx hb hr rfl (fun t ht hW => ⟨⟨0, (V166, L167), rfl, ⟨hMV166, agV166, alL167, (by decide), (Or.inr ⟨rfl, hb201⟩), rw205⟩, by rw [ht]; exact hP, va_K.moved hW.alike hK, hD⟩, hS.F ht⟩) hS.2.2 dX1_readWrap_191
                          · skip
                            have f206 : z133.toInt = 1 := b_eq rfl (by decide) c156
                            refine lv_iconst (v := 2) hx hb dX1_readWrap_179 (by decide) ?_
                            refine lv_goto (tgt := 184) hx hb dX1_readWrap_180 (by decide) ?_
                            have w4207 : (sN (nx (nx mx83.2 1) 1) 4 1).1 4 = 1 := rfl
                            have r208 : Int32.toInt 2 = 2 := by decide
                            have pq209 : (V149 1 1).toInt = ((V 1 1)).toInt := congrArg Int32.toInt ((ajV149 1 1 rfl).trans ((ajV101 1 1 rfl).trans ((ajV80 1 1 rfl).trans ((ajV63 1 1 rfl).trans ((ajV52 1 1 rfl).trans ((ajV28 1 1 rfl).trans (ajV18 1 1 rfl)))))))
                            refine gA_int (gA_runV (As := [.int 2]) (rest := []) (ci := 1) (q0 := 1) hx hb hml hown hg hP hD hK hS hA hnw hgk (x_readE3 l D ks H.size ad kk V149 L150 Z 2 (b) (gT) ((sN (nx (nx mx83.2 1) 1) 4 1)) hMV149 (by decide) (show b < 2 from by first | omega | ((try (have i_t99 := Imp.go t99 (by omega))); (try (have i_t98 := Imp.go t98 (by omega))); (try (have i_t61 := Imp.go t61 (by omega))); (try (have i_t61 := Imp.go t61 (by omega))); (try (have i_t98 := Imp.go t98 (by omega))); (try (have i_t99 := Imp.go t99 (by omega))); omega)) (show (V149 1 1).toInt = (b : Int) from by first | omega | ((try (have i_t99 := Imp.go t99 (by omega))); (try (have i_t98 := Imp.go t98 (by omega))); (try (have i_t61 := Imp.go t61 (by omega))); (try (have i_t61 := Imp.go t61 (by omega))); (try (have i_t98 := Imp.go t98 (by omega))); (try (have i_t99 := Imp.go t99 (by omega))); omega)) rl154 (show (Int32.toInt 2) = (((sN (nx (nx mx83.2 1) 1) 4 1).1 4 : Nat) : Int) from by first | omega | ((try (have i_t99 := Imp.go t99 (by omega))); (try (have i_t98 := Imp.go t98 (by omega))); (try (have i_t61 := Imp.go t61 (by omega))); (try (have i_t61 := Imp.go t61 (by omega))); (try (have i_t98 := Imp.go t98 (by omega))); (try (have i_t99 := Imp.go t99 (by omega))); omega)) (fun h9 => by exfalso; omega)) w947 w949 w20 w162 w950 rfl xgReader hdV_yX1_readE ⟨Nat.le_of_ble_eq_true rfl, Nat.le_of_ble_eq_true rfl⟩ rfl hl.1 rfl (Nat.le_of_ble_eq_true rfl) dX1_readWrap_184 ⟨Nat.le_of_ble_eq_true rfl, Nat.le_of_ble_eq_true rfl⟩) hP hD hK hS hA (fun z210 u211 H locs w212 hP hD hK hS => ?_)
                            obtain ⟨V215, L216⟩ := u211
                            obtain ⟨hMV215, ajV215, axL216, rgz210, t213, t214⟩ := w212
                            have alL216 : agL [6, 44] L L216 := agL.tr alL150 axL216 (by decide)
                            have hP : va_P D vwCl (xw ad kk V215 L216 Z) H := hP
                            have hD : va_D A (xw ad kk V215 L216 Z) := hD
                            have hMV215 : rgd bX V215 := hMV215
                            have ajV215 : agr [(1, 3), (1, 4), (1, 6), (1, 8), (6, 8), (6, 9), (6, 10)] [42, 43, 44, 48] V149 V215 := ajV215
                            have agV215 : agr [(1, 3), (1, 4), (1, 6), (1, 8), (6, 8), (6, 9), (6, 10)] [41, 42, 43, 44, 47, 48, 62, 63, 64, 65, 66] V V215 := agV149.tr ajV215 (by decide) (by decide)
                            have rgz210 : 0 ≤ z210.toInt ∧ z210.toInt ≤ 1 := rgz210
                            have t213 : Rd gT (sN (nx (nx mx83.2 1) 1) 4 1) (fun k => Iexpr 0 :: Itake 59 :: k) (fun k => k) z210.toInt (V215 1 3).toInt (fun s9 => RelC V215 L216 b gT s9 ∧ keepS (sN (nx (nx mx83.2 1) 1) 4 1) 2 s9) := t213
                            have t214 : ROWL b L150 L216 := t214
                            rcases t213 with ⟨q217, sx218, h219, rl220, kp221⟩ | ⟨q217, h219⟩
                            · skip
                              have hr222 : ∀ k, Rc gT (Crun gs (Istmt :: k)) (Crun sx218 (IaddWr mx83.1 (gT.1 ((nx mx83.2 1).1 0) - 152) :: Istmt :: k)) := fun k => (hr137 k).tr (h219 (IaddWr mx83.1 (gT.1 ((nx mx83.2 1).1 0) - 152) :: Istmt :: k))
                              refine lv_if_ne (tgt := 192) hx hb dX1_readWrap_187 (by decide) (fun c223 => ?_) (fun c223 => ?_)
                              · skip
                                have f224 : z210.toInt ≠ 0 := b_neq rfl (by decide) c223
                                refine lv_aload_n hx hb dX1_readWrap_192 rfl (lv_at hl 5 rfl) ?_
                                refine va_get (D := D) (ci := 1) (v := rfN ad 38 (V215 1 1)) (fs := (xfReader ad V215 L216 Z)) (C := RX1) (T := TX1) (N := 9) hx hb hg inX1 hown hK hP 1 xgReader rfl 1 (by decide) (hg _ w305) (fun _ h9 => h9) rfl dX1_readWrap_193 ?_
                                have pq225 : (V215 1 1).toInt = ((V 1 1)).toInt := congrArg Int32.toInt ((ajV215 1 1 rfl).trans ((ajV149 1 1 rfl).trans ((ajV101 1 1 rfl).trans ((ajV80 1 1 rfl).trans ((ajV63 1 1 rfl).trans ((ajV52 1 1 rfl).trans ((ajV28 1 1 rfl).trans (ajV18 1 1 rfl))))))))
                                refine g_topv (v := .ref (ad (38 + b))) (rfN_r (by first | omega | ((try (have i_t99 := Imp.go t99 (by omega))); (try (have i_t98 := Imp.go t98 (by omega))); (try (have i_t61 := Imp.go t61 (by omega))); (try (have i_t61 := Imp.go t61 (by omega))); (try (have i_t98 := Imp.go t98 (by omega))); (try (have i_t99 := Imp.go t99 (by omega))); omega))) ?_
                                refine lv_iload_n hx hb dX1_readWrap_196 rfl (lv_at hl 4 rfl) ?_
                                refine lv_iload_n hx hb dX1_readWrap_197 rfl (lv_at hl 3 rfl) ?_
                                refine lv_iload_n hx hb dX1_readWrap_198 rfl (lv_at hl 2 rfl) ?_
                                refine lv_iload hx hb dX1_readWrap_199 (lv_at hl 1 rfl) ?_
                                refine lv_iload hx hb dX1_readWrap_201 (lv_at hl 0 rfl) ?_
                                refine gA_void (gA_runV (As := [.int (V28 1 6), .int (V80 1 6), .int (V101 1 8), .int z133, .int (V 42 b)]) (rest := []) (ci := 0) (q0 := (38 + b)) hx hb hml hown hg hP hD hK hS hA hnw hgk (x_addWrap3 l D ks H.size ad kk V215 L216 Z (V28 1 6) (V80 1 6) (V101 1 8) z133 (V 42 b) (b) hMV215 (by first | omega | ((try (have i_t99 := Imp.go t99 (by omega))); (try (have i_t98 := Imp.go t98 (by omega))); (try (have i_t61 := Imp.go t61 (by omega))); (try (have i_t61 := Imp.go t61 (by omega))); (try (have i_t98 := Imp.go t98 (by omega))); (try (have i_t99 := Imp.go t99 (by omega))); omega)) (show b < 2 from by first | omega | ((try (have i_t99 := Imp.go t99 (by omega))); (try (have i_t98 := Imp.go t98 (by omega))); (try (have i_t61 := Imp.go t61 (by omega))); (try (have i_t61 := Imp.go t61 (by omega))); (try (have i_t98 := Imp.go t98 (by omega))); (try (have i_t99 := Imp.go t99 (by omega))); omega))) w999 w1000 w1001 w167 w1002 rfl (xgBook hb2) hdV_yX0_addWrap ⟨Nat.le_of_ble_eq_true rfl, Nat.le_of_ble_eq_true rfl⟩ rfl hl.1 rfl (Nat.le_of_ble_eq_true rfl) dX1_readWrap_203 ⟨Nat.le_of_ble_eq_true rfl, Nat.le_of_ble_eq_true rfl⟩) hP hD hK hS hA (fun u227 H locs w228 hP hD hK hS => ?_)
                                obtain ⟨V232, L233⟩ := u227
                                obtain ⟨hMV232, ajV232, axL233, t229, t230, t231⟩ := w228
                                have axL233 : L216 = L233 := Eq.symm axL233
                                subst axL233
                                have hP : va_P D vwCl (xw ad kk V232 L216 Z) H := hP
                                have hD : va_D A (xw ad kk V232 L216 Z) := hD
                                have hMV232 : rgd bX V232 := hMV232
                                have ajV232 : agr [] [41, 47, 62, 63, 64, 65, 66] V215 V232 := ajV232
                                have agV232 : agr [(1, 3), (1, 4), (1, 6), (1, 8), (6, 8), (6, 9), (6, 10)] [41, 42, 43, 44, 47, 48, 62, 63, 64, 65, 66] V V232 := agV215.tr ajV232 (by decide) (by decide)
                                have t229 : Imp ((V215 41 b).toInt < 12) ((V232 41 b).toInt = (V215 41 b).toInt + 1) := t229
                                have t230 : Imp ((V215 41 b).toInt < 12) (V232 63 = upd (V215 63) (12 * b + Int32.toNatClampNeg (V215 41 b)) (V80 1 6)) := t230
                                have t231 : Imp ((V215 41 b).toInt < 12) (V232 65 = upd (V215 65) (12 * b + Int32.toNatClampNeg (V215 41 b)) z133) := t231
                                have pq234 : (V215 41 b).toInt = ((V 41 b)).toInt := congrArg Int32.toInt ((ajV215 41 b rfl).trans ((ajV149 41 b rfl).trans ((ajV101 41 b rfl).trans ((ajV80 41 b rfl).trans ((ajV63 41 b rfl).trans ((ajV52 41 b rfl).trans ((ajV28 41 b rfl).trans (ajV18 41 b rfl))))))))
                                have w41 := rl220.2.2.2.1.1
                                have w42 := congrArg (fun q9 : List (Nat × Bool) × List Nat => q9.1.length) ((kp221).2.2.2.trans ((rfl : (sN (nx (nx mx83.2 1) 1) 4 1).2.2 = (nx (nx mx83.2 1) 1).2.2).trans (((keepS.n1 1)).2.2.2.trans (((keepS.n1 1)).2.2.2.trans ((kp88).2.2.2.trans (((keepS.n1 1)).2.2.2.trans (((keepS.n1 1)).2.2.2.trans (((keepS.n1 1)).2.2.2.trans (rfl : gs.2.2 = gs.2.2)))))))))
                                have w43 : (sx218.2.2.1.length) = gs.2.2.1.length := w42
                                have l41236 : (V215 41 b).toInt < 12 := by omega
                                have rl235 : RelC V232 L216 b gT (sW sx218 (mx83.1, decide (z133.toInt = 1))) := RelC.wr rl220 ajV232 (by decide) (hMV215 41 b).1 (Imp.go t229 l41236) (Imp.go t230 l41236) (Imp.go t231 l41236) (by omega)
                                have ph9 : z133.toInt = (gT.1 ((nx mx83.2 1).1 0) - 152) := by rw [kd136]; omega
                                have rl237 : RelC V232 L216 b gT (sW sx218 (mx83.1, decide ((gT.1 ((nx mx83.2 1).1 0) - 152) = 1))) := by have h9 := rl235; rw [ph9] at h9; exact h9
                                have hr238 : ∀ k, Rc gT (Crun gs (Istmt :: k)) (Crun (sW sx218 (mx83.1, decide ((gT.1 ((nx mx83.2 1).1 0) - 152) = 1))) (Istmt :: k)) := fun k => Rc.go1 (hr222 k) (m_addWr mx83.1 (gT.1 ((nx mx83.2 1).1 0) - 152))
                                refine lv_iconst (v := 1) hx hb dX1_readWrap_206 (by decide) ?_
                                have ps239 : gs.1 0 + 1 ≤ (nx gs 1).1 0 := ((keepS.n1 1)).1
                                have ps240 : (nx gs 1).1 0 + 1 ≤ (nx (nx gs 1) 1).1 0 := ((keepS.n1 1)).1
                                have ps241 : (nx (nx gs 1) 1).1 0 + 1 ≤ (nx (nx (nx gs 1) 1) 1).1 0 := ((keepS.n1 1)).1
                                have ps242 : (nx (nx (nx gs 1) 1) 1).1 0 + 1 ≤ mx83.2.1 0 := (kp88).1
                                have ps243 : mx83.2.1 0 + 1 ≤ (nx mx83.2 1).1 0 := ((keepS.n1 1)).1
                                have ps244 : (nx mx83.2 1).1 0 + 1 ≤ (nx (nx mx83.2 1) 1).1 0 := ((keepS.n1 1)).1
                                have ps245 : (sN (nx (nx mx83.2 1) 1) 4 1).1 0 = (nx (nx mx83.2 1) 1).1 0 := rfl
                                have ps246 : (sN (nx (nx mx83.2 1) 1) 4 1).1 0 + 2 ≤ sx218.1 0 := (kp221).1
                                have ps247 : (sW sx218 (mx83.1, decide ((gT.1 ((nx mx83.2 1).1 0) - 152) = 1))).1 0 = sx218.1 0 := rfl
                                have rw248 : ROWL b L L216 := (fun k hk => ((t214 k hk).trans ((axL150 44 k rfl).trans ((axL102 44 k rfl).trans ((t79 k hk).trans ((axL64 44 k rfl).trans ((axL53 44 k rfl).trans ((axL19 44 k rfl).trans rfl))))))))
                                exact W.zret (v := 1) hx hb hr rfl (fun t ht hW => ⟨⟨1, (V232, L216), rfl, ⟨hMV232, agV232, alL216, (by decide), (Or.inl ⟨rfl, (sW sx218 (mx83.1, decide ((gT.1 ((nx mx83.2 1).1 0) - 152) = 1))), hr238, rl237, (by omega)⟩), rw248⟩, by rw [ht]; exact hP, va_K.moved hW.alike hK, hD⟩, hS.F ht⟩) hS.2.2 dX1_readWrap_207
                              · skip
                                have f249 : z210.toInt = 0 := b_eq rfl (by decide) c223
                                exfalso; first | omega | ((try (have i_t99 := Imp.go t99 (by omega))); (try (have i_t98 := Imp.go t98 (by omega))); (try (have i_t61 := Imp.go t61 (by omega))); (try (have i_t61 := Imp.go t61 (by omega))); (try (have i_t98 := Imp.go t98 (by omega))); (try (have i_t99 := Imp.go t99 (by omega))); omega)
                            · skip
                              have hb250 : ∀ k, Rc gT (Crun gs (Istmt :: k)) (Cbad (V215 1 3).toInt) := fun k => (hr137 k).tr (h219 (IaddWr mx83.1 (gT.1 ((nx mx83.2 1).1 0) - 152) :: Istmt :: k))
                              refine lv_if_ne (tgt := 192) hx hb dX1_readWrap_187 (by decide) (fun c251 => ?_) (fun c251 => ?_)
                              · skip
                                have f252 : z210.toInt ≠ 0 := b_neq rfl (by decide) c251
                                exfalso; first | omega | ((try (have i_t99 := Imp.go t99 (by omega))); (try (have i_t98 := Imp.go t98 (by omega))); (try (have i_t61 := Imp.go t61 (by omega))); (try (have i_t61 := Imp.go t61 (by omega))); (try (have i_t98 := Imp.go t98 (by omega))); (try (have i_t99 := Imp.go t99 (by omega))); omega)
                              · skip
                                have f253 : z210.toInt = 0 := b_eq rfl (by decide) c251
                                refine lv_iconst (v := 0) hx hb dX1_readWrap_190 (by decide) ?_
                                have rw254 : ROWL b L L216 := (fun k hk => ((t214 k hk).trans ((axL150 44 k rfl).trans ((axL102 44 k rfl).trans ((t79 k hk).trans ((axL64 44 k rfl).trans ((axL53 44 k rfl).trans ((axL19 44 k rfl).trans rfl))))))))
                                exact W.zret (v := 0) hx hb hr rfl (fun t ht hW => ⟨⟨0, (V215, L216), rfl, ⟨hMV215, agV215, alL216, (by decide), (Or.inr ⟨rfl, hb250⟩), rw254⟩, by rw [ht]; exact hP, va_K.moved hW.alike hK, hD⟩, hS.F ht⟩) hS.2.2 dX1_readWrap_191
                        · skip
                          have f255 : z133.toInt = 1 := b_eq rfl (by decide) c134
                          refine lv_aload_n hx hb dX1_readWrap_138 rfl (lv_at hl 4 rfl) ?_
                          refine va_get (D := D) (ci := 1) (v := rfN ad 38 (V101 1 1)) (fs := (xfReader ad V101 L102 Z)) (C := RX1) (T := TX1) (N := 9) hx hb hg inX1 hown hK hP 1 xgReader rfl 1 (by decide) (hg _ w305) (fun _ h9 => h9) rfl dX1_readWrap_139 ?_
                          have pq256 : (V101 1 1).toInt = ((V 1 1)).toInt := congrArg Int32.toInt ((ajV101 1 1 rfl).trans ((ajV80 1 1 rfl).trans ((ajV63 1 1 rfl).trans ((ajV52 1 1 rfl).trans ((ajV28 1 1 rfl).trans (ajV18 1 1 rfl))))))
                          refine g_topv (v := .ref (ad (38 + b))) (rfN_r (by first | omega | ((try (have i_t99 := Imp.go t99 (by omega))); (try (have i_t98 := Imp.go t98 (by omega))); (try (have i_t61 := Imp.go t61 (by omega))); (try (have i_t61 := Imp.go t61 (by omega))); (try (have i_t98 := Imp.go t98 (by omega))); (try (have i_t99 := Imp.go t99 (by omega))); omega))) ?_
                          refine lv_iload_n hx hb dX1_readWrap_142 rfl (lv_at hl 2 rfl) ?_
                          refine gA_int (gA_runV (As := [.int (V80 1 6)]) (rest := []) (ci := 0) (q0 := (38 + b)) hx hb hml hown hg hP hD hK hS hA hnw hgk (x_aroundsOf3 l D ks H.size ad kk V101 L102 Z (V80 1 6) (b) ((nx mx83.2 1)) (mx83.1) hMV101 (show b < 2 from by first | omega | ((try (have i_t99 := Imp.go t99 (by omega))); (try (have i_t98 := Imp.go t98 (by omega))); (try (have i_t61 := Imp.go t61 (by omega))); (try (have i_t61 := Imp.go t61 (by omega))); (try (have i_t98 := Imp.go t98 (by omega))); (try (have i_t99 := Imp.go t99 (by omega))); omega)) (show ((V80 1 6)).toInt = ((mx83.1) : Int) from by first | omega | ((try (have i_t99 := Imp.go t99 (by omega))); (try (have i_t98 := Imp.go t98 (by omega))); (try (have i_t61 := Imp.go t61 (by omega))); (try (have i_t61 := Imp.go t61 (by omega))); (try (have i_t98 := Imp.go t98 (by omega))); (try (have i_t99 := Imp.go t99 (by omega))); omega)) (rl112).2.2.2.1) w943 w944 w945 w167 w946 rfl (xgBook hb2) hdV_yX0_aroundsOf ⟨Nat.le_of_ble_eq_true rfl, Nat.le_of_ble_eq_true rfl⟩ rfl hl.1 rfl (Nat.le_of_ble_eq_true rfl) dX1_readWrap_143 ⟨Nat.le_of_ble_eq_true rfl, Nat.le_of_ble_eq_true rfl⟩) hP hD hK hS hA (fun z257 u258 H locs w259 hP hD hK hS => ?_)
                          have t260 := w259
                          have t260 : z257.toInt = ((arounds (nx mx83.2 1).2.2.1 (mx83.1) : Nat) : Int) := t260
                          refine lv_iconst (v := 2) hx hb dX1_readWrap_146 (by decide) ?_
                          refine lv_icmp_lt (tgt := 156) hx hb dX1_readWrap_147 (by decide) (fun c261 => ?_) (fun c261 => ?_)
                          · skip
                            have f262 : z257.toInt < 2 := b_lt rfl (by decide) c261
                            have kd263 : gT.1 ((nx mx83.2 1).1 0) = ((V101 6 9)).toInt := RelC.kd rl112
                            have hr264 : ∀ k, Rc gT (Crun gs (Istmt :: k)) (Crun (sN (nx (nx mx83.2 1) 1) 4 2) (Iexpr 0 :: Itake 59 :: IaddWr mx83.1 (1 : Int) :: Istmt :: k)) := fun k => Rc.go1 (hr113 k) (ph_a mx83.1 (by rw [kd263]; omega) (by omega))
                            refine lv_aload_n hx hb dX1_readWrap_156 rfl (lv_at hl 4 rfl) ?_
                            refine va_get (D := D) (ci := 1) (v := rfN ad 38 (V101 1 1)) (fs := (xfReader ad V101 L102 Z)) (C := RX1) (T := TX1) (N := 9) hx hb hg inX1 hown hK hP 1 xgReader rfl 1 (by decide) (hg _ w305) (fun _ h9 => h9) rfl dX1_readWrap_157 ?_
                            refine g_topv (v := .ref (ad (38 + b))) (rfN_r (by first | omega | ((try (have i_t99 := Imp.go t99 (by omega))); (try (have i_t98 := Imp.go t98 (by omega))); (try (have i_t61 := Imp.go t61 (by omega))); (try (have i_t61 := Imp.go t61 (by omega))); (try (have i_t98 := Imp.go t98 (by omega))); (try (have i_t99 := Imp.go t99 (by omega))); omega))) ?_
                            refine va_getN (D := D) (ci := 0) (v := .int (V101 42 b)) (fs := (xfBook ad V101 b)) (C := RX0) (T := TX0) (N := 13) hx hb hg inX0 hown hK hP (38 + b) (xgBook hb2) rfl 12 (by decide) (hnw.use 630 n630 rfl) (fun _ h9 => h9) rfl dX1_readWrap_160 ?_
                            refine g_top (v := (V 42 b)) ((ajV101 42 b rfl).trans ((ajV80 42 b rfl).trans ((ajV63 42 b rfl).trans ((ajV52 42 b rfl).trans ((ajV28 42 b rfl).trans (ajV18 42 b rfl)))))) ?_
                            have r265 : 0 ≤ ((V 42 b)).toInt ∧ ((V 42 b)).toInt ≤ 8200 := hMV 42 b
                            refine lv_istore (lv' := [(5, .int (V 42 b)), (4, .int z133), (3, .int (V101 1 8)), (2, .int (V80 1 6)), (1, .int (V28 1 6)), (0, .ref (ad 1))]) hx hb dX1_readWrap_163 hl (by decide) rfl (fun ls hl => ?_)
                            refine lv_aload_n hx hb dX1_readWrap_165 rfl (lv_at hl 5 rfl) ?_
                            refine va_get (D := D) (ci := 1) (v := .ref (ad 6)) (fs := (xfReader ad V101 L102 Z)) (C := RX1) (T := TX1) (N := 9) hx hb hg inX1 hown hK hP 1 xgReader rfl 0 (by decide) (hg _ w304) (fun _ h9 => h9) rfl dX1_readWrap_166 ?_
                            have l8266 := RelC.l8 rl112
                            have r267 : 0 ≤ ((V101 6 8)).toInt ∧ ((V101 6 8)).toInt ≤ 4000 := hMV101 6 8
                            have pq268 : (V101 6 7).toInt = ((V 6 7)).toInt := congrArg Int32.toInt ((ajV101 6 7 rfl).trans ((ajV80 6 7 rfl).trans ((ajV63 6 7 rfl).trans ((ajV52 6 7 rfl).trans ((ajV28 6 7 rfl).trans (ajV18 6 7 rfl))))))
                            have lk269 := RelC.lk rl112 (show (V101 6 9).toInt ≠ 0 from by omega)
                            refine gA_void (gA_runV (As := []) (rest := []) (ci := 9) (q0 := 6) hx hb hml hown hg hP hD hK hS hA hnw hgk (x_next2 l D ks H.size ad kk V101 L102 Z  hMV101 (show (V101 6 8).toInt ≤ (V101 6 7).toInt from by first | omega | ((try (have i_t99 := Imp.go t99 (by omega))); (try (have i_t98 := Imp.go t98 (by omega))); (try (have i_t61 := Imp.go t61 (by omega))); (try (have i_t61 := Imp.go t61 (by omega))); (try (have i_t98 := Imp.go t98 (by omega))); (try (have i_t99 := Imp.go t99 (by omega))); omega))) w871 w852 w853 w157 w854 rfl xgTape hdV_yX9_next ⟨Nat.le_of_ble_eq_true rfl, Nat.le_of_ble_eq_true rfl⟩ rfl hl.1 rfl (Nat.le_of_ble_eq_true rfl) dX1_readWrap_169 ⟨Nat.le_of_ble_eq_true rfl, Nat.le_of_ble_eq_true rfl⟩) hP hD hK hS hA (fun u271 H locs w272 hP hD hK hS => ?_)
                            obtain ⟨V275, L276⟩ := u271
                            obtain ⟨hMV275, ajV275, axL276, t273, t274⟩ := w272
                            have alL276 : agL [6, 44] L L276 := agL.tr alL102 axL276 (by decide)
                            have hP : va_P D vwCl (xw ad kk V275 L276 Z) H := hP
                            have hD : va_D A (xw ad kk V275 L276 Z) := hD
                            have hMV275 : rgd bX V275 := hMV275
                            have ajV275 : agr [(6, 8), (6, 9), (6, 10)] [] V101 V275 := ajV275
                            have agV275 : agr [(1, 3), (1, 4), (1, 6), (1, 8), (6, 8), (6, 9), (6, 10)] [41, 42, 43, 44, 47, 48, 62, 63, 64, 65, 66] V V275 := agV101.tr ajV275 (by decide) (by decide)
                            have t273 : (V275 6 8).toInt ≤ (V275 6 7).toInt := t273
                            have t274 : CUR V275 L276 (Int32.toNatClampNeg (V101 6 8)) := t274
                            have r277 : 0 ≤ ((V275 6 8)).toInt ∧ ((V275 6 8)).toInt ≤ 4000 := hMV275 6 8
                            have pq278 : (V275 6 7).toInt = ((V 6 7)).toInt := congrArg Int32.toInt ((ajV275 6 7 rfl).trans ((ajV101 6 7 rfl).trans ((ajV80 6 7 rfl).trans ((ajV63 6 7 rfl).trans ((ajV52 6 7 rfl).trans ((ajV28 6 7 rfl).trans (ajV18 6 7 rfl)))))))
                            have rl279 : RelC V275 L276 b gT (nx (nx mx83.2 1) 1) := RelC.nx1 rl112 ajV275 (by decide) axL276 (by decide) (by rw [← lk269]; exact t274) (ajV275 1 3 rfl)
                            have pq281 : (V275 1 2).toInt = ((V 1 2)).toInt := congrArg Int32.toInt ((ajV275 1 2 rfl).trans ((ajV101 1 2 rfl).trans ((ajV80 1 2 rfl).trans ((ajV63 1 2 rfl).trans ((ajV52 1 2 rfl).trans ((ajV28 1 2 rfl).trans (ajV18 1 2 rfl)))))))
                            have rl280 : RelC V275 L276 b gT (sN (nx (nx mx83.2 1) 1) 4 2) := RelC.s4 rl279 (by omega)
                            refine lv_aload_n hx hb dX1_readWrap_172 rfl (lv_at hl 5 rfl) ?_
                            refine lv_iload hx hb dX1_readWrap_173 (lv_at hl 1 rfl) ?_
                            refine lv_iconst (v := 1) hx hb dX1_readWrap_175 (by decide) ?_
                            refine lv_icmp_ne (tgt := 183) hx hb dX1_readWrap_176 (by decide) (fun c282 => ?_) (fun c282 => ?_)
                            · skip
                              have f283 : z133.toInt ≠ 1 := b_neq rfl (by decide) c282
                              exfalso; first | omega | ((try (have i_t99 := Imp.go t99 (by omega))); (try (have i_t98 := Imp.go t98 (by omega))); (try (have i_t61 := Imp.go t61 (by omega))); (try (have i_t61 := Imp.go t61 (by omega))); (try (have i_t98 := Imp.go t98 (by omega))); (try (have i_t99 := Imp.go t99 (by omega))); omega)
                            · skip
                              have f284 : z133.toInt = 1 := b_eq rfl (by decide) c282
                              refine lv_iconst (v := 2) hx hb dX1_readWrap_179 (by decide) ?_
                              refine lv_goto (tgt := 184) hx hb dX1_readWrap_180 (by decide) ?_
                              have w4285 : (sN (nx (nx mx83.2 1) 1) 4 2).1 4 = 2 := rfl
                              have r286 : Int32.toInt 2 = 2 := by decide
                              have pq287 : (V275 1 1).toInt = ((V 1 1)).toInt := congrArg Int32.toInt ((ajV275 1 1 rfl).trans ((ajV101 1 1 rfl).trans ((ajV80 1 1 rfl).trans ((ajV63 1 1 rfl).trans ((ajV52 1 1 rfl).trans ((ajV28 1 1 rfl).trans (ajV18 1 1 rfl)))))))
                              refine gA_int (gA_runV (As := [.int 2]) (rest := []) (ci := 1) (q0 := 1) hx hb hml hown hg hP hD hK hS hA hnw hgk (x_readE3 l D ks H.size ad kk V275 L276 Z 2 (b) (gT) ((sN (nx (nx mx83.2 1) 1) 4 2)) hMV275 (by decide) (show b < 2 from by first | omega | ((try (have i_t99 := Imp.go t99 (by omega))); (try (have i_t98 := Imp.go t98 (by omega))); (try (have i_t61 := Imp.go t61 (by omega))); (try (have i_t61 := Imp.go t61 (by omega))); (try (have i_t98 := Imp.go t98 (by omega))); (try (have i_t99 := Imp.go t99 (by omega))); omega)) (show (V275 1 1).toInt = (b : Int) from by first | omega | ((try (have i_t99 := Imp.go t99 (by omega))); (try (have i_t98 := Imp.go t98 (by omega))); (try (have i_t61 := Imp.go t61 (by omega))); (try (have i_t61 := Imp.go t61 (by omega))); (try (have i_t98 := Imp.go t98 (by omega))); (try (have i_t99 := Imp.go t99 (by omega))); omega)) rl280 (show (Int32.toInt 2) = (((sN (nx (nx mx83.2 1) 1) 4 2).1 4 : Nat) : Int) from by first | omega | ((try (have i_t99 := Imp.go t99 (by omega))); (try (have i_t98 := Imp.go t98 (by omega))); (try (have i_t61 := Imp.go t61 (by omega))); (try (have i_t61 := Imp.go t61 (by omega))); (try (have i_t98 := Imp.go t98 (by omega))); (try (have i_t99 := Imp.go t99 (by omega))); omega)) (fun h9 => by exfalso; omega)) w947 w949 w20 w162 w950 rfl xgReader hdV_yX1_readE ⟨Nat.le_of_ble_eq_true rfl, Nat.le_of_ble_eq_true rfl⟩ rfl hl.1 rfl (Nat.le_of_ble_eq_true rfl) dX1_readWrap_184 ⟨Nat.le_of_ble_eq_true rfl, Nat.le_of_ble_eq_true rfl⟩) hP hD hK hS hA (fun z288 u289 H locs w290 hP hD hK hS => ?_)
                              obtain ⟨V293, L294⟩ := u289
                              obtain ⟨hMV293, ajV293, axL294, rgz288, t291, t292⟩ := w290
                              have alL294 : agL [6, 44] L L294 := agL.tr alL276 axL294 (by decide)
                              have hP : va_P D vwCl (xw ad kk V293 L294 Z) H := hP
                              have hD : va_D A (xw ad kk V293 L294 Z) := hD
                              have hMV293 : rgd bX V293 := hMV293
                              have ajV293 : agr [(1, 3), (1, 4), (1, 6), (1, 8), (6, 8), (6, 9), (6, 10)] [42, 43, 44, 48] V275 V293 := ajV293
                              have agV293 : agr [(1, 3), (1, 4), (1, 6), (1, 8), (6, 8), (6, 9), (6, 10)] [41, 42, 43, 44, 47, 48, 62, 63, 64, 65, 66] V V293 := agV275.tr ajV293 (by decide) (by decide)
                              have rgz288 : 0 ≤ z288.toInt ∧ z288.toInt ≤ 1 := rgz288
                              have t291 : Rd gT (sN (nx (nx mx83.2 1) 1) 4 2) (fun k => Iexpr 0 :: Itake 59 :: k) (fun k => k) z288.toInt (V293 1 3).toInt (fun s9 => RelC V293 L294 b gT s9 ∧ keepS (sN (nx (nx mx83.2 1) 1) 4 2) 2 s9) := t291
                              have t292 : ROWL b L276 L294 := t292
                              rcases t291 with ⟨q295, sx296, h297, rl298, kp299⟩ | ⟨q295, h297⟩
                              · skip
                                have hr300 : ∀ k, Rc gT (Crun gs (Istmt :: k)) (Crun sx296 (IaddWr mx83.1 (1 : Int) :: Istmt :: k)) := fun k => (hr264 k).tr (h297 (IaddWr mx83.1 (1 : Int) :: Istmt :: k))
                                refine lv_if_ne (tgt := 192) hx hb dX1_readWrap_187 (by decide) (fun c301 => ?_) (fun c301 => ?_)
                                · skip
                                  have f302 : z288.toInt ≠ 0 := b_neq rfl (by decide) c301
                                  refine lv_aload_n hx hb dX1_readWrap_192 rfl (lv_at hl 5 rfl) ?_
                                  refine va_get (D := D) (ci := 1) (v := rfN ad 38 (V293 1 1)) (fs := (xfReader ad V293 L294 Z)) (C := RX1) (T := TX1) (N := 9) hx hb hg inX1 hown hK hP 1 xgReader rfl 1 (by decide) (hg _ w305) (fun _ h9 => h9) rfl dX1_readWrap_193 ?_
                                  have pq303 : (V293 1 1).toInt = ((V 1 1)).toInt := congrArg Int32.toInt ((ajV293 1 1 rfl).trans ((ajV275 1 1 rfl).trans ((ajV101 1 1 rfl).trans ((ajV80 1 1 rfl).trans ((ajV63 1 1 rfl).trans ((ajV52 1 1 rfl).trans ((ajV28 1 1 rfl).trans (ajV18 1 1 rfl))))))))
                                  refine g_topv (v := .ref (ad (38 + b))) (rfN_r (by first | omega | ((try (have i_t99 := Imp.go t99 (by omega))); (try (have i_t98 := Imp.go t98 (by omega))); (try (have i_t61 := Imp.go t61 (by omega))); (try (have i_t61 := Imp.go t61 (by omega))); (try (have i_t98 := Imp.go t98 (by omega))); (try (have i_t99 := Imp.go t99 (by omega))); omega))) ?_
                                  refine lv_iload_n hx hb dX1_readWrap_196 rfl (lv_at hl 4 rfl) ?_
                                  refine lv_iload_n hx hb dX1_readWrap_197 rfl (lv_at hl 3 rfl) ?_
                                  refine lv_iload_n hx hb dX1_readWrap_198 rfl (lv_at hl 2 rfl) ?_
                                  refine lv_iload hx hb dX1_readWrap_199 (lv_at hl 1 rfl) ?_
                                  refine lv_iload hx hb dX1_readWrap_201 (lv_at hl 0 rfl) ?_
                                  refine gA_void (gA_runV (As := [.int (V28 1 6), .int (V80 1 6), .int (V101 1 8), .int z133, .int (V 42 b)]) (rest := []) (ci := 0) (q0 := (38 + b)) hx hb hml hown hg hP hD hK hS hA hnw hgk (x_addWrap3 l D ks H.size ad kk V293 L294 Z (V28 1 6) (V80 1 6) (V101 1 8) z133 (V 42 b) (b) hMV293 (by first | omega | ((try (have i_t99 := Imp.go t99 (by omega))); (try (have i_t98 := Imp.go t98 (by omega))); (try (have i_t61 := Imp.go t61 (by omega))); (try (have i_t61 := Imp.go t61 (by omega))); (try (have i_t98 := Imp.go t98 (by omega))); (try (have i_t99 := Imp.go t99 (by omega))); omega)) (show b < 2 from by first | omega | ((try (have i_t99 := Imp.go t99 (by omega))); (try (have i_t98 := Imp.go t98 (by omega))); (try (have i_t61 := Imp.go t61 (by omega))); (try (have i_t61 := Imp.go t61 (by omega))); (try (have i_t98 := Imp.go t98 (by omega))); (try (have i_t99 := Imp.go t99 (by omega))); omega))) w999 w1000 w1001 w167 w1002 rfl (xgBook hb2) hdV_yX0_addWrap ⟨Nat.le_of_ble_eq_true rfl, Nat.le_of_ble_eq_true rfl⟩ rfl hl.1 rfl (Nat.le_of_ble_eq_true rfl) dX1_readWrap_203 ⟨Nat.le_of_ble_eq_true rfl, Nat.le_of_ble_eq_true rfl⟩) hP hD hK hS hA (fun u305 H locs w306 hP hD hK hS => ?_)
                                  obtain ⟨V310, L311⟩ := u305
                                  obtain ⟨hMV310, ajV310, axL311, t307, t308, t309⟩ := w306
                                  have axL311 : L294 = L311 := Eq.symm axL311
                                  subst axL311
                                  have hP : va_P D vwCl (xw ad kk V310 L294 Z) H := hP
                                  have hD : va_D A (xw ad kk V310 L294 Z) := hD
                                  have hMV310 : rgd bX V310 := hMV310
                                  have ajV310 : agr [] [41, 47, 62, 63, 64, 65, 66] V293 V310 := ajV310
                                  have agV310 : agr [(1, 3), (1, 4), (1, 6), (1, 8), (6, 8), (6, 9), (6, 10)] [41, 42, 43, 44, 47, 48, 62, 63, 64, 65, 66] V V310 := agV293.tr ajV310 (by decide) (by decide)
                                  have t307 : Imp ((V293 41 b).toInt < 12) ((V310 41 b).toInt = (V293 41 b).toInt + 1) := t307
                                  have t308 : Imp ((V293 41 b).toInt < 12) (V310 63 = upd (V293 63) (12 * b + Int32.toNatClampNeg (V293 41 b)) (V80 1 6)) := t308
                                  have t309 : Imp ((V293 41 b).toInt < 12) (V310 65 = upd (V293 65) (12 * b + Int32.toNatClampNeg (V293 41 b)) z133) := t309
                                  have pq312 : (V293 41 b).toInt = ((V 41 b)).toInt := congrArg Int32.toInt ((ajV293 41 b rfl).trans ((ajV275 41 b rfl).trans ((ajV101 41 b rfl).trans ((ajV80 41 b rfl).trans ((ajV63 41 b rfl).trans ((ajV52 41 b rfl).trans ((ajV28 41 b rfl).trans (ajV18 41 b rfl))))))))
                                  have w41 := rl298.2.2.2.1.1
                                  have w42 := congrArg (fun q9 : List (Nat × Bool) × List Nat => q9.1.length) ((kp299).2.2.2.trans ((rfl : (sN (nx (nx mx83.2 1) 1) 4 2).2.2 = (nx (nx mx83.2 1) 1).2.2).trans (((keepS.n1 1)).2.2.2.trans (((keepS.n1 1)).2.2.2.trans ((kp88).2.2.2.trans (((keepS.n1 1)).2.2.2.trans (((keepS.n1 1)).2.2.2.trans (((keepS.n1 1)).2.2.2.trans (rfl : gs.2.2 = gs.2.2)))))))))
                                  have w43 : (sx296.2.2.1.length) = gs.2.2.1.length := w42
                                  have l41314 : (V293 41 b).toInt < 12 := by omega
                                  have rl313 : RelC V310 L294 b gT (sW sx296 (mx83.1, decide (z133.toInt = 1))) := RelC.wr rl298 ajV310 (by decide) (hMV293 41 b).1 (Imp.go t307 l41314) (Imp.go t308 l41314) (Imp.go t309 l41314) (by omega)
                                  have ph9 : z133.toInt = (1 : Int) := by omega
                                  have rl315 : RelC V310 L294 b gT (sW sx296 (mx83.1, decide ((1 : Int) = 1))) := by have h9 := rl313; rw [ph9] at h9; exact h9
                                  have hr316 : ∀ k, Rc gT (Crun gs (Istmt :: k)) (Crun (sW sx296 (mx83.1, decide ((1 : Int) = 1))) (Istmt :: k)) := fun k => Rc.go1 (hr300 k) (m_addWr mx83.1 (1 : Int))
                                  refine lv_iconst (v := 1) hx hb dX1_readWrap_206 (by decide) ?_
                                  have ps317 : gs.1 0 + 1 ≤ (nx gs 1).1 0 := ((keepS.n1 1)).1
                                  have ps318 : (nx gs 1).1 0 + 1 ≤ (nx (nx gs 1) 1).1 0 := ((keepS.n1 1)).1
                                  have ps319 : (nx (nx gs 1) 1).1 0 + 1 ≤ (nx (nx (nx gs 1) 1) 1).1 0 := ((keepS.n1 1)).1
                                  have ps320 : (nx (nx (nx gs 1) 1) 1).1 0 + 1 ≤ mx83.2.1 0 := (kp88).1
                                  have ps321 : mx83.2.1 0 + 1 ≤ (nx mx83.2 1).1 0 := ((keepS.n1 1)).1
                                  have ps322 : (nx mx83.2 1).1 0 + 1 ≤ (nx (nx mx83.2 1) 1).1 0 := ((keepS.n1 1)).1
                                  have ps323 : (sN (nx (nx mx83.2 1) 1) 4 2).1 0 = (nx (nx mx83.2 1) 1).1 0 := rfl
                                  have ps324 : (sN (nx (nx mx83.2 1) 1) 4 2).1 0 + 2 ≤ sx296.1 0 := (kp299).1
                                  have ps325 : (sW sx296 (mx83.1, decide ((1 : Int) = 1))).1 0 = sx296.1 0 := rfl
                                  have rw326 : ROWL b L L294 := (fun k hk => ((t292 k hk).trans ((axL276 44 k rfl).trans ((axL102 44 k rfl).trans ((t79 k hk).trans ((axL64 44 k rfl).trans ((axL53 44 k rfl).trans ((axL19 44 k rfl).trans rfl))))))))
                                  exact W.zret (v := 1) hx hb hr rfl (fun t ht hW => ⟨⟨1, (V310, L294), rfl, ⟨hMV310, agV310, alL294, (by decide), (Or.inl ⟨rfl, (sW sx296 (mx83.1, decide ((1 : Int) = 1))), hr316, rl315, (by omega)⟩), rw326⟩, by rw [ht]; exact hP, va_K.moved hW.alike hK, hD⟩, hS.F ht⟩) hS.2.2 dX1_readWrap_207
                                · skip
                                  have f327 : z288.toInt = 0 := b_eq rfl (by decide) c301
                                  exfalso; first | omega | ((try (have i_t99 := Imp.go t99 (by omega))); (try (have i_t98 := Imp.go t98 (by omega))); (try (have i_t61 := Imp.go t61 (by omega))); (try (have i_t61 := Imp.go t61 (by omega))); (try (have i_t98 := Imp.go t98 (by omega))); (try (have i_t99 := Imp.go t99 (by omega))); omega)
                              · skip
                                have hb328 : ∀ k, Rc gT (Crun gs (Istmt :: k)) (Cbad (V293 1 3).toInt) := fun k => (hr264 k).tr (h297 (IaddWr mx83.1 (1 : Int) :: Istmt :: k))
                                refine lv_if_ne (tgt := 192) hx hb dX1_readWrap_187 (by decide) (fun c329 => ?_) (fun c329 => ?_)
                                · skip
                                  have f330 : z288.toInt ≠ 0 := b_neq rfl (by decide) c329
                                  exfalso; first | omega | ((try (have i_t99 := Imp.go t99 (by omega))); (try (have i_t98 := Imp.go t98 (by omega))); (try (have i_t61 := Imp.go t61 (by omega))); (try (have i_t61 := Imp.go t61 (by omega))); (try (have i_t98 := Imp.go t98 (by omega))); (try (have i_t99 := Imp.go t99 (by omega))); omega)
                                · skip
                                  have f331 : z288.toInt = 0 := b_eq rfl (by decide) c329
                                  refine lv_iconst (v := 0) hx hb dX1_readWrap_190 (by decide) ?_
                                  have rw332 : ROWL b L L294 := (fun k hk => ((t292 k hk).trans ((axL276 44 k rfl).trans ((axL102 44 k rfl).trans ((t79 k hk).trans ((axL64 44 k rfl).trans ((axL53 44 k rfl).trans ((axL19 44 k rfl).trans rfl))))))))
                                  exact W.zret (v := 0) hx hb hr rfl (fun t ht hW => ⟨⟨0, (V293, L294), rfl, ⟨hMV293, agV293, alL294, (by decide), (Or.inr ⟨rfl, hb328⟩), rw332⟩, by rw [ht]; exact hP, va_K.moved hW.alike hK, hD⟩, hS.F ht⟩) hS.2.2 dX1_readWrap_191
                          · skip
                            have f333 : 2 ≤ z257.toInt := b_nlt rfl (by decide) c261
                            refine lv_aload_n hx hb dX1_readWrap_150 rfl (lv_at hl 4 rfl) ?_
                            refine lv_iconst (v := 5) hx hb dX1_readWrap_151 (by decide) ?_
                            have kd334 : gT.1 ((nx mx83.2 1).1 0) = ((V101 6 9)).toInt := RelC.kd rl112
                            have r335 : Int32.toInt 5 = 5 := by decide
                            refine gA_int (gA_runV (As := [.int 5]) (rest := []) (ci := 1) (q0 := 1) hx hb hml hown hg hP hD hK hS hA hnw hgk (x_wrong2 l D ks H.size ad kk V101 L102 Z 5 hMV101 (by decide)) w867 w869 w6 w162 w870 rfl xgReader hdV_yX1_wrong ⟨Nat.le_of_ble_eq_true rfl, Nat.le_of_ble_eq_true rfl⟩ rfl hl.1 rfl (Nat.le_of_ble_eq_true rfl) dX1_readWrap_152 ⟨Nat.le_of_ble_eq_true rfl, Nat.le_of_ble_eq_true rfl⟩) hP hD hK hS hA (fun z336 u337 H locs w338 hP hD hK hS => ?_)
                            obtain ⟨V341, L342⟩ := u337
                            obtain ⟨hMV341, ajV341, axL342, rgz336, t339, t340⟩ := w338
                            have axL342 : L102 = L342 := Eq.symm axL342
                            subst axL342
                            have hP : va_P D vwCl (xw ad kk V341 L102 Z) H := hP
                            have hD : va_D A (xw ad kk V341 L102 Z) := hD
                            have hMV341 : rgd bX V341 := hMV341
                            have ajV341 : agr [(1, 3)] [] V101 V341 := ajV341
                            have agV341 : agr [(1, 3), (1, 4), (1, 6), (1, 8), (6, 8), (6, 9), (6, 10)] [41, 42, 43, 44, 47, 48, 62, 63, 64, 65, 66] V V341 := agV101.tr ajV341 (by decide) (by decide)
                            have rgz336 : 0 ≤ z336.toInt ∧ z336.toInt ≤ 0 := rgz336
                            have t339 : 1 ≤ (V341 1 3).toInt := t339
                            have t340 : (V341 1 3).toInt = (Int32.toInt 5) + 16 * (V101 6 10).toInt := t340
                            have r343 : 0 ≤ ((V101 6 10)).toInt ∧ ((V101 6 10)).toInt ≤ 4000 := hMV101 6 10
                            have hb344 : ∀ k, Rc gT (Crun gs (Istmt :: k)) (Cbad (V341 1 3).toInt) := fun k => Rc.go1 (hr113 k) ((ph_5 mx83.1 (by rw [kd334]; omega) (by omega)).trans (fl_eq (RelC.st rl112) (show (V341 1 3).toInt = 5 + 16 * (V101 6 10).toInt from by omega)))
                            have rw345 : ROWL b L L102 := (fun k hk => ((axL102 44 k rfl).trans ((t79 k hk).trans ((axL64 44 k rfl).trans ((axL53 44 k rfl).trans ((axL19 44 k rfl).trans rfl))))))
                            exact W.zret (v := z336) hx hb hr (nb_ok (by omega)) (fun t ht hW => ⟨⟨z336, (V341, L102), rfl, ⟨hMV341, agV341, alL102, (show 0 ≤ z336.toInt ∧ z336.toInt ≤ 1 from by first | omega | ((try (have i_t99 := Imp.go t99 (by omega))); (try (have i_t98 := Imp.go t98 (by omega))); (try (have i_t61 := Imp.go t61 (by omega))); (try (have i_t61 := Imp.go t61 (by omega))); (try (have i_t98 := Imp.go t98 (by omega))); (try (have i_t99 := Imp.go t99 (by omega))); omega)), (Or.inr ⟨(by omega), hb344⟩), rw345⟩, by rw [ht]; exact hP, va_K.moved hW.alike hK, hD⟩, hS.F ht⟩) hS.2.2 dX1_readWrap_155
                      · skip
                        have f346 : 155 < ((V101 6 9)).toInt := b_nle rfl (by decide) c131
                        refine lv_aload_n hx hb dX1_readWrap_113 rfl (lv_at hl 3 rfl) ?_
                        refine lv_iconst (v := 1) hx hb dX1_readWrap_114 (by decide) ?_
                        have kd347 : gT.1 ((nx mx83.2 1).1 0) = ((V101 6 9)).toInt := RelC.kd rl112
                        have r348 : Int32.toInt 1 = 1 := by decide
                        refine gA_int (gA_runV (As := [.int 1]) (rest := []) (ci := 1) (q0 := 1) hx hb hml hown hg hP hD hK hS hA hnw hgk (x_wrong2 l D ks H.size ad kk V101 L102 Z 1 hMV101 (by decide)) w867 w869 w6 w162 w870 rfl xgReader hdV_yX1_wrong ⟨Nat.le_of_ble_eq_true rfl, Nat.le_of_ble_eq_true rfl⟩ rfl hl.1 rfl (Nat.le_of_ble_eq_true rfl) dX1_readWrap_115 ⟨Nat.le_of_ble_eq_true rfl, Nat.le_of_ble_eq_true rfl⟩) hP hD hK hS hA (fun z349 u350 H locs w351 hP hD hK hS => ?_)
                        obtain ⟨V354, L355⟩ := u350
                        obtain ⟨hMV354, ajV354, axL355, rgz349, t352, t353⟩ := w351
                        have axL355 : L102 = L355 := Eq.symm axL355
                        subst axL355
                        have hP : va_P D vwCl (xw ad kk V354 L102 Z) H := hP
                        have hD : va_D A (xw ad kk V354 L102 Z) := hD
                        have hMV354 : rgd bX V354 := hMV354
                        have ajV354 : agr [(1, 3)] [] V101 V354 := ajV354
                        have agV354 : agr [(1, 3), (1, 4), (1, 6), (1, 8), (6, 8), (6, 9), (6, 10)] [41, 42, 43, 44, 47, 48, 62, 63, 64, 65, 66] V V354 := agV101.tr ajV354 (by decide) (by decide)
                        have rgz349 : 0 ≤ z349.toInt ∧ z349.toInt ≤ 0 := rgz349
                        have t352 : 1 ≤ (V354 1 3).toInt := t352
                        have t353 : (V354 1 3).toInt = (Int32.toInt 1) + 16 * (V101 6 10).toInt := t353
                        have r356 : 0 ≤ ((V101 6 10)).toInt ∧ ((V101 6 10)).toInt ≤ 4000 := hMV101 6 10
                        have hb357 : ∀ k, Rc gT (Crun gs (Istmt :: k)) (Cbad (V354 1 3).toInt) := fun k => Rc.go1 (hr113 k) ((ph_1 mx83.1 (by rw [kd347]; omega)).trans (fl_eq (RelC.st rl112) (show (V354 1 3).toInt = 1 + 16 * (V101 6 10).toInt from by omega)))
                        have rw358 : ROWL b L L102 := (fun k hk => ((axL102 44 k rfl).trans ((t79 k hk).trans ((axL64 44 k rfl).trans ((axL53 44 k rfl).trans ((axL19 44 k rfl).trans rfl))))))
                        exact W.zret (v := z349) hx hb hr (nb_ok (by omega)) (fun t ht hW => ⟨⟨z349, (V354, L102), rfl, ⟨hMV354, agV354, alL102, (show 0 ≤ z349.toInt ∧ z349.toInt ≤ 1 from by first | omega | ((try (have i_t99 := Imp.go t99 (by omega))); (try (have i_t98 := Imp.go t98 (by omega))); (try (have i_t61 := Imp.go t61 (by omega))); (try (have i_t61 := Imp.go t61 (by omega))); (try (have i_t98 := Imp.go t98 (by omega))); (try (have i_t99 := Imp.go t99 (by omega))); omega)), (Or.inr ⟨(by omega), hb357⟩), rw358⟩, by rw [ht]; exact hP, va_K.moved hW.alike hK, hD⟩, hS.F ht⟩) hS.2.2 dX1_readWrap_118
                  · skip
                    have f359 : z95.toInt = 0 := b_eq rfl (by decide) c114
                    exfalso; first | omega | ((try (have i_t99 := Imp.go t99 (by omega))); (try (have i_t98 := Imp.go t98 (by omega))); (try (have i_t61 := Imp.go t61 (by omega))); (try (have i_t61 := Imp.go t61 (by omega))); (try (have i_t98 := Imp.go t98 (by omega))); (try (have i_t99 := Imp.go t99 (by omega))); omega)
                · skip
                  have hb360 : ∀ k, Rc gT (Crun gs (Istmt :: k)) (Cbad (V101 1 3).toInt) := fun k => Rc.go1 (hr89 k) ((nm_1 (fun h9 => h105 (rl85.tok.1.symm.trans h9))).trans (fl_eq rl85.tok.2.2 k108))
                  refine lv_if_ne (tgt := 82) hx hb dX1_readWrap_77 (by decide) (fun c361 => ?_) (fun c361 => ?_)
                  · skip
                    have f362 : z95.toInt ≠ 0 := b_neq rfl (by decide) c361
                    exfalso; first | omega | ((try (have i_t99 := Imp.go t99 (by omega))); (try (have i_t98 := Imp.go t98 (by omega))); (try (have i_t61 := Imp.go t61 (by omega))); (try (have i_t61 := Imp.go t61 (by omega))); (try (have i_t98 := Imp.go t98 (by omega))); (try (have i_t99 := Imp.go t99 (by omega))); omega)
                  · skip
                    have f363 : z95.toInt = 0 := b_eq rfl (by decide) c361
                    refine lv_iconst (v := 0) hx hb dX1_readWrap_80 (by decide) ?_
                    have rw364 : ROWL b L L102 := (fun k hk => ((axL102 44 k rfl).trans ((t79 k hk).trans ((axL64 44 k rfl).trans ((axL53 44 k rfl).trans ((axL19 44 k rfl).trans rfl))))))
                    exact W.zret (v := 0) hx hb hr rfl (fun t ht hW => ⟨⟨0, (V101, L102), rfl, ⟨hMV101, agV101, alL102, (by decide), (Or.inr ⟨rfl, hb360⟩), rw364⟩, by rw [ht]; exact hP, va_K.moved hW.alike hK, hD⟩, hS.F ht⟩) hS.2.2 dX1_readWrap_81
                · skip
                  have hb365 : ∀ k, Rc gT (Crun gs (Istmt :: k)) (Cbad (V101 1 3).toInt) := fun k => Rc.go1 (hr89 k) ((nm_4 (rl85.tok.1.trans h105) (by omega)).trans (fl_eq rl85.tok.2.2 k108))
                  refine lv_if_ne (tgt := 82) hx hb dX1_readWrap_77 (by decide) (fun c366 => ?_) (fun c366 => ?_)
                  · skip
                    have f367 : z95.toInt ≠ 0 := b_neq rfl (by decide) c366
                    exfalso; first | omega | ((try (have i_t99 := Imp.go t99 (by omega))); (try (have i_t98 := Imp.go t98 (by omega))); (try (have i_t61 := Imp.go t61 (by omega))); (try (have i_t61 := Imp.go t61 (by omega))); (try (have i_t98 := Imp.go t98 (by omega))); (try (have i_t99 := Imp.go t99 (by omega))); omega)
                  · skip
                    have f368 : z95.toInt = 0 := b_eq rfl (by decide) c366
                    refine lv_iconst (v := 0) hx hb dX1_readWrap_80 (by decide) ?_
                    have rw369 : ROWL b L L102 := (fun k hk => ((axL102 44 k rfl).trans ((t79 k hk).trans ((axL64 44 k rfl).trans ((axL53 44 k rfl).trans ((axL19 44 k rfl).trans rfl))))))
                    exact W.zret (v := 0) hx hb hr rfl (fun t ht hW => ⟨⟨0, (V101, L102), rfl, ⟨hMV101, agV101, alL102, (by decide), (Or.inr ⟨rfl, hb365⟩), rw369⟩, by rw [ht]; exact hP, va_K.moved hW.alike hK, hD⟩, hS.F ht⟩) hS.2.2 dX1_readWrap_81
              · skip
                have f370 : z75.toInt = 0 := b_eq rfl (by decide) c90
                exfalso; first | omega | ((try (have i_t61 := Imp.go t61 (by omega))); omega)
            · skip
              have hb371 : ∀ k, Rc gT (Crun gs (Istmt :: k)) (Cbad (V80 1 3).toInt) := fun k => Rc.go1 (hr70 k) (wm_b h84)
              refine lv_if_ne (tgt := 65) hx hb dX1_readWrap_60 (by decide) (fun c372 => ?_) (fun c372 => ?_)
              · skip
                have f373 : z75.toInt ≠ 0 := b_neq rfl (by decide) c372
                exfalso; first | omega | ((try (have i_t61 := Imp.go t61 (by omega))); omega)
              · skip
                have f374 : z75.toInt = 0 := b_eq rfl (by decide) c372
                refine lv_iconst (v := 0) hx hb dX1_readWrap_63 (by decide) ?_
                have rw375 : ROWL b L L81 := (fun k hk => ((t79 k hk).trans ((axL64 44 k rfl).trans ((axL53 44 k rfl).trans ((axL19 44 k rfl).trans rfl)))))
                exact W.zret (v := 0) hx hb hr rfl (fun t ht hW => ⟨⟨0, (V80, L81), rfl, ⟨hMV80, agV80, alL81, (by decide), (Or.inr ⟨rfl, hb371⟩), rw375⟩, by rw [ht]; exact hP, va_K.moved hW.alike hK, hD⟩, hS.F ht⟩) hS.2.2 dX1_readWrap_64
        · skip
          have hb376 : ∀ k, Rc gT (Crun gs (Istmt :: k)) (Cbad (V63 1 3).toInt) := fun k => Rc.go1 (hr41 k) ((tk_n (fun h9 => h66 (rl56.tok.1.symm.trans (h9.trans (by decide))))).trans (fl_eq rl56.tok.2.2 k67))
          refine lv_if_eq (tgt := 63) hx hb dX1_readWrap_52 (by decide) (fun c377 => ?_) (fun c377 => ?_)
          · skip
            have f378 : z58.toInt = 0 := b_eq rfl (by decide) c377
            refine lv_iconst (v := 0) hx hb dX1_readWrap_63 (by decide) ?_
            have rw379 : ROWL b L L64 := (fun k hk => ((axL64 44 k rfl).trans ((axL53 44 k rfl).trans ((axL19 44 k rfl).trans rfl))))
            exact W.zret (v := 0) hx hb hr rfl (fun t ht hW => ⟨⟨0, (V63, L64), rfl, ⟨hMV63, agV63, alL64, (by decide), (Or.inr ⟨rfl, hb376⟩), rw379⟩, by rw [ht]; exact hP, va_K.moved hW.alike hK, hD⟩, hS.F ht⟩) hS.2.2 dX1_readWrap_64
          · skip
            have f380 : z58.toInt ≠ 0 := b_neq rfl (by decide) c377
            exfalso; first | omega | ((try (have i_t61 := Imp.go t61 (by omega))); omega)
      · skip
        have f381 : z24.toInt = 0 := b_eq rfl (by decide) c38
        exfalso; omega
    · skip
      have hb382 : ∀ k, Rc gT (Crun gs (Istmt :: k)) (Cbad (V28 1 3).toInt) := fun k => Rc.go1 (hr8 k) (wt_b h32)
      refine lv_if_ne (tgt := 34) hx hb dX1_readWrap_29 (by decide) (fun c383 => ?_) (fun c383 => ?_)
      · skip
        have f384 : z24.toInt ≠ 0 := b_neq rfl (by decide) c383
        exfalso; omega
      · skip
        have f385 : z24.toInt = 0 := b_eq rfl (by decide) c383
        refine lv_iconst (v := 0) hx hb dX1_readWrap_32 (by decide) ?_
        have rw386 : ROWL b L L19 := (fun k hk => ((axL19 44 k rfl).trans rfl))
        exact W.zret (v := 0) hx hb hr rfl (fun t ht hW => ⟨⟨0, (V28, L19), rfl, ⟨hMV28, agV28, alL19, (by decide), (Or.inr ⟨rfl, hb382⟩), rw386⟩, by rw [ht]; exact hP, va_K.moved hW.alike hK, hD⟩, hS.F ht⟩) hS.2.2 dX1_readWrap_33
  · skip
    have f387 : 12 ≤ ((V 41 b)).toInt := b_nlt rfl (by decide) c4
    refine lv_aload_n hx hb dX1_readWrap_12 rfl (lv_at hl 0 rfl) ?_
    refine lv_iconst (v := 5) hx hb dX1_readWrap_13 (by decide) ?_
    have kd388 : gT.1 (gs.1 0) = ((V 6 9)).toInt := RelC.kd rel
    have r389 : Int32.toInt 5 = 5 := by decide
    refine gA_int (gA_runV (As := [.int 5]) (rest := []) (ci := 1) (q0 := 1) hx hb hml hown hg hP hD hK hS hA hnw hgk (x_wrong2 l D ks H.size ad kk V L Z 5 hMV (by decide)) w867 w869 w6 w162 w870 rfl xgReader hdV_yX1_wrong ⟨Nat.le_of_ble_eq_true rfl, Nat.le_of_ble_eq_true rfl⟩ rfl hl.1 rfl (Nat.le_of_ble_eq_true rfl) dX1_readWrap_14 ⟨Nat.le_of_ble_eq_true rfl, Nat.le_of_ble_eq_true rfl⟩) hP hD hK hS hA (fun z390 u391 H locs w392 hP hD hK hS => ?_)
    obtain ⟨V395, L396⟩ := u391
    obtain ⟨hMV395, ajV395, axL396, rgz390, t393, t394⟩ := w392
    have axL396 : L = L396 := Eq.symm axL396
    subst axL396
    have hP : va_P D vwCl (xw ad kk V395 L Z) H := hP
    have hD : va_D A (xw ad kk V395 L Z) := hD
    have hMV395 : rgd bX V395 := hMV395
    have ajV395 : agr [(1, 3)] [] V V395 := ajV395
    have agV395 : agr [(1, 3), (1, 4), (1, 6), (1, 8), (6, 8), (6, 9), (6, 10)] [41, 42, 43, 44, 47, 48, 62, 63, 64, 65, 66] V V395 := agV.tr ajV395 (by decide) (by decide)
    have rgz390 : 0 ≤ z390.toInt ∧ z390.toInt ≤ 0 := rgz390
    have t393 : 1 ≤ (V395 1 3).toInt := t393
    have t394 : (V395 1 3).toInt = (Int32.toInt 5) + 16 * (V 6 10).toInt := t394
    have r397 : 0 ≤ ((V 6 10)).toInt ∧ ((V 6 10)).toInt ≤ 4000 := hMV 6 10
    have hr398 : ∀ k, Rc gT (Crun gs (Istmt :: k)) (Crun gs (Istmt :: k)) := fun k => Rc.rf
    have hb399 : ∀ k, Rc gT (Crun gs (Istmt :: k)) (Cbad (V395 1 3).toInt) := fun k => Rc.go1 (hr398 k) ((st_136f (kd388.trans kd9) (by omega)).trans (fl_eq (RelC.st rel) (show (V395 1 3).toInt = 5 + 16 * (V 6 10).toInt from by omega)))
    have rw400 : ROWL b L L := (fun k hk => rfl)
    exact W.zret (v := z390) hx hb hr (nb_ok (by omega)) (fun t ht hW => ⟨⟨z390, (V395, L), rfl, ⟨hMV395, agV395, alL, (show 0 ≤ z390.toInt ∧ z390.toInt ≤ 1 from by omega), (Or.inr ⟨(by omega), hb399⟩), rw400⟩, by rw [ht]; exact hP, va_K.moved hW.alike hK, hD⟩, hS.F ht⟩) hS.2.2 dX1_readWrap_17
abbrev r_x_readStatement3 : Room := { frames := 92, cells := 0, slots := 0, locals := 2708 }
abbrev q_x_readStatement3 (D : va_G) (ks : KS) (ad : Nat → Nat) (kk : Nat → ClassId) (V : Vf) (L : Lf) (Z : XZ) (b : Nat) (gT : Tk) (gs : St) (A : Nat → Prop) : Array Value → State → Outcome → State → Prop := va_Qi (fun (r : Int32) (u : Vf × Lf) => rgd bX u.1 ∧ agr [(1, 2), (1, 3), (1, 4), (1, 6), (1, 7), (1, 8), (6, 8), (6, 9), (6, 10)] [41, 42, 43, 44, 45, 46, 47, 48, 49, 50, 51, 52, 53, 54, 55, 56, 57, 61, 62, 63, 64, 65, 66] V u.1 ∧ agL [1, 6, 44] L u.2 ∧ (0 ≤ r.toInt ∧ r.toInt ≤ 1) ∧ (Imp (r.toInt = 1) ((u.1 1 2).toInt = -1 ∨ (24 * (b : Int) ≤ (u.1 1 2).toInt ∧ (u.1 1 2).toInt < 24 * (b : Int) + 24))) ∧ (Rd gT gs (fun k => Istmt :: k) (fun k => nxI (u.1 1 2) k) r.toInt (u.1 1 3).toInt (fun s9 => RelC u.1 u.2 b gT s9 ∧ gs.1 0 + 1 ≤ s9.1 0)) ∧ (ROWL b L u.2)) (fun u t => gq D A (xw ad kk u.1 u.2 Z) (xty kk Z) t) A
set_option maxHeartbeats 4000000 in
set_option maxRecDepth 100000 in
theorem x_readStatement3 (l : Launch) (D : va_G) (ks : KS) (sz : Nat) (ad : Nat → Nat) (kk : Nat → ClassId) (V : Vf) (L : Lf) (Z : XZ) (b : Nat) (gT : Tk) (gs : St) (hMV : rgd bX V) (hb2 : b < 2) (rbk : (V 1 1).toInt = (b : Int)) (own : (V 1 2).toInt = -1) (rel : RelC V L b gT gs) (kn0 : (V 6 9).toInt ≠ 0)  : Met l yX1_readStatement (Cond.code yX1_readStatement cX1_readStatement 1 (some .boolean) :: GW) r_x_readStatement3 (va_Pc [.ref (ad 1)] (gp D ks (xw ad kk V L Z) (xty kk Z) sz)) (q_x_readStatement3 D ks ad kk V L Z  b gT gs (va_A (xw ad kk V L Z) sz)) 0 0 (va_A (xw ad kk V L Z) sz) := by
  refine g_met (q_x_readStatement3 D ks ad kk V L Z  b gT gs) (by decide) (Nat.le_of_ble_eq_true rfl) ?_
  intro p e s m below meth c A ls H locs hx hb hr hml hown hg hlocks hin hnw hgk hP hK hD hS hA hl
  have hown : s.vm.findClass RX1 = some m.cls := hown
  have hl : lv_has ls 1 [(0, .ref (ad 1))] := hl
  have hP : va_P D vwCl (xw ad kk V L Z) H := hP
  have hD : va_D A (xw ad kk V L Z) := hD
  have hK : va_K D vwCl (xty kk Z) s := hK
  have agV : agr [(1, 2), (1, 3), (1, 4), (1, 6), (1, 7), (1, 8), (6, 8), (6, 9), (6, 10)] [41, 42, 43, 44, 45, 46, 47, 48, 49, 50, 51, 52, 53, 54, 55, 56, 57, 61, 62, 63, 64, 65, 66] V V := agr.rf
  have alL : agL [1, 6, 44] L L := agL.rf
  have r1 : (-1) ≤ ((V 1 1)).toInt ∧ ((V 1 1)).toInt ≤ 1 := hMV 1 1
  have r2 : (-1) ≤ ((V 1 2)).toInt ∧ ((V 1 2)).toInt ≤ 47 := hMV 1 2
  refine lv_aload_n hx hb dX1_readStatement_0 rfl (lv_at hl 0 rfl) ?_
  refine va_get (D := D) (ci := 1) (v := .ref (ad 6)) (fs := (xfReader ad V L Z)) (C := RX1) (T := TX1) (N := 9) hx hb hg inX1 hown hK hP 1 xgReader rfl 0 (by decide) (hg _ w304) (fun _ h9 => h9) rfl dX1_readStatement_1 ?_
  refine va_getN (D := D) (ci := 9) (v := .int (V 6 9)) (fs := (xfTape ad V L Z)) (C := RX9) (T := TX9) (N := 12) hx hb hg inX9 hown hK hP 6 xgTape rfl 9 (by decide) (hnw.use 262 n262 rfl) (fun _ h9 => h9) rfl dX1_readStatement_4 ?_
  by_cases q3 : (V 6 9) = 128
  · refine g_top (v := 128) q3 ?_
    have fq3 : ((V 6 9)).toInt = 128 := b_eq rfl (by decide) q3
    refine lv_tableIn (x := 128) (off := 49) (tgt := 56) hx hb dX1_readStatement_7 (by decide) (by decide) (by decide) (by decide) ?_
    refine lv_aload_n hx hb dX1_readStatement_56 rfl (lv_at hl 0 rfl) ?_
    have hr4 : ∀ k, Rc gT (Crun gs (Istmt :: k)) (Crun gs (Istmt :: k)) := fun k => Rc.rf
    refine gA_int (gA_runV (As := []) (rest := []) (ci := 1) (q0 := 1) hx hb hml hown hg hP hD hK hS hA hnw hgk (x_readType3 l D ks H.size ad kk V L Z (b) (gT) (gs) hMV (show b < 2 from by omega) (show (V 1 1).toInt = (b : Int) from by omega) (show (V 1 2).toInt = -1 from by omega) rel (show (V 6 9).toInt = 128 from by omega)) w859 w861 w5 w162 w862 rfl xgReader hdV_yX1_readType ⟨Nat.le_of_ble_eq_true rfl, Nat.le_of_ble_eq_true rfl⟩ rfl hl.1 rfl (Nat.le_of_ble_eq_true rfl) dX1_readStatement_57 ⟨Nat.le_of_ble_eq_true rfl, Nat.le_of_ble_eq_true rfl⟩) hP hD hK hS hA (fun z5 u6 H locs w7 hP hD hK hS => ?_)
    obtain ⟨V10, L11⟩ := u6
    obtain ⟨hMV10, ajV10, axL11, rgz5, t8, t9⟩ := w7
    have alL11 : agL [1, 6, 44] L L11 := agL.tr alL axL11 (by decide)
    have hP : va_P D vwCl (xw ad kk V10 L11 Z) H := hP
    have hD : va_D A (xw ad kk V10 L11 Z) := hD
    have hMV10 : rgd bX V10 := hMV10
    have ajV10 : agr [(1, 3), (1, 6), (1, 7), (6, 8), (6, 9), (6, 10)] [43, 44, 45] V V10 := ajV10
    have agV10 : agr [(1, 2), (1, 3), (1, 4), (1, 6), (1, 7), (1, 8), (6, 8), (6, 9), (6, 10)] [41, 42, 43, 44, 45, 46, 47, 48, 49, 50, 51, 52, 53, 54, 55, 56, 57, 61, 62, 63, 64, 65, 66] V V10 := agV.tr ajV10 (by decide) (by decide)
    have rgz5 : 0 ≤ z5.toInt ∧ z5.toInt ≤ 1 := rgz5
    have t8 : Rd gT gs (fun k => Istmt :: k) (fun k => Istmt :: k) z5.toInt (V10 1 3).toInt (fun s9 => RelC V10 L11 b gT s9 ∧ gs.1 0 + 1 ≤ s9.1 0) := t8
    have t9 : ROWL b L L11 := t9
    rcases t8 with ⟨q12, sx13, h14, rl15, kp16⟩ | ⟨q12, h14⟩
    · skip
      have hr17 : ∀ k, Rc gT (Crun gs (Istmt :: k)) (Crun sx13 (Istmt :: k)) := fun k => (hr4 k).tr (h14 k)
      have pq18 : (V10 1 2).toInt = ((V 1 2)).toInt := congrArg Int32.toInt (ajV10 1 2 rfl)
      have ps19 : gs.1 0 + 1 ≤ sx13.1 0 := kp16
      have rw20 : ROWL b L L11 := (fun k hk => ((t9 k hk).trans rfl))
      exact W.zret (v := z5) hx hb hr (nb_ok (by omega)) (fun t ht hW => ⟨⟨z5, (V10, L11), rfl, ⟨hMV10, agV10, alL11, (show 0 ≤ z5.toInt ∧ z5.toInt ≤ 1 from by omega), (Imp.mk (fun hp => have hp : z5.toInt = 1 := hp; (show (V10 1 2).toInt = -1 ∨ (24 * (b : Int) ≤ (V10 1 2).toInt ∧ (V10 1 2).toInt < 24 * (b : Int) + 24) from by omega))), (Or.inl ⟨(by omega), sx13, (fun k => show Rc gT (Crun gs (Istmt :: k)) (Crun sx13 (nxI (V10 1 2) k)) from by rw [nxI_s (show (V10 1 2).toInt < 0 from by omega)]; exact hr17 k), rl15, (by omega)⟩), rw20⟩, by rw [ht]; exact hP, va_K.moved hW.alike hK, hD⟩, hS.F ht⟩) hS.2.2 dX1_readStatement_60
    · skip
      have hb21 : ∀ k, Rc gT (Crun gs (Istmt :: k)) (Cbad (V10 1 3).toInt) := fun k => (hr4 k).tr (h14 k)
      have pq22 : (V10 1 2).toInt = ((V 1 2)).toInt := congrArg Int32.toInt (ajV10 1 2 rfl)
      have rw23 : ROWL b L L11 := (fun k hk => ((t9 k hk).trans rfl))
      exact W.zret (v := z5) hx hb hr (nb_ok (by omega)) (fun t ht hW => ⟨⟨z5, (V10, L11), rfl, ⟨hMV10, agV10, alL11, (show 0 ≤ z5.toInt ∧ z5.toInt ≤ 1 from by omega), (Imp.mk (fun hp => have hp : z5.toInt = 1 := hp; (show (V10 1 2).toInt = -1 ∨ (24 * (b : Int) ≤ (V10 1 2).toInt ∧ (V10 1 2).toInt < 24 * (b : Int) + 24) from by omega))), (Or.inr ⟨(by omega), hb21⟩), rw23⟩, by rw [ht]; exact hP, va_K.moved hW.alike hK, hD⟩, hS.F ht⟩) hS.2.2 dX1_readStatement_60
  have gq3 : ((V 6 9)).toInt ≠ 128 := b_neq rfl (by decide) q3
  by_cases q24 : (V 6 9) = 129
  · refine g_top (v := 129) q24 ?_
    have fq24 : ((V 6 9)).toInt = 129 := b_eq rfl (by decide) q24
    refine lv_tableIn (x := 129) (off := 69) (tgt := 76) hx hb dX1_readStatement_7 (by decide) (by decide) (by decide) (by decide) ?_
    refine lv_aload_n hx hb dX1_readStatement_76 rfl (lv_at hl 0 rfl) ?_
    refine lv_iconst (v := 1) hx hb dX1_readStatement_77 (by decide) ?_
    have kd25 : gT.1 (gs.1 0) = ((V 6 9)).toInt := RelC.kd rel
    have r26 : Int32.toInt 1 = 1 := by decide
    refine gA_int (gA_runV (As := [.int 1]) (rest := []) (ci := 1) (q0 := 1) hx hb hml hown hg hP hD hK hS hA hnw hgk (x_wrong2 l D ks H.size ad kk V L Z 1 hMV (by decide)) w867 w869 w6 w162 w870 rfl xgReader hdV_yX1_wrong ⟨Nat.le_of_ble_eq_true rfl, Nat.le_of_ble_eq_true rfl⟩ rfl hl.1 rfl (Nat.le_of_ble_eq_true rfl) dX1_readStatement_78 ⟨Nat.le_of_ble_eq_true rfl, Nat.le_of_ble_eq_true rfl⟩) hP hD hK hS hA (fun z27 u28 H locs w29 hP hD hK hS => ?_)
    obtain ⟨V32, L33⟩ := u28
    obtain ⟨hMV32, ajV32, axL33, rgz27, t30, t31⟩ := w29
    have axL33 : L = L33 := Eq.symm axL33
    subst axL33
    have hP : va_P D vwCl (xw ad kk V32 L Z) H := hP
    have hD : va_D A (xw ad kk V32 L Z) := hD
    have hMV32 : rgd bX V32 := hMV32
    have ajV32 : agr [(1, 3)] [] V V32 := ajV32
    have agV32 : agr [(1, 2), (1, 3), (1, 4), (1, 6), (1, 7), (1, 8), (6, 8), (6, 9), (6, 10)] [41, 42, 43, 44, 45, 46, 47, 48, 49, 50, 51, 52, 53, 54, 55, 56, 57, 61, 62, 63, 64, 65, 66] V V32 := agV.tr ajV32 (by decide) (by decide)
    have rgz27 : 0 ≤ z27.toInt ∧ z27.toInt ≤ 0 := rgz27
    have t30 : 1 ≤ (V32 1 3).toInt := t30
    have t31 : (V32 1 3).toInt = (Int32.toInt 1) + 16 * (V 6 10).toInt := t31
    have r34 : 0 ≤ ((V 6 10)).toInt ∧ ((V 6 10)).toInt ≤ 4000 := hMV 6 10
    have hr35 : ∀ k, Rc gT (Crun gs (Istmt :: k)) (Crun gs (Istmt :: k)) := fun k => Rc.rf
    have hb36 : ∀ k, Rc gT (Crun gs (Istmt :: k)) (Cbad (V32 1 3).toInt) := fun k => Rc.go1 (hr35 k) ((st_x (fun h9 => absurd (h9.symm.trans (kd25.trans fq24)) (by decide)) (fun h9 => absurd (h9.symm.trans (kd25.trans fq24)) (by decide)) (fun h9 => absurd (h9.symm.trans (kd25.trans fq24)) (by decide)) (fun h9 => absurd (h9.symm.trans (kd25.trans fq24)) (by decide)) (fun h9 => absurd (h9.symm.trans (kd25.trans fq24)) (by decide))).trans (fl_eq (RelC.st rel) (show (V32 1 3).toInt = 1 + 16 * (V 6 10).toInt from by omega)))
    have pq37 : (V32 1 2).toInt = ((V 1 2)).toInt := congrArg Int32.toInt (ajV32 1 2 rfl)
    have rw38 : ROWL b L L := (fun k hk => rfl)
    exact W.zret (v := z27) hx hb hr (nb_ok (by omega)) (fun t ht hW => ⟨⟨z27, (V32, L), rfl, ⟨hMV32, agV32, alL, (show 0 ≤ z27.toInt ∧ z27.toInt ≤ 1 from by omega), (Imp.mk (fun hp => have hp : z27.toInt = 1 := hp; (show (V32 1 2).toInt = -1 ∨ (24 * (b : Int) ≤ (V32 1 2).toInt ∧ (V32 1 2).toInt < 24 * (b : Int) + 24) from by omega))), (Or.inr ⟨(by omega), hb36⟩), rw38⟩, by rw [ht]; exact hP, va_K.moved hW.alike hK, hD⟩, hS.F ht⟩) hS.2.2 dX1_readStatement_81
  have gq24 : ((V 6 9)).toInt ≠ 129 := b_neq rfl (by decide) q24
  by_cases q39 : (V 6 9) = 130
  · refine g_top (v := 130) q39 ?_
    have fq39 : ((V 6 9)).toInt = 130 := b_eq rfl (by decide) q39
    refine lv_tableIn (x := 130) (off := 54) (tgt := 61) hx hb dX1_readStatement_7 (by decide) (by decide) (by decide) (by decide) ?_
    refine lv_aload_n hx hb dX1_readStatement_61 rfl (lv_at hl 0 rfl) ?_
    have hr40 : ∀ k, Rc gT (Crun gs (Istmt :: k)) (Crun gs (Istmt :: k)) := fun k => Rc.rf
    refine gA_int (gA_runV (As := []) (rest := []) (ci := 1) (q0 := 1) hx hb hml hown hg hP hD hK hS hA hnw hgk (x_readSetting3 l D ks H.size ad kk V L Z (b) (gT) (gs) hMV (show b < 2 from by omega) (show (V 1 1).toInt = (b : Int) from by omega) (show (V 1 2).toInt = -1 from by omega) rel (show (V 6 9).toInt = 130 from by omega)) w901 w903 w11 w162 w904 rfl xgReader hdV_yX1_readSetting ⟨Nat.le_of_ble_eq_true rfl, Nat.le_of_ble_eq_true rfl⟩ rfl hl.1 rfl (Nat.le_of_ble_eq_true rfl) dX1_readStatement_62 ⟨Nat.le_of_ble_eq_true rfl, Nat.le_of_ble_eq_true rfl⟩) hP hD hK hS hA (fun z41 u42 H locs w43 hP hD hK hS => ?_)
    obtain ⟨V46, L47⟩ := u42
    obtain ⟨hMV46, ajV46, axL47, rgz41, t44, t45⟩ := w43
    have alL47 : agL [1, 6, 44] L L47 := agL.tr alL axL47 (by decide)
    have hP : va_P D vwCl (xw ad kk V46 L47 Z) H := hP
    have hD : va_D A (xw ad kk V46 L47 Z) := hD
    have hMV46 : rgd bX V46 := hMV46
    have ajV46 : agr [(1, 3), (1, 8), (6, 8), (6, 9), (6, 10)] [43, 44, 46] V V46 := ajV46
    have agV46 : agr [(1, 2), (1, 3), (1, 4), (1, 6), (1, 7), (1, 8), (6, 8), (6, 9), (6, 10)] [41, 42, 43, 44, 45, 46, 47, 48, 49, 50, 51, 52, 53, 54, 55, 56, 57, 61, 62, 63, 64, 65, 66] V V46 := agV.tr ajV46 (by decide) (by decide)
    have rgz41 : 0 ≤ z41.toInt ∧ z41.toInt ≤ 1 := rgz41
    have t44 : Rd gT gs (fun k => Istmt :: k) (fun k => Istmt :: k) z41.toInt (V46 1 3).toInt (fun s9 => RelC V46 L47 b gT s9 ∧ gs.1 0 + 1 ≤ s9.1 0) := t44
    have t45 : ROWL b L L47 := t45
    rcases t44 with ⟨q48, sx49, h50, rl51, kp52⟩ | ⟨q48, h50⟩
    · skip
      have hr53 : ∀ k, Rc gT (Crun gs (Istmt :: k)) (Crun sx49 (Istmt :: k)) := fun k => (hr40 k).tr (h50 k)
      have pq54 : (V46 1 2).toInt = ((V 1 2)).toInt := congrArg Int32.toInt (ajV46 1 2 rfl)
      have ps55 : gs.1 0 + 1 ≤ sx49.1 0 := kp52
      have rw56 : ROWL b L L47 := (fun k hk => ((t45 k hk).trans rfl))
      exact W.zret (v := z41) hx hb hr (nb_ok (by omega)) (fun t ht hW => ⟨⟨z41, (V46, L47), rfl, ⟨hMV46, agV46, alL47, (show 0 ≤ z41.toInt ∧ z41.toInt ≤ 1 from by omega), (Imp.mk (fun hp => have hp : z41.toInt = 1 := hp; (show (V46 1 2).toInt = -1 ∨ (24 * (b : Int) ≤ (V46 1 2).toInt ∧ (V46 1 2).toInt < 24 * (b : Int) + 24) from by omega))), (Or.inl ⟨(by omega), sx49, (fun k => show Rc gT (Crun gs (Istmt :: k)) (Crun sx49 (nxI (V46 1 2) k)) from by rw [nxI_s (show (V46 1 2).toInt < 0 from by omega)]; exact hr53 k), rl51, (by omega)⟩), rw56⟩, by rw [ht]; exact hP, va_K.moved hW.alike hK, hD⟩, hS.F ht⟩) hS.2.2 dX1_readStatement_65
    · skip
      have hb57 : ∀ k, Rc gT (Crun gs (Istmt :: k)) (Cbad (V46 1 3).toInt) := fun k => (hr40 k).tr (h50 k)
      have pq58 : (V46 1 2).toInt = ((V 1 2)).toInt := congrArg Int32.toInt (ajV46 1 2 rfl)
      have rw59 : ROWL b L L47 := (fun k hk => ((t45 k hk).trans rfl))
      exact W.zret (v := z41) hx hb hr (nb_ok (by omega)) (fun t ht hW => ⟨⟨z41, (V46, L47), rfl, ⟨hMV46, agV46, alL47, (show 0 ≤ z41.toInt ∧ z41.toInt ≤ 1 from by omega), (Imp.mk (fun hp => have hp : z41.toInt = 1 := hp; (show (V46 1 2).toInt = -1 ∨ (24 * (b : Int) ≤ (V46 1 2).toInt ∧ (V46 1 2).toInt < 24 * (b : Int) + 24) from by omega))), (Or.inr ⟨(by omega), hb57⟩), rw59⟩, by rw [ht]; exact hP, va_K.moved hW.alike hK, hD⟩, hS.F ht⟩) hS.2.2 dX1_readStatement_65
  have gq39 : ((V 6 9)).toInt ≠ 130 := b_neq rfl (by decide) q39
  by_cases q60 : (V 6 9) = 131
  · refine g_top (v := 131) q60 ?_
    have fq60 : ((V 6 9)).toInt = 131 := b_eq rfl (by decide) q60
    refine lv_tableIn (x := 131) (off := 59) (tgt := 66) hx hb dX1_readStatement_7 (by decide) (by decide) (by decide) (by decide) ?_
    refine lv_aload_n hx hb dX1_readStatement_66 rfl (lv_at hl 0 rfl) ?_
    have hr61 : ∀ k, Rc gT (Crun gs (Istmt :: k)) (Crun gs (Istmt :: k)) := fun k => Rc.rf
    refine gA_int (gA_runV (As := []) (rest := []) (ci := 1) (q0 := 1) hx hb hml hown hg hP hD hK hS hA hnw hgk (x_readComponent3 l D ks H.size ad kk V L Z (b) (gT) (gs) hMV (show b < 2 from by omega) (show (V 1 1).toInt = (b : Int) from by omega) (show (V 1 2).toInt = -1 from by omega) rel (show (V 6 9).toInt = 131 from by omega)) w910 w912 w13 w162 w913 rfl xgReader hdV_yX1_readComponent ⟨Nat.le_of_ble_eq_true rfl, Nat.le_of_ble_eq_true rfl⟩ rfl hl.1 rfl (Nat.le_of_ble_eq_true rfl) dX1_readStatement_67 ⟨Nat.le_of_ble_eq_true rfl, Nat.le_of_ble_eq_true rfl⟩) hP hD hK hS hA (fun z62 u63 H locs w64 hP hD hK hS => ?_)
    obtain ⟨V68, L69⟩ := u63
    obtain ⟨hMV68, ajV68, axL69, rgz62, t65, t66, t67⟩ := w64
    have alL69 : agL [1, 6, 44] L L69 := agL.tr alL axL69 (by decide)
    have hP : va_P D vwCl (xw ad kk V68 L69 Z) H := hP
    have hD : va_D A (xw ad kk V68 L69 Z) := hD
    have hMV68 : rgd bX V68 := hMV68
    have ajV68 : agr [(1, 2), (1, 3), (1, 6), (1, 7), (1, 8), (6, 8), (6, 9), (6, 10)] [43, 44, 49, 50, 51, 52, 53, 54, 55, 56, 57, 61] V V68 := ajV68
    have agV68 : agr [(1, 2), (1, 3), (1, 4), (1, 6), (1, 7), (1, 8), (6, 8), (6, 9), (6, 10)] [41, 42, 43, 44, 45, 46, 47, 48, 49, 50, 51, 52, 53, 54, 55, 56, 57, 61, 62, 63, 64, 65, 66] V V68 := agV.tr ajV68 (by decide) (by decide)
    have rgz62 : 0 ≤ z62.toInt ∧ z62.toInt ≤ 1 := rgz62
    have t65 : Imp (z62.toInt = 1) (24 * (b : Int) ≤ (V68 1 2).toInt ∧ (V68 1 2).toInt < 24 * (b : Int) + 24) := t65
    have t66 : Rd gT gs (fun k => Istmt :: k) (fun k => Imember :: k) z62.toInt (V68 1 3).toInt (fun s9 => RelC V68 L69 b gT s9 ∧ gs.1 0 + 1 ≤ s9.1 0) := t66
    have t67 : ROWL b L L69 := t67
    have r70 : (-1) ≤ ((V68 1 2)).toInt ∧ ((V68 1 2)).toInt ≤ 47 := hMV68 1 2
    rcases t66 with ⟨q71, sx72, h73, rl74, kp75⟩ | ⟨q71, h73⟩
    · skip
      have hr76 : ∀ k, Rc gT (Crun gs (Istmt :: k)) (Crun sx72 (Imember :: k)) := fun k => (hr61 k).tr (h73 k)
      have ps77 : gs.1 0 + 1 ≤ sx72.1 0 := kp75
      have rw78 : ROWL b L L69 := (fun k hk => ((t67 k hk).trans rfl))
      exact W.zret (v := z62) hx hb hr (nb_ok (by omega)) (fun t ht hW => ⟨⟨z62, (V68, L69), rfl, ⟨hMV68, agV68, alL69, (show 0 ≤ z62.toInt ∧ z62.toInt ≤ 1 from by first | omega | ((try (have i_t65 := Imp.go t65 (by omega))); omega)), (Imp.mk (fun hp => have hp : z62.toInt = 1 := hp; (show (V68 1 2).toInt = -1 ∨ (24 * (b : Int) ≤ (V68 1 2).toInt ∧ (V68 1 2).toInt < 24 * (b : Int) + 24) from by first | omega | ((try (have i_t65 := Imp.go t65 (by omega))); omega)))), (Or.inl ⟨(by omega), sx72, (fun k => show Rc gT (Crun gs (Istmt :: k)) (Crun sx72 (nxI (V68 1 2) k)) from by rw [nxI_m (show 0 ≤ (V68 1 2).toInt from by first | omega | ((try (have i_t65 := Imp.go t65 (by omega))); omega))]; exact hr76 k), rl74, (by omega)⟩), rw78⟩, by rw [ht]; exact hP, va_K.moved hW.alike hK, hD⟩, hS.F ht⟩) hS.2.2 dX1_readStatement_70
    · skip
      have hb79 : ∀ k, Rc gT (Crun gs (Istmt :: k)) (Cbad (V68 1 3).toInt) := fun k => (hr61 k).tr (h73 k)
      have rw80 : ROWL b L L69 := (fun k hk => ((t67 k hk).trans rfl))
      exact W.zret (v := z62) hx hb hr (nb_ok (by omega)) (fun t ht hW => ⟨⟨z62, (V68, L69), rfl, ⟨hMV68, agV68, alL69, (show 0 ≤ z62.toInt ∧ z62.toInt ≤ 1 from by first | omega | ((try (have i_t65 := Imp.go t65 (by omega))); omega)), (Imp.mk (fun hp => have hp : z62.toInt = 1 := hp; (show (V68 1 2).toInt = -1 ∨ (24 * (b : Int) ≤ (V68 1 2).toInt ∧ (V68 1 2).toInt < 24 * (b : Int) + 24) from by first | omega | ((try (have i_t65 := Imp.go t65 (by omega))); omega)))), (Or.inr ⟨(by omega), hb79⟩), rw80⟩, by rw [ht]; exact hP, va_K.moved hW.alike hK, hD⟩, hS.F ht⟩) hS.2.2 dX1_readStatement_70
  have gq60 : ((V 6 9)).toInt ≠ 131 := b_neq rfl (by decide) q60
  by_cases q81 : (V 6 9) = 132
  · refine g_top (v := 132) q81 ?_
    have fq81 : ((V 6 9)).toInt = 132 := b_eq rfl (by decide) q81
    refine lv_tableIn (x := 132) (off := 69) (tgt := 76) hx hb dX1_readStatement_7 (by decide) (by decide) (by decide) (by decide) ?_
    refine lv_aload_n hx hb dX1_readStatement_76 rfl (lv_at hl 0 rfl) ?_
    refine lv_iconst (v := 1) hx hb dX1_readStatement_77 (by decide) ?_
    have kd82 : gT.1 (gs.1 0) = ((V 6 9)).toInt := RelC.kd rel
    have r83 : Int32.toInt 1 = 1 := by decide
    refine gA_int (gA_runV (As := [.int 1]) (rest := []) (ci := 1) (q0 := 1) hx hb hml hown hg hP hD hK hS hA hnw hgk (x_wrong2 l D ks H.size ad kk V L Z 1 hMV (by decide)) w867 w869 w6 w162 w870 rfl xgReader hdV_yX1_wrong ⟨Nat.le_of_ble_eq_true rfl, Nat.le_of_ble_eq_true rfl⟩ rfl hl.1 rfl (Nat.le_of_ble_eq_true rfl) dX1_readStatement_78 ⟨Nat.le_of_ble_eq_true rfl, Nat.le_of_ble_eq_true rfl⟩) hP hD hK hS hA (fun z84 u85 H locs w86 hP hD hK hS => ?_)
    obtain ⟨V89, L90⟩ := u85
    obtain ⟨hMV89, ajV89, axL90, rgz84, t87, t88⟩ := w86
    have axL90 : L = L90 := Eq.symm axL90
    subst axL90
    have hP : va_P D vwCl (xw ad kk V89 L Z) H := hP
    have hD : va_D A (xw ad kk V89 L Z) := hD
    have hMV89 : rgd bX V89 := hMV89
    have ajV89 : agr [(1, 3)] [] V V89 := ajV89
    have agV89 : agr [(1, 2), (1, 3), (1, 4), (1, 6), (1, 7), (1, 8), (6, 8), (6, 9), (6, 10)] [41, 42, 43, 44, 45, 46, 47, 48, 49, 50, 51, 52, 53, 54, 55, 56, 57, 61, 62, 63, 64, 65, 66] V V89 := agV.tr ajV89 (by decide) (by decide)
    have rgz84 : 0 ≤ z84.toInt ∧ z84.toInt ≤ 0 := rgz84
    have t87 : 1 ≤ (V89 1 3).toInt := t87
    have t88 : (V89 1 3).toInt = (Int32.toInt 1) + 16 * (V 6 10).toInt := t88
    have r91 : 0 ≤ ((V 6 10)).toInt ∧ ((V 6 10)).toInt ≤ 4000 := hMV 6 10
    have hr92 : ∀ k, Rc gT (Crun gs (Istmt :: k)) (Crun gs (Istmt :: k)) := fun k => Rc.rf
    have hb93 : ∀ k, Rc gT (Crun gs (Istmt :: k)) (Cbad (V89 1 3).toInt) := fun k => Rc.go1 (hr92 k) ((st_x (fun h9 => absurd (h9.symm.trans (kd82.trans fq81)) (by decide)) (fun h9 => absurd (h9.symm.trans (kd82.trans fq81)) (by decide)) (fun h9 => absurd (h9.symm.trans (kd82.trans fq81)) (by decide)) (fun h9 => absurd (h9.symm.trans (kd82.trans fq81)) (by decide)) (fun h9 => absurd (h9.symm.trans (kd82.trans fq81)) (by decide))).trans (fl_eq (RelC.st rel) (show (V89 1 3).toInt = 1 + 16 * (V 6 10).toInt from by omega)))
    have pq94 : (V89 1 2).toInt = ((V 1 2)).toInt := congrArg Int32.toInt (ajV89 1 2 rfl)
    have rw95 : ROWL b L L := (fun k hk => rfl)
    exact W.zret (v := z84) hx hb hr (nb_ok (by omega)) (fun t ht hW => ⟨⟨z84, (V89, L), rfl, ⟨hMV89, agV89, alL, (show 0 ≤ z84.toInt ∧ z84.toInt ≤ 1 from by omega), (Imp.mk (fun hp => have hp : z84.toInt = 1 := hp; (show (V89 1 2).toInt = -1 ∨ (24 * (b : Int) ≤ (V89 1 2).toInt ∧ (V89 1 2).toInt < 24 * (b : Int) + 24) from by omega))), (Or.inr ⟨(by omega), hb93⟩), rw95⟩, by rw [ht]; exact hP, va_K.moved hW.alike hK, hD⟩, hS.F ht⟩) hS.2.2 dX1_readStatement_81
  have gq81 : ((V 6 9)).toInt ≠ 132 := b_neq rfl (by decide) q81
  by_cases q96 : (V 6 9) = 133
  · refine g_top (v := 133) q96 ?_
    have fq96 : ((V 6 9)).toInt = 133 := b_eq rfl (by decide) q96
    refine lv_tableIn (x := 133) (off := 69) (tgt := 76) hx hb dX1_readStatement_7 (by decide) (by decide) (by decide) (by decide) ?_
    refine lv_aload_n hx hb dX1_readStatement_76 rfl (lv_at hl 0 rfl) ?_
    refine lv_iconst (v := 1) hx hb dX1_readStatement_77 (by decide) ?_
    have kd97 : gT.1 (gs.1 0) = ((V 6 9)).toInt := RelC.kd rel
    have r98 : Int32.toInt 1 = 1 := by decide
    refine gA_int (gA_runV (As := [.int 1]) (rest := []) (ci := 1) (q0 := 1) hx hb hml hown hg hP hD hK hS hA hnw hgk (x_wrong2 l D ks H.size ad kk V L Z 1 hMV (by decide)) w867 w869 w6 w162 w870 rfl xgReader hdV_yX1_wrong ⟨Nat.le_of_ble_eq_true rfl, Nat.le_of_ble_eq_true rfl⟩ rfl hl.1 rfl (Nat.le_of_ble_eq_true rfl) dX1_readStatement_78 ⟨Nat.le_of_ble_eq_true rfl, Nat.le_of_ble_eq_true rfl⟩) hP hD hK hS hA (fun z99 u100 H locs w101 hP hD hK hS => ?_)
    obtain ⟨V104, L105⟩ := u100
    obtain ⟨hMV104, ajV104, axL105, rgz99, t102, t103⟩ := w101
    have axL105 : L = L105 := Eq.symm axL105
    subst axL105
    have hP : va_P D vwCl (xw ad kk V104 L Z) H := hP
    have hD : va_D A (xw ad kk V104 L Z) := hD
    have hMV104 : rgd bX V104 := hMV104
    have ajV104 : agr [(1, 3)] [] V V104 := ajV104
    have agV104 : agr [(1, 2), (1, 3), (1, 4), (1, 6), (1, 7), (1, 8), (6, 8), (6, 9), (6, 10)] [41, 42, 43, 44, 45, 46, 47, 48, 49, 50, 51, 52, 53, 54, 55, 56, 57, 61, 62, 63, 64, 65, 66] V V104 := agV.tr ajV104 (by decide) (by decide)
    have rgz99 : 0 ≤ z99.toInt ∧ z99.toInt ≤ 0 := rgz99
    have t102 : 1 ≤ (V104 1 3).toInt := t102
    have t103 : (V104 1 3).toInt = (Int32.toInt 1) + 16 * (V 6 10).toInt := t103
    have r106 : 0 ≤ ((V 6 10)).toInt ∧ ((V 6 10)).toInt ≤ 4000 := hMV 6 10
    have hr107 : ∀ k, Rc gT (Crun gs (Istmt :: k)) (Crun gs (Istmt :: k)) := fun k => Rc.rf
    have hb108 : ∀ k, Rc gT (Crun gs (Istmt :: k)) (Cbad (V104 1 3).toInt) := fun k => Rc.go1 (hr107 k) ((st_x (fun h9 => absurd (h9.symm.trans (kd97.trans fq96)) (by decide)) (fun h9 => absurd (h9.symm.trans (kd97.trans fq96)) (by decide)) (fun h9 => absurd (h9.symm.trans (kd97.trans fq96)) (by decide)) (fun h9 => absurd (h9.symm.trans (kd97.trans fq96)) (by decide)) (fun h9 => absurd (h9.symm.trans (kd97.trans fq96)) (by decide))).trans (fl_eq (RelC.st rel) (show (V104 1 3).toInt = 1 + 16 * (V 6 10).toInt from by omega)))
    have pq109 : (V104 1 2).toInt = ((V 1 2)).toInt := congrArg Int32.toInt (ajV104 1 2 rfl)
    have rw110 : ROWL b L L := (fun k hk => rfl)
    exact W.zret (v := z99) hx hb hr (nb_ok (by omega)) (fun t ht hW => ⟨⟨z99, (V104, L), rfl, ⟨hMV104, agV104, alL, (show 0 ≤ z99.toInt ∧ z99.toInt ≤ 1 from by omega), (Imp.mk (fun hp => have hp : z99.toInt = 1 := hp; (show (V104 1 2).toInt = -1 ∨ (24 * (b : Int) ≤ (V104 1 2).toInt ∧ (V104 1 2).toInt < 24 * (b : Int) + 24) from by omega))), (Or.inr ⟨(by omega), hb108⟩), rw110⟩, by rw [ht]; exact hP, va_K.moved hW.alike hK, hD⟩, hS.F ht⟩) hS.2.2 dX1_readStatement_81
  have gq96 : ((V 6 9)).toInt ≠ 133 := b_neq rfl (by decide) q96
  by_cases q111 : (V 6 9) = 134
  · refine g_top (v := 134) q111 ?_
    have fq111 : ((V 6 9)).toInt = 134 := b_eq rfl (by decide) q111
    refine lv_tableIn (x := 134) (off := 69) (tgt := 76) hx hb dX1_readStatement_7 (by decide) (by decide) (by decide) (by decide) ?_
    refine lv_aload_n hx hb dX1_readStatement_76 rfl (lv_at hl 0 rfl) ?_
    refine lv_iconst (v := 1) hx hb dX1_readStatement_77 (by decide) ?_
    have kd112 : gT.1 (gs.1 0) = ((V 6 9)).toInt := RelC.kd rel
    have r113 : Int32.toInt 1 = 1 := by decide
    refine gA_int (gA_runV (As := [.int 1]) (rest := []) (ci := 1) (q0 := 1) hx hb hml hown hg hP hD hK hS hA hnw hgk (x_wrong2 l D ks H.size ad kk V L Z 1 hMV (by decide)) w867 w869 w6 w162 w870 rfl xgReader hdV_yX1_wrong ⟨Nat.le_of_ble_eq_true rfl, Nat.le_of_ble_eq_true rfl⟩ rfl hl.1 rfl (Nat.le_of_ble_eq_true rfl) dX1_readStatement_78 ⟨Nat.le_of_ble_eq_true rfl, Nat.le_of_ble_eq_true rfl⟩) hP hD hK hS hA (fun z114 u115 H locs w116 hP hD hK hS => ?_)
    obtain ⟨V119, L120⟩ := u115
    obtain ⟨hMV119, ajV119, axL120, rgz114, t117, t118⟩ := w116
    have axL120 : L = L120 := Eq.symm axL120
    subst axL120
    have hP : va_P D vwCl (xw ad kk V119 L Z) H := hP
    have hD : va_D A (xw ad kk V119 L Z) := hD
    have hMV119 : rgd bX V119 := hMV119
    have ajV119 : agr [(1, 3)] [] V V119 := ajV119
    have agV119 : agr [(1, 2), (1, 3), (1, 4), (1, 6), (1, 7), (1, 8), (6, 8), (6, 9), (6, 10)] [41, 42, 43, 44, 45, 46, 47, 48, 49, 50, 51, 52, 53, 54, 55, 56, 57, 61, 62, 63, 64, 65, 66] V V119 := agV.tr ajV119 (by decide) (by decide)
    have rgz114 : 0 ≤ z114.toInt ∧ z114.toInt ≤ 0 := rgz114
    have t117 : 1 ≤ (V119 1 3).toInt := t117
    have t118 : (V119 1 3).toInt = (Int32.toInt 1) + 16 * (V 6 10).toInt := t118
    have r121 : 0 ≤ ((V 6 10)).toInt ∧ ((V 6 10)).toInt ≤ 4000 := hMV 6 10
    have hr122 : ∀ k, Rc gT (Crun gs (Istmt :: k)) (Crun gs (Istmt :: k)) := fun k => Rc.rf
    have hb123 : ∀ k, Rc gT (Crun gs (Istmt :: k)) (Cbad (V119 1 3).toInt) := fun k => Rc.go1 (hr122 k) ((st_x (fun h9 => absurd (h9.symm.trans (kd112.trans fq111)) (by decide)) (fun h9 => absurd (h9.symm.trans (kd112.trans fq111)) (by decide)) (fun h9 => absurd (h9.symm.trans (kd112.trans fq111)) (by decide)) (fun h9 => absurd (h9.symm.trans (kd112.trans fq111)) (by decide)) (fun h9 => absurd (h9.symm.trans (kd112.trans fq111)) (by decide))).trans (fl_eq (RelC.st rel) (show (V119 1 3).toInt = 1 + 16 * (V 6 10).toInt from by omega)))
    have pq124 : (V119 1 2).toInt = ((V 1 2)).toInt := congrArg Int32.toInt (ajV119 1 2 rfl)
    have rw125 : ROWL b L L := (fun k hk => rfl)
    exact W.zret (v := z114) hx hb hr (nb_ok (by omega)) (fun t ht hW => ⟨⟨z114, (V119, L), rfl, ⟨hMV119, agV119, alL, (show 0 ≤ z114.toInt ∧ z114.toInt ≤ 1 from by omega), (Imp.mk (fun hp => have hp : z114.toInt = 1 := hp; (show (V119 1 2).toInt = -1 ∨ (24 * (b : Int) ≤ (V119 1 2).toInt ∧ (V119 1 2).toInt < 24 * (b : Int) + 24) from by omega))), (Or.inr ⟨(by omega), hb123⟩), rw125⟩, by rw [ht]; exact hP, va_K.moved hW.alike hK, hD⟩, hS.F ht⟩) hS.2.2 dX1_readStatement_81
  have gq111 : ((V 6 9)).toInt ≠ 134 := b_neq rfl (by decide) q111
  by_cases q126 : (V 6 9) = 135
  · refine g_top (v := 135) q126 ?_
    have fq126 : ((V 6 9)).toInt = 135 := b_eq rfl (by decide) q126
    refine lv_tableIn (x := 135) (off := 69) (tgt := 76) hx hb dX1_readStatement_7 (by decide) (by decide) (by decide) (by decide) ?_
    refine lv_aload_n hx hb dX1_readStatement_76 rfl (lv_at hl 0 rfl) ?_
    refine lv_iconst (v := 1) hx hb dX1_readStatement_77 (by decide) ?_
    have kd127 : gT.1 (gs.1 0) = ((V 6 9)).toInt := RelC.kd rel
    have r128 : Int32.toInt 1 = 1 := by decide
    refine gA_int (gA_runV (As := [.int 1]) (rest := []) (ci := 1) (q0 := 1) hx hb hml hown hg hP hD hK hS hA hnw hgk (x_wrong2 l D ks H.size ad kk V L Z 1 hMV (by decide)) w867 w869 w6 w162 w870 rfl xgReader hdV_yX1_wrong ⟨Nat.le_of_ble_eq_true rfl, Nat.le_of_ble_eq_true rfl⟩ rfl hl.1 rfl (Nat.le_of_ble_eq_true rfl) dX1_readStatement_78 ⟨Nat.le_of_ble_eq_true rfl, Nat.le_of_ble_eq_true rfl⟩) hP hD hK hS hA (fun z129 u130 H locs w131 hP hD hK hS => ?_)
    obtain ⟨V134, L135⟩ := u130
    obtain ⟨hMV134, ajV134, axL135, rgz129, t132, t133⟩ := w131
    have axL135 : L = L135 := Eq.symm axL135
    subst axL135
    have hP : va_P D vwCl (xw ad kk V134 L Z) H := hP
    have hD : va_D A (xw ad kk V134 L Z) := hD
    have hMV134 : rgd bX V134 := hMV134
    have ajV134 : agr [(1, 3)] [] V V134 := ajV134
    have agV134 : agr [(1, 2), (1, 3), (1, 4), (1, 6), (1, 7), (1, 8), (6, 8), (6, 9), (6, 10)] [41, 42, 43, 44, 45, 46, 47, 48, 49, 50, 51, 52, 53, 54, 55, 56, 57, 61, 62, 63, 64, 65, 66] V V134 := agV.tr ajV134 (by decide) (by decide)
    have rgz129 : 0 ≤ z129.toInt ∧ z129.toInt ≤ 0 := rgz129
    have t132 : 1 ≤ (V134 1 3).toInt := t132
    have t133 : (V134 1 3).toInt = (Int32.toInt 1) + 16 * (V 6 10).toInt := t133
    have r136 : 0 ≤ ((V 6 10)).toInt ∧ ((V 6 10)).toInt ≤ 4000 := hMV 6 10
    have hr137 : ∀ k, Rc gT (Crun gs (Istmt :: k)) (Crun gs (Istmt :: k)) := fun k => Rc.rf
    have hb138 : ∀ k, Rc gT (Crun gs (Istmt :: k)) (Cbad (V134 1 3).toInt) := fun k => Rc.go1 (hr137 k) ((st_x (fun h9 => absurd (h9.symm.trans (kd127.trans fq126)) (by decide)) (fun h9 => absurd (h9.symm.trans (kd127.trans fq126)) (by decide)) (fun h9 => absurd (h9.symm.trans (kd127.trans fq126)) (by decide)) (fun h9 => absurd (h9.symm.trans (kd127.trans fq126)) (by decide)) (fun h9 => absurd (h9.symm.trans (kd127.trans fq126)) (by decide))).trans (fl_eq (RelC.st rel) (show (V134 1 3).toInt = 1 + 16 * (V 6 10).toInt from by omega)))
    have pq139 : (V134 1 2).toInt = ((V 1 2)).toInt := congrArg Int32.toInt (ajV134 1 2 rfl)
    have rw140 : ROWL b L L := (fun k hk => rfl)
    exact W.zret (v := z129) hx hb hr (nb_ok (by omega)) (fun t ht hW => ⟨⟨z129, (V134, L), rfl, ⟨hMV134, agV134, alL, (show 0 ≤ z129.toInt ∧ z129.toInt ≤ 1 from by omega), (Imp.mk (fun hp => have hp : z129.toInt = 1 := hp; (show (V134 1 2).toInt = -1 ∨ (24 * (b : Int) ≤ (V134 1 2).toInt ∧ (V134 1 2).toInt < 24 * (b : Int) + 24) from by omega))), (Or.inr ⟨(by omega), hb138⟩), rw140⟩, by rw [ht]; exact hP, va_K.moved hW.alike hK, hD⟩, hS.F ht⟩) hS.2.2 dX1_readStatement_81
  have gq126 : ((V 6 9)).toInt ≠ 135 := b_neq rfl (by decide) q126
  by_cases q141 : (V 6 9) = 136
  · refine g_top (v := 136) q141 ?_
    have fq141 : ((V 6 9)).toInt = 136 := b_eq rfl (by decide) q141
    refine lv_tableIn (x := 136) (off := 64) (tgt := 71) hx hb dX1_readStatement_7 (by decide) (by decide) (by decide) (by decide) ?_
    refine lv_aload_n hx hb dX1_readStatement_71 rfl (lv_at hl 0 rfl) ?_
    have hr142 : ∀ k, Rc gT (Crun gs (Istmt :: k)) (Crun gs (Istmt :: k)) := fun k => Rc.rf
    refine gA_int (gA_runV (As := []) (rest := []) (ci := 1) (q0 := 1) hx hb hml hown hg hP hD hK hS hA hnw hgk (x_readWrap3 l D ks H.size ad kk V L Z (b) (gT) (gs) hMV (show b < 2 from by omega) (show (V 1 1).toInt = (b : Int) from by omega) (show (V 1 2).toInt = -1 from by omega) rel (show (V 6 9).toInt = 136 from by omega)) w935 w937 w18 w162 w938 rfl xgReader hdV_yX1_readWrap ⟨Nat.le_of_ble_eq_true rfl, Nat.le_of_ble_eq_true rfl⟩ rfl hl.1 rfl (Nat.le_of_ble_eq_true rfl) dX1_readStatement_72 ⟨Nat.le_of_ble_eq_true rfl, Nat.le_of_ble_eq_true rfl⟩) hP hD hK hS hA (fun z143 u144 H locs w145 hP hD hK hS => ?_)
    obtain ⟨V148, L149⟩ := u144
    obtain ⟨hMV148, ajV148, axL149, rgz143, t146, t147⟩ := w145
    have alL149 : agL [1, 6, 44] L L149 := agL.tr alL axL149 (by decide)
    have hP : va_P D vwCl (xw ad kk V148 L149 Z) H := hP
    have hD : va_D A (xw ad kk V148 L149 Z) := hD
    have hMV148 : rgd bX V148 := hMV148
    have ajV148 : agr [(1, 3), (1, 4), (1, 6), (1, 8), (6, 8), (6, 9), (6, 10)] [41, 42, 43, 44, 47, 48, 62, 63, 64, 65, 66] V V148 := ajV148
    have agV148 : agr [(1, 2), (1, 3), (1, 4), (1, 6), (1, 7), (1, 8), (6, 8), (6, 9), (6, 10)] [41, 42, 43, 44, 45, 46, 47, 48, 49, 50, 51, 52, 53, 54, 55, 56, 57, 61, 62, 63, 64, 65, 66] V V148 := agV.tr ajV148 (by decide) (by decide)
    have rgz143 : 0 ≤ z143.toInt ∧ z143.toInt ≤ 1 := rgz143
    have t146 : Rd gT gs (fun k => Istmt :: k) (fun k => Istmt :: k) z143.toInt (V148 1 3).toInt (fun s9 => RelC V148 L149 b gT s9 ∧ gs.1 0 + 1 ≤ s9.1 0) := t146
    have t147 : ROWL b L L149 := t147
    rcases t146 with ⟨q150, sx151, h152, rl153, kp154⟩ | ⟨q150, h152⟩
    · skip
      have hr155 : ∀ k, Rc gT (Crun gs (Istmt :: k)) (Crun sx151 (Istmt :: k)) := fun k => (hr142 k).tr (h152 k)
      have pq156 : (V148 1 2).toInt = ((V 1 2)).toInt := congrArg Int32.toInt (ajV148 1 2 rfl)
      have ps157 : gs.1 0 + 1 ≤ sx151.1 0 := kp154
      have rw158 : ROWL b L L149 := (fun k hk => ((t147 k hk).trans rfl))
      exact W.zret (v := z143) hx hb hr (nb_ok (by omega)) (fun t ht hW => ⟨⟨z143, (V148, L149), rfl, ⟨hMV148, agV148, alL149, (show 0 ≤ z143.toInt ∧ z143.toInt ≤ 1 from by omega), (Imp.mk (fun hp => have hp : z143.toInt = 1 := hp; (show (V148 1 2).toInt = -1 ∨ (24 * (b : Int) ≤ (V148 1 2).toInt ∧ (V148 1 2).toInt < 24 * (b : Int) + 24) from by omega))), (Or.inl ⟨(by omega), sx151, (fun k => show Rc gT (Crun gs (Istmt :: k)) (Crun sx151 (nxI (V148 1 2) k)) from by rw [nxI_s (show (V148 1 2).toInt < 0 from by omega)]; exact hr155 k), rl153, (by omega)⟩), rw158⟩, by rw [ht]; exact hP, va_K.moved hW.alike hK, hD⟩, hS.F ht⟩) hS.2.2 dX1_readStatement_75
    · skip
      have hb159 : ∀ k, Rc gT (Crun gs (Istmt :: k)) (Cbad (V148 1 3).toInt) := fun k => (hr142 k).tr (h152 k)
      have pq160 : (V148 1 2).toInt = ((V 1 2)).toInt := congrArg Int32.toInt (ajV148 1 2 rfl)
      have rw161 : ROWL b L L149 := (fun k hk => ((t147 k hk).trans rfl))
      exact W.zret (v := z143) hx hb hr (nb_ok (by omega)) (fun t ht hW => ⟨⟨z143, (V148, L149), rfl, ⟨hMV148, agV148, alL149, (show 0 ≤ z143.toInt ∧ z143.toInt ≤ 1 from by omega), (Imp.mk (fun hp => have hp : z143.toInt = 1 := hp; (show (V148 1 2).toInt = -1 ∨ (24 * (b : Int) ≤ (V148 1 2).toInt ∧ (V148 1 2).toInt < 24 * (b : Int) + 24) from by omega))), (Or.inr ⟨(by omega), hb159⟩), rw161⟩, by rw [ht]; exact hP, va_K.moved hW.alike hK, hD⟩, hS.F ht⟩) hS.2.2 dX1_readStatement_75
  have gq141 : ((V 6 9)).toInt ≠ 136 := b_neq rfl (by decide) q141
  refine lv_tableOut (x := (V 6 9)) (tgt := 76) hx hb dX1_readStatement_7 (by omega) (by decide) ?_
  refine lv_aload_n hx hb dX1_readStatement_76 rfl (lv_at hl 0 rfl) ?_
  refine lv_iconst (v := 1) hx hb dX1_readStatement_77 (by decide) ?_
  have kd162 : gT.1 (gs.1 0) = ((V 6 9)).toInt := RelC.kd rel
  have r163 : Int32.toInt 1 = 1 := by decide
  refine gA_int (gA_runV (As := [.int 1]) (rest := []) (ci := 1) (q0 := 1) hx hb hml hown hg hP hD hK hS hA hnw hgk (x_wrong2 l D ks H.size ad kk V L Z 1 hMV (by decide)) w867 w869 w6 w162 w870 rfl xgReader hdV_yX1_wrong ⟨Nat.le_of_ble_eq_true rfl, Nat.le_of_ble_eq_true rfl⟩ rfl hl.1 rfl (Nat.le_of_ble_eq_true rfl) dX1_readStatement_78 ⟨Nat.le_of_ble_eq_true rfl, Nat.le_of_ble_eq_true rfl⟩) hP hD hK hS hA (fun z164 u165 H locs w166 hP hD hK hS => ?_)
  obtain ⟨V169, L170⟩ := u165
  obtain ⟨hMV169, ajV169, axL170, rgz164, t167, t168⟩ := w166
  have axL170 : L = L170 := Eq.symm axL170
  subst axL170
  have hP : va_P D vwCl (xw ad kk V169 L Z) H := hP
  have hD : va_D A (xw ad kk V169 L Z) := hD
  have hMV169 : rgd bX V169 := hMV169
  have ajV169 : agr [(1, 3)] [] V V169 := ajV169
  have agV169 : agr [(1, 2), (1, 3), (1, 4), (1, 6), (1, 7), (1, 8), (6, 8), (6, 9), (6, 10)] [41, 42, 43, 44, 45, 46, 47, 48, 49, 50, 51, 52, 53, 54, 55, 56, 57, 61, 62, 63, 64, 65, 66] V V169 := agV.tr ajV169 (by decide) (by decide)
  have rgz164 : 0 ≤ z164.toInt ∧ z164.toInt ≤ 0 := rgz164
  have t167 : 1 ≤ (V169 1 3).toInt := t167
  have t168 : (V169 1 3).toInt = (Int32.toInt 1) + 16 * (V 6 10).toInt := t168
  have r171 : 0 ≤ ((V 6 10)).toInt ∧ ((V 6 10)).toInt ≤ 4000 := hMV 6 10
  have hr172 : ∀ k, Rc gT (Crun gs (Istmt :: k)) (Crun gs (Istmt :: k)) := fun k => Rc.rf
  have hb173 : ∀ k, Rc gT (Crun gs (Istmt :: k)) (Cbad (V169 1 3).toInt) := fun k => Rc.go1 (hr172 k) ((st_x (fun h9 => kn0 (kd162.symm.trans h9)) (fun h9 => gq3 (kd162.symm.trans h9)) (fun h9 => gq39 (kd162.symm.trans h9)) (fun h9 => gq60 (kd162.symm.trans h9)) (fun h9 => gq141 (kd162.symm.trans h9))).trans (fl_eq (RelC.st rel) (show (V169 1 3).toInt = 1 + 16 * (V 6 10).toInt from by omega)))
  have pq174 : (V169 1 2).toInt = ((V 1 2)).toInt := congrArg Int32.toInt (ajV169 1 2 rfl)
  have rw175 : ROWL b L L := (fun k hk => rfl)
  exact W.zret (v := z164) hx hb hr (nb_ok (by omega)) (fun t ht hW => ⟨⟨z164, (V169, L), rfl, ⟨hMV169, agV169, alL, (show 0 ≤ z164.toInt ∧ z164.toInt ≤ 1 from by omega), (Imp.mk (fun hp => have hp : z164.toInt = 1 := hp; (show (V169 1 2).toInt = -1 ∨ (24 * (b : Int) ≤ (V169 1 2).toInt ∧ (V169 1 2).toInt < 24 * (b : Int) + 24) from by omega))), (Or.inr ⟨(by omega), hb173⟩), rw175⟩, by rw [ht]; exact hP, va_K.moved hW.alike hK, hD⟩, hS.F ht⟩) hS.2.2 dX1_readStatement_81
abbrev r_x_bclear3 : Room := { frames := 0, cells := 0, slots := 0, locals := 0 }
abbrev q_x_bclear3 (D : va_G) (ks : KS) (ad : Nat → Nat) (kk : Nat → ClassId) (V : Vf) (L : Lf) (Z : XZ) (b : Nat) (A : Nat → Prop) : Array Value → State → Outcome → State → Prop := va_Qv (fun (u : Vf × Lf) => rgd bX u.1 ∧ agr [] [41, 42, 43] V u.1 ∧ u.2 = L ∧ ((u.1 42 b).toInt = 0) ∧ ((u.1 41 b).toInt = 0) ∧ ((u.1 43 (5 * b + 0)).toInt = 0) ∧ ((u.1 43 (5 * b + 1)).toInt = 0) ∧ ((u.1 43 (5 * b + 2)).toInt = 0) ∧ ((u.1 43 (5 * b + 3)).toInt = 0) ∧ ((u.1 43 (5 * b + 4)).toInt = 0)) (fun u t => gq D A (xw ad kk u.1 u.2 Z) (xty kk Z) t) A
set_option maxHeartbeats 4000000 in
set_option maxRecDepth 100000 in
theorem x_bclear3 (l : Launch) (D : va_G) (ks : KS) (sz : Nat) (ad : Nat → Nat) (kk : Nat → ClassId) (V : Vf) (L : Lf) (Z : XZ) (b : Nat) (hMV : rgd bX V) (hb2 : b < 2)  : Met l yX0_clear (Cond.code yX0_clear cX0_clear 1 none :: GW) r_x_bclear3 (va_Pc [.ref (ad (38 + b))] (gp D ks (xw ad kk V L Z) (xty kk Z) sz)) (q_x_bclear3 D ks ad kk V L Z  b (va_A (xw ad kk V L Z) sz)) 0 0 (va_A (xw ad kk V L Z) sz) := by
  refine g_met (q_x_bclear3 D ks ad kk V L Z  b) (by decide) (Nat.le_of_ble_eq_true rfl) ?_
  intro p e s m below meth c A ls H locs hx hb hr hml hown hg hlocks hin hnw hgk hP hK hD hS hA hl
  have hown : s.vm.findClass RX0 = some m.cls := hown
  have hl : lv_has ls 1 [(0, .ref (ad (38 + b)))] := hl
  have hP : va_P D vwCl (xw ad kk V L Z) H := hP
  have hD : va_D A (xw ad kk V L Z) := hD
  have hK : va_K D vwCl (xty kk Z) s := hK
  have agV : agr [] [41, 42, 43] V V := agr.rf
  refine lv_aload_n hx hb dX0_clear_0 rfl (lv_at hl 0 rfl) ?_
  refine va_get (D := D) (ci := 0) (v := .ref (ad (40 + (5 * b + 0)))) (fs := (xfBook ad V b)) (C := RX0) (T := TX0) (N := 13) hx hb hg inX0 hown hK hP (38 + b) (xgBook hb2) rfl 0 (by decide) (hg _ w593) (fun _ h9 => h9) rfl dX0_clear_1 ?_
  refine lv_iconst (v := 0) hx hb dX0_clear_4 (by decide) ?_
  have il1 : (5 * b + 0) < 10 := by omega
  refine va_putN (D := D) (ci := 6) (v := .int 0) (ty := tyX6 1) (fs := (xfNames ad V (5 * b + 0))) (C := RX6) (T := TX6) (N := 2) hx hb hg inX6 tyX6 tyX6_ok nmX6 hown hK hP hD hS (40 + (5 * b + 0)) (xgNames il1) rfl 1 (by decide) (hnw.use 481 n481 rfl) (fun _ h9 => h9) rfl (tyX6_ok 1 (by decide)) rfl rfl (Nat.le_of_ble_eq_true rfl) dX0_clear_5 (fun H locs hP hD hS => ?_)
  have r2 : xcap (5 * b + 0) = 24 := xcap_0
  obtain ⟨V3, hV3⟩ : ∃ z, z = up2 V 43 (5 * b + 0) 0 := ⟨_, rfl⟩
  have ew4 : (xw ad kk V L Z).set (40 + (5 * b + 0)) ((ad (40 + (5 * b + 0))), .inr (6, (xfNames ad V (5 * b + 0)).set 1 (.int 0))) = xw ad kk V3 L Z := by rw [hV3]; exact xpNames_size il1
  have hP : va_P D vwCl (xw ad kk V3 L Z) H := by rw [← ew4]; exact hP
  have hD : va_D A (xw ad kk V3 L Z) := by rw [← ew4]; exact hD
  have hMV3 : rgd bX V3 := hMV.put hV3 ⟨(show (0 : Int) ≤ Int32.toInt 0 from by decide), by show (Int32.toInt 0) ≤ ((xcap (5 * b + 0) : Nat) : Int); have h9 : Int32.toInt 0 = 0 := (by decide); omega⟩
  have agV3 : agr [] [41, 42, 43] V V3 := agV.up hV3 rfl
  refine lv_aload_n hx hb dX0_clear_8 rfl (lv_at hl 0 rfl) ?_
  refine va_get (D := D) (ci := 0) (v := .ref (ad (40 + (5 * b + 1)))) (fs := (xfBook ad V3 b)) (C := RX0) (T := TX0) (N := 13) hx hb hg inX0 hown hK hP (38 + b) (xgBook hb2) rfl 1 (by decide) (hg _ w596) (fun _ h9 => h9) rfl dX0_clear_9 ?_
  refine lv_iconst (v := 0) hx hb dX0_clear_12 (by decide) ?_
  have il5 : (5 * b + 1) < 10 := by omega
  refine va_putN (D := D) (ci := 6) (v := .int 0) (ty := tyX6 1) (fs := (xfNames ad V3 (5 * b + 1))) (C := RX6) (T := TX6) (N := 2) hx hb hg inX6 tyX6 tyX6_ok nmX6 hown hK hP hD hS (40 + (5 * b + 1)) (xgNames il5) rfl 1 (by decide) (hnw.use 481 n481 rfl) (fun _ h9 => h9) rfl (tyX6_ok 1 (by decide)) rfl rfl (Nat.le_of_ble_eq_true rfl) dX0_clear_13 (fun H locs hP hD hS => ?_)
  have r6 : xcap (5 * b + 1) = 12 := xcap_1
  obtain ⟨V7, hV7⟩ : ∃ z, z = up2 V3 43 (5 * b + 1) 0 := ⟨_, rfl⟩
  have ew8 : (xw ad kk V3 L Z).set (40 + (5 * b + 1)) ((ad (40 + (5 * b + 1))), .inr (6, (xfNames ad V3 (5 * b + 1)).set 1 (.int 0))) = xw ad kk V7 L Z := by rw [hV7]; exact xpNames_size il5
  have hP : va_P D vwCl (xw ad kk V7 L Z) H := by rw [← ew8]; exact hP
  have hD : va_D A (xw ad kk V7 L Z) := by rw [← ew8]; exact hD
  have hMV7 : rgd bX V7 := hMV3.put hV7 ⟨(show (0 : Int) ≤ Int32.toInt 0 from by decide), by show (Int32.toInt 0) ≤ ((xcap (5 * b + 1) : Nat) : Int); have h9 : Int32.toInt 0 = 0 := (by decide); omega⟩
  have agV7 : agr [] [41, 42, 43] V V7 := agV3.up hV7 rfl
  refine lv_aload_n hx hb dX0_clear_16 rfl (lv_at hl 0 rfl) ?_
  refine va_get (D := D) (ci := 0) (v := .ref (ad (40 + (5 * b + 2)))) (fs := (xfBook ad V7 b)) (C := RX0) (T := TX0) (N := 13) hx hb hg inX0 hown hK hP (38 + b) (xgBook hb2) rfl 2 (by decide) (hg _ w599) (fun _ h9 => h9) rfl dX0_clear_17 ?_
  refine lv_iconst (v := 0) hx hb dX0_clear_20 (by decide) ?_
  have il9 : (5 * b + 2) < 10 := by omega
  refine va_putN (D := D) (ci := 6) (v := .int 0) (ty := tyX6 1) (fs := (xfNames ad V7 (5 * b + 2))) (C := RX6) (T := TX6) (N := 2) hx hb hg inX6 tyX6 tyX6_ok nmX6 hown hK hP hD hS (40 + (5 * b + 2)) (xgNames il9) rfl 1 (by decide) (hnw.use 481 n481 rfl) (fun _ h9 => h9) rfl (tyX6_ok 1 (by decide)) rfl rfl (Nat.le_of_ble_eq_true rfl) dX0_clear_21 (fun H locs hP hD hS => ?_)
  have r10 : xcap (5 * b + 2) = 24 := xcap_2
  obtain ⟨V11, hV11⟩ : ∃ z, z = up2 V7 43 (5 * b + 2) 0 := ⟨_, rfl⟩
  have ew12 : (xw ad kk V7 L Z).set (40 + (5 * b + 2)) ((ad (40 + (5 * b + 2))), .inr (6, (xfNames ad V7 (5 * b + 2)).set 1 (.int 0))) = xw ad kk V11 L Z := by rw [hV11]; exact xpNames_size il9
  have hP : va_P D vwCl (xw ad kk V11 L Z) H := by rw [← ew12]; exact hP
  have hD : va_D A (xw ad kk V11 L Z) := by rw [← ew12]; exact hD
  have hMV11 : rgd bX V11 := hMV7.put hV11 ⟨(show (0 : Int) ≤ Int32.toInt 0 from by decide), by show (Int32.toInt 0) ≤ ((xcap (5 * b + 2) : Nat) : Int); have h9 : Int32.toInt 0 = 0 := (by decide); omega⟩
  have agV11 : agr [] [41, 42, 43] V V11 := agV7.up hV11 rfl
  refine lv_aload_n hx hb dX0_clear_24 rfl (lv_at hl 0 rfl) ?_
  refine va_get (D := D) (ci := 0) (v := .ref (ad (40 + (5 * b + 3)))) (fs := (xfBook ad V11 b)) (C := RX0) (T := TX0) (N := 13) hx hb hg inX0 hown hK hP (38 + b) (xgBook hb2) rfl 3 (by decide) (hg _ w603) (fun _ h9 => h9) rfl dX0_clear_25 ?_
  refine lv_iconst (v := 0) hx hb dX0_clear_28 (by decide) ?_
  have il13 : (5 * b + 3) < 10 := by omega
  refine va_putN (D := D) (ci := 6) (v := .int 0) (ty := tyX6 1) (fs := (xfNames ad V11 (5 * b + 3))) (C := RX6) (T := TX6) (N := 2) hx hb hg inX6 tyX6 tyX6_ok nmX6 hown hK hP hD hS (40 + (5 * b + 3)) (xgNames il13) rfl 1 (by decide) (hnw.use 481 n481 rfl) (fun _ h9 => h9) rfl (tyX6_ok 1 (by decide)) rfl rfl (Nat.le_of_ble_eq_true rfl) dX0_clear_29 (fun H locs hP hD hS => ?_)
  have r14 : xcap (5 * b + 3) = 20 := xcap_3
  obtain ⟨V15, hV15⟩ : ∃ z, z = up2 V11 43 (5 * b + 3) 0 := ⟨_, rfl⟩
  have ew16 : (xw ad kk V11 L Z).set (40 + (5 * b + 3)) ((ad (40 + (5 * b + 3))), .inr (6, (xfNames ad V11 (5 * b + 3)).set 1 (.int 0))) = xw ad kk V15 L Z := by rw [hV15]; exact xpNames_size il13
  have hP : va_P D vwCl (xw ad kk V15 L Z) H := by rw [← ew16]; exact hP
  have hD : va_D A (xw ad kk V15 L Z) := by rw [← ew16]; exact hD
  have hMV15 : rgd bX V15 := hMV11.put hV15 ⟨(show (0 : Int) ≤ Int32.toInt 0 from by decide), by show (Int32.toInt 0) ≤ ((xcap (5 * b + 3) : Nat) : Int); have h9 : Int32.toInt 0 = 0 := (by decide); omega⟩
  have agV15 : agr [] [41, 42, 43] V V15 := agV11.up hV15 rfl
  refine lv_aload_n hx hb dX0_clear_32 rfl (lv_at hl 0 rfl) ?_
  refine va_get (D := D) (ci := 0) (v := .ref (ad (40 + (5 * b + 4)))) (fs := (xfBook ad V15 b)) (C := RX0) (T := TX0) (N := 13) hx hb hg inX0 hown hK hP (38 + b) (xgBook hb2) rfl 4 (by decide) (hg _ w606) (fun _ h9 => h9) rfl dX0_clear_33 ?_
  refine lv_iconst (v := 0) hx hb dX0_clear_36 (by decide) ?_
  have il17 : (5 * b + 4) < 10 := by omega
  refine va_putN (D := D) (ci := 6) (v := .int 0) (ty := tyX6 1) (fs := (xfNames ad V15 (5 * b + 4))) (C := RX6) (T := TX6) (N := 2) hx hb hg inX6 tyX6 tyX6_ok nmX6 hown hK hP hD hS (40 + (5 * b + 4)) (xgNames il17) rfl 1 (by decide) (hnw.use 481 n481 rfl) (fun _ h9 => h9) rfl (tyX6_ok 1 (by decide)) rfl rfl (Nat.le_of_ble_eq_true rfl) dX0_clear_37 (fun H locs hP hD hS => ?_)
  have r18 : xcap (5 * b + 4) = 20 := xcap_4
  obtain ⟨V19, hV19⟩ : ∃ z, z = up2 V15 43 (5 * b + 4) 0 := ⟨_, rfl⟩
  have ew20 : (xw ad kk V15 L Z).set (40 + (5 * b + 4)) ((ad (40 + (5 * b + 4))), .inr (6, (xfNames ad V15 (5 * b + 4)).set 1 (.int 0))) = xw ad kk V19 L Z := by rw [hV19]; exact xpNames_size il17
  have hP : va_P D vwCl (xw ad kk V19 L Z) H := by rw [← ew20]; exact hP
  have hD : va_D A (xw ad kk V19 L Z) := by rw [← ew20]; exact hD
  have hMV19 : rgd bX V19 := hMV15.put hV19 ⟨(show (0 : Int) ≤ Int32.toInt 0 from by decide), by show (Int32.toInt 0) ≤ ((xcap (5 * b + 4) : Nat) : Int); have h9 : Int32.toInt 0 = 0 := (by decide); omega⟩
  have agV19 : agr [] [41, 42, 43] V V19 := agV15.up hV19 rfl
  refine lv_aload_n hx hb dX0_clear_40 rfl (lv_at hl 0 rfl) ?_
  refine lv_iconst (v := 0) hx hb dX0_clear_41 (by decide) ?_
  refine va_put (D := D) (ci := 0) (v := .int 0) (ty := tyX0 11) (fs := (xfBook ad V19 b)) (C := RX0) (T := TX0) (N := 13) hx hb hg inX0 tyX0 tyX0_ok nmX0 hown hK hP hD hS (38 + b) (xgBook hb2) rfl 11 (by decide) (hg _ w625) (fun _ h9 => h9) rfl (tyX0_ok 11 (by decide)) rfl rfl (Nat.le_of_ble_eq_true rfl) dX0_clear_42 (fun H locs hP hD hS => ?_)
  obtain ⟨V21, hV21⟩ : ∃ z, z = up2 V19 41 b 0 := ⟨_, rfl⟩
  have ew22 : (xw ad kk V19 L Z).set (38 + b) ((ad (38 + b)), .inr (0, (xfBook ad V19 b).set 11 (.int 0))) = xw ad kk V21 L Z := by rw [hV21]; exact xpBook_wrapCount hb2
  have hP : va_P D vwCl (xw ad kk V21 L Z) H := by rw [← ew22]; exact hP
  have hD : va_D A (xw ad kk V21 L Z) := by rw [← ew22]; exact hD
  have hMV21 : rgd bX V21 := hMV19.put hV21 (show 0 ≤ Int32.toInt 0 ∧ Int32.toInt 0 ≤ 12 from by decide)
  have agV21 : agr [] [41, 42, 43] V V21 := agV19.up hV21 rfl
  refine lv_aload_n hx hb dX0_clear_45 rfl (lv_at hl 0 rfl) ?_
  refine lv_iconst (v := 0) hx hb dX0_clear_46 (by decide) ?_
  refine va_put (D := D) (ci := 0) (v := .int 0) (ty := tyX0 12) (fs := (xfBook ad V21 b)) (C := RX0) (T := TX0) (N := 13) hx hb hg inX0 tyX0 tyX0_ok nmX0 hown hK hP hD hS (38 + b) (xgBook hb2) rfl 12 (by decide) (hg _ w629) (fun _ h9 => h9) rfl (tyX0_ok 12 (by decide)) rfl rfl (Nat.le_of_ble_eq_true rfl) dX0_clear_47 (fun H locs hP hD hS => ?_)
  obtain ⟨V23, hV23⟩ : ∃ z, z = up2 V21 42 b 0 := ⟨_, rfl⟩
  have ew24 : (xw ad kk V21 L Z).set (38 + b) ((ad (38 + b)), .inr (0, (xfBook ad V21 b).set 12 (.int 0))) = xw ad kk V23 L Z := by rw [hV23]; exact xpBook_codeLength hb2
  have hP : va_P D vwCl (xw ad kk V23 L Z) H := by rw [← ew24]; exact hP
  have hD : va_D A (xw ad kk V23 L Z) := by rw [← ew24]; exact hD
  have hMV23 : rgd bX V23 := hMV21.put hV23 (show 0 ≤ Int32.toInt 0 ∧ Int32.toInt 0 ≤ 8200 from by decide)
  have agV23 : agr [] [41, 42, 43] V V23 := agV21.up hV23 rfl
  have pq25 : (V23 42 b).toInt = 0 := (congrArg Int32.toInt (up2_s hV23)).trans (by decide)
  have pq26 : (V23 41 b).toInt = 0 := (congrArg Int32.toInt ((up2_o hV23 (by decide)).trans (up2_s hV21))).trans (by decide)
  have pq27 : (V23 43 (5 * b + 0)).toInt = 0 := (congrArg Int32.toInt ((up2_o hV23 (by decide)).trans ((up2_o hV21 (by decide)).trans ((up2_k hV19 (by omega)).trans ((up2_k hV15 (by omega)).trans ((up2_k hV11 (by omega)).trans ((up2_k hV7 (by omega)).trans (up2_s hV3)))))))).trans (by decide)
  have pq28 : (V23 43 (5 * b + 1)).toInt = 0 := (congrArg Int32.toInt ((up2_o hV23 (by decide)).trans ((up2_o hV21 (by decide)).trans ((up2_k hV19 (by omega)).trans ((up2_k hV15 (by omega)).trans ((up2_k hV11 (by omega)).trans (up2_s hV7))))))).trans (by decide)
  have pq29 : (V23 43 (5 * b + 2)).toInt = 0 := (congrArg Int32.toInt ((up2_o hV23 (by decide)).trans ((up2_o hV21 (by decide)).trans ((up2_k hV19 (by omega)).trans ((up2_k hV15 (by omega)).trans (up2_s hV11)))))).trans (by decide)
  have pq30 : (V23 43 (5 * b + 3)).toInt = 0 := (congrArg Int32.toInt ((up2_o hV23 (by decide)).trans ((up2_o hV21 (by decide)).trans ((up2_k hV19 (by omega)).trans (up2_s hV15))))).trans (by decide)
  have pq31 : (V23 43 (5 * b + 4)).toInt = 0 := (congrArg Int32.toInt ((up2_o hV23 (by decide)).trans ((up2_o hV21 (by decide)).trans (up2_s hV19)))).trans (by decide)
  exact W.vret hx hb hr (fun t ht hW => ⟨⟨(V23, L), rfl, ⟨hMV23, agV23, rfl, (show (V23 42 b).toInt = 0 from by omega), (show (V23 41 b).toInt = 0 from by omega), (show (V23 43 (5 * b + 0)).toInt = 0 from by omega), (show (V23 43 (5 * b + 1)).toInt = 0 from by omega), (show (V23 43 (5 * b + 2)).toInt = 0 from by omega), (show (V23 43 (5 * b + 3)).toInt = 0 from by omega), (show (V23 43 (5 * b + 4)).toInt = 0 from by omega)⟩, by rw [ht]; exact hP, va_K.moved hW.alike hK, hD⟩, hS.F ht⟩) hS.2.2 dX0_clear_50
abbrev r_x_read3 : Room := { frames := 93, cells := 0, slots := 0, locals := 2728 }
abbrev q_x_read3 (D : va_G) (ks : KS) (ad : Nat → Nat) (kk : Nat → ClassId) (V : Vf) (L : Lf) (Z : XZ) (b : Nat) (A : Nat → Prop) : Array Value → State → Outcome → State → Prop := va_Qi (fun (r : Int32) (u : Vf × Lf) => rgd bX u.1 ∧ agr [(1, 1), (1, 2), (1, 3), (1, 4), (1, 6), (1, 7), (1, 8), (6, 6), (6, 7), (6, 8), (6, 9), (6, 10)] [12, 13, 14, 41, 42, 43, 44, 45, 46, 47, 48, 49, 50, 51, 52, 53, 54, 55, 56, 57, 58, 59, 60, 61, 62, 63, 64, 65, 66] V u.1 ∧ agL [1, 6, 14, 44] L u.2 ∧ (CTx V L u.1 u.2) ∧ (BRES (tkOf u.1 u.2) r.toInt (fun s9 => TBc u.1 u.2 b s9)) ∧ (ROWL b L u.2)) (fun u t => gq D A (xw ad kk u.1 u.2 Z) (xty kk Z) t) A
set_option maxHeartbeats 4000000 in
set_option maxRecDepth 100000 in
theorem x_read3 (l : Launch) (D : va_G) (ks : KS) (sz : Nat) (ad : Nat → Nat) (kk : Nat → ClassId) (V : Vf) (L : Lf) (Z : XZ) (b : Nat) (hMV : rgd bX V) (hb2 : b < 2) (bp1 : ∀ k : Nat, (k : Int) < (V 6 5).toInt → isTp (V 10 k))  : Met l yX1_read (Cond.code yX1_read cX1_read 4 (some .int) :: GW) r_x_read3 (va_Pc [.ref (ad 1), .ref (ad (38 + b))] (gp D ks (xw ad kk V L Z) (xty kk Z) sz)) (q_x_read3 D ks ad kk V L Z  b (va_A (xw ad kk V L Z) sz)) 0 0 (va_A (xw ad kk V L Z) sz) := by
  refine g_met (q_x_read3 D ks ad kk V L Z  b) (by decide) (Nat.le_of_ble_eq_true rfl) ?_
  intro p e s m below meth c A ls H locs hx hb hr hml hown hg hlocks hin hnw hgk hP hK hD hS hA hl
  have hown : s.vm.findClass RX1 = some m.cls := hown
  have hl : lv_has ls 4 [(0, .ref (ad 1)), (1, .ref (ad (38 + b)))] := hl
  have hP : va_P D vwCl (xw ad kk V L Z) H := hP
  have hD : va_D A (xw ad kk V L Z) := hD
  have hK : va_K D vwCl (xty kk Z) s := hK
  have agV : agr [(1, 1), (1, 2), (1, 3), (1, 4), (1, 6), (1, 7), (1, 8), (6, 6), (6, 7), (6, 8), (6, 9), (6, 10)] [12, 13, 14, 41, 42, 43, 44, 45, 46, 47, 48, 49, 50, 51, 52, 53, 54, 55, 56, 57, 58, 59, 60, 61, 62, 63, 64, 65, 66] V V := agr.rf
  have alL : agL [1, 6, 14, 44] L L := agL.rf
  refine lv_aload_n hx hb dX1_read_0 rfl (lv_at hl 0 rfl) ?_
  refine lv_aload_n hx hb dX1_read_1 rfl (lv_at hl 1 rfl) ?_
  refine va_put (D := D) (ci := 1) (v := .ref (ad (38 + b))) (ty := tyX1 1) (fs := (xfReader ad V L Z)) (C := RX1) (T := TX1) (N := 9) hx hb hg inX1 tyX1 tyX1_ok nmX1 hown hK hP hD hS 1 xgReader rfl 1 (by decide) (hg _ w305) (fun _ h9 => h9) rfl (tyX1_ok 1 (by decide)) rfl rfl (Nat.le_of_ble_eq_true rfl) dX1_read_2 (fun H locs hP hD hS => ?_)
  have r1 : (nI b).toInt = ((b : Nat) : Int) := nI_toInt (by omega)
  obtain ⟨V2, hV2⟩ : ∃ z, z = up2 V 1 1 (nI b) := ⟨_, rfl⟩
  have ew3 : (xw ad kk V L Z).set 1 ((ad 1), .inr (1, (xfReader ad V L Z).set 1 (.ref (ad (38 + b))))) = xw ad kk V2 L Z := by rw [hV2]; exact xr_rbook hb2
  have hP : va_P D vwCl (xw ad kk V2 L Z) H := by rw [← ew3]; exact hP
  have hD : va_D A (xw ad kk V2 L Z) := by rw [← ew3]; exact hD
  have hMV2 : rgd bX V2 := hMV.put hV2 (show (-1) ≤ ((nI b)).toInt ∧ ((nI b)).toInt ≤ 1 from by omega)
  have agV2 : agr [(1, 1), (1, 2), (1, 3), (1, 4), (1, 6), (1, 7), (1, 8), (6, 6), (6, 7), (6, 8), (6, 9), (6, 10)] [12, 13, 14, 41, 42, 43, 44, 45, 46, 47, 48, 49, 50, 51, 52, 53, 54, 55, 56, 57, 58, 59, 60, 61, 62, 63, 64, 65, 66] V V2 := agV.up hV2 rfl
  refine lv_aload_n hx hb dX1_read_5 rfl (lv_at hl 0 rfl) ?_
  refine va_get (D := D) (ci := 1) (v := rfN ad 38 (V2 1 1)) (fs := (xfReader ad V2 L Z)) (C := RX1) (T := TX1) (N := 9) hx hb hg inX1 hown hK hP 1 xgReader rfl 1 (by decide) (hg _ w305) (fun _ h9 => h9) rfl dX1_read_6 ?_
  have pq4 : (V2 1 1).toInt = ((nI b)).toInt := congrArg Int32.toInt (up2_s hV2)
  refine g_topv (v := .ref (ad (38 + b))) (rfN_r (by omega)) ?_
  refine gA_void (gA_runV (As := []) (rest := []) (ci := 0) (q0 := (38 + b)) hx hb hml hown hg hP hD hK hS hA hnw hgk (x_bclear3 l D ks H.size ad kk V2 L Z (b) hMV2 (show b < 2 from by omega)) w762 w763 w764 w167 w765 rfl (xgBook hb2) hdV_yX0_clear ⟨Nat.le_of_ble_eq_true rfl, Nat.le_of_ble_eq_true rfl⟩ rfl hl.1 rfl (Nat.le_of_ble_eq_true rfl) dX1_read_9 ⟨Nat.le_of_ble_eq_true rfl, Nat.le_of_ble_eq_true rfl⟩) hP hD hK hS hA (fun u6 H locs w7 hP hD hK hS => ?_)
  obtain ⟨V15, L16⟩ := u6
  obtain ⟨hMV15, ajV15, axL16, t8, t9, t10, t11, t12, t13, t14⟩ := w7
  have axL16 : L = L16 := Eq.symm axL16
  subst axL16
  have hP : va_P D vwCl (xw ad kk V15 L Z) H := hP
  have hD : va_D A (xw ad kk V15 L Z) := hD
  have hMV15 : rgd bX V15 := hMV15
  have ajV15 : agr [] [41, 42, 43] V2 V15 := ajV15
  have agV15 : agr [(1, 1), (1, 2), (1, 3), (1, 4), (1, 6), (1, 7), (1, 8), (6, 6), (6, 7), (6, 8), (6, 9), (6, 10)] [12, 13, 14, 41, 42, 43, 44, 45, 46, 47, 48, 49, 50, 51, 52, 53, 54, 55, 56, 57, 58, 59, 60, 61, 62, 63, 64, 65, 66] V V15 := agV2.tr ajV15 (by decide) (by decide)
  have t8 : (V15 42 b).toInt = 0 := t8
  have t9 : (V15 41 b).toInt = 0 := t9
  have t10 : (V15 43 (5 * b + 0)).toInt = 0 := t10
  have t11 : (V15 43 (5 * b + 1)).toInt = 0 := t11
  have t12 : (V15 43 (5 * b + 2)).toInt = 0 := t12
  have t13 : (V15 43 (5 * b + 3)).toInt = 0 := t13
  have t14 : (V15 43 (5 * b + 4)).toInt = 0 := t14
  refine lv_aload_n hx hb dX1_read_12 rfl (lv_at hl 0 rfl) ?_
  refine lv_null hx hb dX1_read_13 ?_
  refine va_put (D := D) (ci := 1) (v := .null) (ty := tyX1 2) (fs := (xfReader ad V15 L Z)) (C := RX1) (T := TX1) (N := 9) hx hb hg inX1 tyX1 tyX1_ok nmX1 hown hK hP hD hS 1 xgReader rfl 2 (by decide) (hg _ w306) (fun _ h9 => h9) rfl (tyX1_ok 2 (by decide)) rfl rfl (Nat.le_of_ble_eq_true rfl) dX1_read_14 (fun H locs hP hD hS => ?_)
  obtain ⟨V17, hV17⟩ : ∃ z, z = up2 V15 1 2 (-1) := ⟨_, rfl⟩
  have ew18 : (xw ad kk V15 L Z).set 1 ((ad 1), .inr (1, (xfReader ad V15 L Z).set 2 (.null))) = xw ad kk V17 L Z := by rw [hV17]; exact xr_owner_n
  have hP : va_P D vwCl (xw ad kk V17 L Z) H := by rw [← ew18]; exact hP
  have hD : va_D A (xw ad kk V17 L Z) := by rw [← ew18]; exact hD
  have hMV17 : rgd bX V17 := hMV15.put hV17 (by decide)
  have agV17 : agr [(1, 1), (1, 2), (1, 3), (1, 4), (1, 6), (1, 7), (1, 8), (6, 6), (6, 7), (6, 8), (6, 9), (6, 10)] [12, 13, 14, 41, 42, 43, 44, 45, 46, 47, 48, 49, 50, 51, 52, 53, 54, 55, 56, 57, 58, 59, 60, 61, 62, 63, 64, 65, 66] V V17 := agV15.up hV17 rfl
  refine lv_aload_n hx hb dX1_read_17 rfl (lv_at hl 0 rfl) ?_
  refine lv_iconst (v := 0) hx hb dX1_read_18 (by decide) ?_
  refine va_put (D := D) (ci := 1) (v := .int 0) (ty := tyX1 3) (fs := (xfReader ad V17 L Z)) (C := RX1) (T := TX1) (N := 9) hx hb hg inX1 tyX1 tyX1_ok nmX1 hown hK hP hD hS 1 xgReader rfl 3 (by decide) (hg _ w307) (fun _ h9 => h9) rfl (tyX1_ok 3 (by decide)) rfl rfl (Nat.le_of_ble_eq_true rfl) dX1_read_19 (fun H locs hP hD hS => ?_)
  obtain ⟨V19, hV19⟩ : ∃ z, z = up2 V17 1 3 0 := ⟨_, rfl⟩
  have ew20 : (xw ad kk V17 L Z).set 1 ((ad 1), .inr (1, (xfReader ad V17 L Z).set 3 (.int 0))) = xw ad kk V19 L Z := by rw [hV19]; exact xw_ss (by decide) rfl (xb_si (by decide))
  have hP : va_P D vwCl (xw ad kk V19 L Z) H := by rw [← ew20]; exact hP
  have hD : va_D A (xw ad kk V19 L Z) := by rw [← ew20]; exact hD
  have hMV19 : rgd bX V19 := hMV17.put hV19 (i_full _)
  have agV19 : agr [(1, 1), (1, 2), (1, 3), (1, 4), (1, 6), (1, 7), (1, 8), (6, 6), (6, 7), (6, 8), (6, 9), (6, 10)] [12, 13, 14, 41, 42, 43, 44, 45, 46, 47, 48, 49, 50, 51, 52, 53, 54, 55, 56, 57, 58, 59, 60, 61, 62, 63, 64, 65, 66] V V19 := agV17.up hV19 rfl
  refine lv_aload_n hx hb dX1_read_22 rfl (lv_at hl 0 rfl) ?_
  refine va_get (D := D) (ci := 1) (v := .ref (ad 6)) (fs := (xfReader ad V19 L Z)) (C := RX1) (T := TX1) (N := 9) hx hb hg inX1 hown hK hP 1 xgReader rfl 0 (by decide) (hg _ w304) (fun _ h9 => h9) rfl dX1_read_23 ?_
  refine gA_void (gA_runV (As := []) (rest := []) (ci := 9) (q0 := 6) hx hb hml hown hg hP hD hK hS hA hnw hgk (x_begin2 l D ks H.size ad kk V19 L Z  hMV19 (by rw [show V19 6 5 = V 6 5 from ((up2_o hV19 (by decide)).trans ((up2_o hV17 (by decide)).trans ((ajV15 6 5 rfl).trans (up2_o hV2 (by decide))))), (by rw [(up2_fo hV19 (by decide) : V19 10 = V17 10), (up2_fo hV17 (by decide) : V17 10 = V15 10), (funext (fun q => ajV15 10 q rfl) : V15 10 = V2 10), (up2_fo hV2 (by decide) : V2 10 = V 10)] : V19 10 = V 10)]; exact bp1)) w766 w767 w768 w157 w769 rfl xgTape hdV_yX9_begin ⟨Nat.le_of_ble_eq_true rfl, Nat.le_of_ble_eq_true rfl⟩ rfl hl.1 rfl (Nat.le_of_ble_eq_true rfl) dX1_read_26 ⟨Nat.le_of_ble_eq_true rfl, Nat.le_of_ble_eq_true rfl⟩) hP hD hK hS hA (fun u22 H locs w23 hP hD hK hS => ?_)
  obtain ⟨V26, L27⟩ := u22
  obtain ⟨hMV26, ajV26, axL27, t24, t25⟩ := w23
  have alL27 : agL [1, 6, 14, 44] L L27 := agL.tr alL axL27 (by decide)
  have hP : va_P D vwCl (xw ad kk V26 L27 Z) H := hP
  have hD : va_D A (xw ad kk V26 L27 Z) := hD
  have hMV26 : rgd bX V26 := hMV26
  have ajV26 : agr [(6, 6), (6, 7), (6, 8), (6, 9), (6, 10)] [12, 13, 14] V19 V26 := ajV26
  have agV26 : agr [(1, 1), (1, 2), (1, 3), (1, 4), (1, 6), (1, 7), (1, 8), (6, 6), (6, 7), (6, 8), (6, 9), (6, 10)] [12, 13, 14, 41, 42, 43, 44, 45, 46, 47, 48, 49, 50, 51, 52, 53, 54, 55, 56, 57, 58, 59, 60, 61, 62, 63, 64, 65, 66] V V26 := agV19.tr ajV26 (by decide) (by decide)
  have t24 : (V26 6 8).toInt ≤ (V26 6 7).toInt := t24
  have t25 : CTE V19 L V26 L27 := t25
  have r28 : 0 ≤ ((V26 6 8)).toInt ∧ ((V26 6 8)).toInt ≤ 4000 := hMV26 6 8
  have r29 : 0 ≤ ((V26 6 7)).toInt ∧ ((V26 6 7)).toInt ≤ 4000 := hMV26 6 7
  obtain ⟨gT, hgT⟩ : ∃ T, T = tkOf V26 L27 := ⟨_, rfl⟩
  obtain ⟨gs, hgs⟩ : ∃ q9, q9 = St0 := ⟨_, rfl⟩
  have pq30 : (V26 43 (5 * b + 0)).toInt = ((V15 43 (5 * b + 0))).toInt := congrArg Int32.toInt ((ajV26 43 (5 * b + 0) rfl).trans ((up2_o hV19 (by decide)).trans (up2_o hV17 (by decide))))
  have r31 : 0 ≤ ((V15 43 (5 * b + 0))).toInt ∧ ((V15 43 (5 * b + 0))).toInt ≤ ((xcap (5 * b + 0) : Nat) : Int) := hMV15 43 (5 * b + 0)
  have r32 : xcap (5 * b + 0) = 24 := xcap_0
  have pq33 : (V26 43 (5 * b + 1)).toInt = ((V15 43 (5 * b + 1))).toInt := congrArg Int32.toInt ((ajV26 43 (5 * b + 1) rfl).trans ((up2_o hV19 (by decide)).trans (up2_o hV17 (by decide))))
  have r34 : 0 ≤ ((V15 43 (5 * b + 1))).toInt ∧ ((V15 43 (5 * b + 1))).toInt ≤ ((xcap (5 * b + 1) : Nat) : Int) := hMV15 43 (5 * b + 1)
  have r35 : xcap (5 * b + 1) = 12 := xcap_1
  have pq36 : (V26 43 (5 * b + 2)).toInt = ((V15 43 (5 * b + 2))).toInt := congrArg Int32.toInt ((ajV26 43 (5 * b + 2) rfl).trans ((up2_o hV19 (by decide)).trans (up2_o hV17 (by decide))))
  have r37 : 0 ≤ ((V15 43 (5 * b + 2))).toInt ∧ ((V15 43 (5 * b + 2))).toInt ≤ ((xcap (5 * b + 2) : Nat) : Int) := hMV15 43 (5 * b + 2)
  have r38 : xcap (5 * b + 2) = 24 := xcap_2
  have pq39 : (V26 43 (5 * b + 3)).toInt = ((V15 43 (5 * b + 3))).toInt := congrArg Int32.toInt ((ajV26 43 (5 * b + 3) rfl).trans ((up2_o hV19 (by decide)).trans (up2_o hV17 (by decide))))
  have r40 : 0 ≤ ((V15 43 (5 * b + 3))).toInt ∧ ((V15 43 (5 * b + 3))).toInt ≤ ((xcap (5 * b + 3) : Nat) : Int) := hMV15 43 (5 * b + 3)
  have r41 : xcap (5 * b + 3) = 20 := xcap_3
  have pq42 : (V26 43 (5 * b + 4)).toInt = ((V15 43 (5 * b + 4))).toInt := congrArg Int32.toInt ((ajV26 43 (5 * b + 4) rfl).trans ((up2_o hV19 (by decide)).trans (up2_o hV17 (by decide))))
  have r43 : 0 ≤ ((V15 43 (5 * b + 4))).toInt ∧ ((V15 43 (5 * b + 4))).toInt ≤ ((xcap (5 * b + 4) : Nat) : Int) := hMV15 43 (5 * b + 4)
  have r44 : xcap (5 * b + 4) = 20 := xcap_4
  have pq45 : (V26 41 b).toInt = ((V15 41 b)).toInt := congrArg Int32.toInt ((ajV26 41 b rfl).trans ((up2_o hV19 (by decide)).trans (up2_o hV17 (by decide))))
  have r46 : 0 ≤ ((V15 41 b)).toInt ∧ ((V15 41 b)).toInt ≤ 12 := hMV15 41 b
  have pq47 : (V26 1 2).toInt = (-1) := (congrArg Int32.toInt ((ajV26 1 2 rfl).trans ((up2_k hV19 (by decide)).trans (up2_s hV17)))).trans (by decide)
  have pq48 : (V26 1 3).toInt = 0 := (congrArg Int32.toInt ((ajV26 1 3 rfl).trans (up2_s hV19))).trans (by decide)
  have rl0 : RelC V26 L27 b gT gs := by rw [hgT, hgs]; exact RelC.z t25.2.2.2.2 t25.2.2.1 (by omega) (by rw [(show agr [(1, 2), (1, 3), (6, 6), (6, 7), (6, 8), (6, 9), (6, 10)] [12, 13, 14] V15 V26 from (agr.tr (agr.up (agr.up agr.rf hV17 rfl) hV19 rfl) ajV26 (by decide) (by decide))) 43 _ rfl]; exact t10) (by rw [(show agr [(1, 2), (1, 3), (6, 6), (6, 7), (6, 8), (6, 9), (6, 10)] [12, 13, 14] V15 V26 from (agr.tr (agr.up (agr.up agr.rf hV17 rfl) hV19 rfl) ajV26 (by decide) (by decide))) 43 _ rfl]; exact t11) (by rw [(show agr [(1, 2), (1, 3), (6, 6), (6, 7), (6, 8), (6, 9), (6, 10)] [12, 13, 14] V15 V26 from (agr.tr (agr.up (agr.up agr.rf hV17 rfl) hV19 rfl) ajV26 (by decide) (by decide))) 43 _ rfl]; exact t12) (by rw [(show agr [(1, 2), (1, 3), (6, 6), (6, 7), (6, 8), (6, 9), (6, 10)] [12, 13, 14] V15 V26 from (agr.tr (agr.up (agr.up agr.rf hV17 rfl) hV19 rfl) ajV26 (by decide) (by decide))) 43 _ rfl]; exact t13) (by rw [(show agr [(1, 2), (1, 3), (6, 6), (6, 7), (6, 8), (6, 9), (6, 10)] [12, 13, 14] V15 V26 from (agr.tr (agr.up (agr.up agr.rf hV17 rfl) hV19 rfl) ajV26 (by decide) (by decide))) 43 _ rfl]; exact t14) (by rw [(show agr [(1, 2), (1, 3), (6, 6), (6, 7), (6, 8), (6, 9), (6, 10)] [12, 13, 14] V15 V26 from (agr.tr (agr.up (agr.up agr.rf hV17 rfl) hV19 rfl) ajV26 (by decide) (by decide))) 41 _ rfl]; exact t9) (by omega)
  have cx0 : CTx V L V26 L27 := CTE.x t25 (Eq.symm (by rw [(up2_fo hV19 (by decide) : V19 10 = V17 10), (up2_fo hV17 (by decide) : V17 10 = V15 10), (funext (fun q => ajV15 10 q rfl) : V15 10 = V2 10), (up2_fo hV2 (by decide) : V2 10 = V 10)] : V19 10 = V 10)) (show V 6 5 = V19 6 5 from (((up2_o hV19 (by decide)).trans ((up2_o hV17 (by decide)).trans ((ajV15 6 5 rfl).trans (up2_o hV2 (by decide)))))).symm) rfl
  refine lv_iconst (v := 0) hx hb dX1_read_29 (by decide) ?_
  refine lv_istore_n (lv' := [(2, .int 0), (0, .ref (ad 1)), (1, .ref (ad (38 + b)))]) hx hb dX1_read_30 rfl hl (by decide) rfl (fun ls hl => ?_)
  have lp52 : ∀ (fulp52 : Nat) (y49 : Int32) (V50 : Vf) (L51 : Lf) (H : Heap) (locs : List Loc) (ls : Array Slot), 0 ≤ y49.toInt ∧ y49.toInt ≤ 4000 → (∃ s1 : St, (∀ k, Rc gT (Crun gs (Istmt :: k)) (Crun s1 (nxI (V50 1 2) k))) ∧ RelC V50 L51 b gT s1 ∧ CTx V L V50 L51 ∧ y49.toInt ≤ ((s1.1 0 : Nat) : Int)) → ((V50 1 2).toInt = -1 ∨ (24 * (b : Int) ≤ (V50 1 2).toInt ∧ (V50 1 2).toInt < 24 * (b : Int) + 24)) → (V50 1 1).toInt = (b : Int) → (ROWL b L L51) → 4000 - y49.toInt < (fulp52 : Int) → agL [1, 6, 14, 44] L L51 → agr [(1, 2), (1, 3), (1, 4), (1, 6), (1, 7), (1, 8), (6, 8), (6, 9), (6, 10)] [41, 42, 43, 44, 45, 46, 47, 48, 49, 50, 51, 52, 53, 54, 55, 56, 57, 58, 59, 60, 61, 62, 63, 64, 65, 66] V26 V50 → rgd bX V50 → va_P D vwCl (xw ad kk V50 L51 Z) H → va_D A (xw ad kk V50 L51 Z) → va_S A s.heap H locs → lv_has ls 4 [(2, .int y49), (0, .ref (ad 1)), (1, .ref (ad (38 + b)))] → W p l e r_x_read3 s m ([.ref (ad 1), .ref (ad (38 + b))] : List Value).toArray below meth c H locs 0 0 (MQ below (q_x_read3 D ks ad kk V L Z  b A) ([.ref (ad 1), .ref (ad (38 + b))] : List Value).toArray s 0 0 A) (F0 m 31 ls []) := by
    intro fulp52
    induction fulp52 with
    | zero =>
      intro y49 V50 L51 H locs ls klp52_0 xlp52_0 xlp52_1 xlp52_2 xlp52_3 hn alL51 ajV50 hMV50 hP hD hS hl
      exfalso; omega
    | succ fulp52 ihlp52 =>
      intro y49 V50 L51 H locs ls klp52_0 xlp52_0 xlp52_1 xlp52_2 xlp52_3 hn alL51 ajV50 hMV50 hP hD hS hl
      have agV50 : agr [(1, 1), (1, 2), (1, 3), (1, 4), (1, 6), (1, 7), (1, 8), (6, 6), (6, 7), (6, 8), (6, 9), (6, 10)] [12, 13, 14, 41, 42, 43, 44, 45, 46, 47, 48, 49, 50, 51, 52, 53, 54, 55, 56, 57, 58, 59, 60, 61, 62, 63, 64, 65, 66] V V50 := agV26.tr ajV50 (by decide) (by decide)
      have pq53 : (V50 1 1).toInt = ((nI b)).toInt := congrArg Int32.toInt ((ajV50 1 1 rfl).trans ((ajV26 1 1 rfl).trans ((up2_k hV19 (by decide)).trans ((up2_k hV17 (by decide)).trans ((ajV15 1 1 rfl).trans (up2_s hV2))))))
      refine lv_iload_n hx hb dX1_read_31 rfl (lv_at hl 0 rfl) ?_
      obtain ⟨s1, hq, rq, cq, iq⟩ := xlp52_0
      refine lv_sipush (v := 4000) hx hb dX1_read_32 (by decide) ?_
      refine lv_icmp_ge (tgt := 82) hx hb dX1_read_35 (by decide) (fun c54 => ?_) (fun c54 => ?_)
      · skip
        have f55 : 4000 ≤ y49.toInt := b_le (by decide) rfl c54
        have kd56 : gT.1 (s1.1 0) = ((V50 6 9)).toInt := RelC.kd rq
        have kz57 : gT.1 (s1.1 0) = 0 := RelC.e4 rq (show 0 ≤ (V50 6 7).toInt ∧ (V50 6 7).toInt ≤ 4000 from hMV50 6 7).2 (by omega)
        by_cases hon : (V50 1 2).toInt < 0
        · skip
          have ow1 : (V50 1 2).toInt = -1 := by omega
          refine lv_aload_n hx hb dX1_read_82 rfl (lv_at hl 1 rfl) ?_
          refine va_get (D := D) (ci := 1) (v := rfN ad 72 (V50 1 2)) (fs := (xfReader ad V50 L51 Z)) (C := RX1) (T := TX1) (N := 9) hx hb hg inX1 hown hK hP 1 xgReader rfl 2 (by decide) (hg _ w306) (fun _ h9 => h9) rfl dX1_read_83 ?_
          have r58 : (-1) ≤ ((V50 1 2)).toInt ∧ ((V50 1 2)).toInt ≤ 47 := hMV50 1 2
          refine g_topv (v := .null) (rfN_n (by omega)) ?_
          refine lv_ifnullN (tgt := 95) hx hb dX1_read_86 (by decide) ?_
          refine lv_aload_n hx hb dX1_read_95 rfl (lv_at hl 1 rfl) ?_
          refine va_get (D := D) (ci := 1) (v := .int (V50 1 3)) (fs := (xfReader ad V50 L51 Z)) (C := RX1) (T := TX1) (N := 9) hx hb hg inX1 hown hK hP 1 xgReader rfl 3 (by decide) (hg _ w307) (fun _ h9 => h9) rfl dX1_read_96 ?_
          have f0 := rq.2.1.2.2.2.2
          have rw59 : ROWL b L L51 := (fun k hk => (xlp52_3 k hk))
          exact W.iret (v := (V50 1 3)) hx hb hr (fun t ht hW => ⟨⟨(V50 1 3), (V50, L51), rfl, ⟨hMV50, agV50, alL51, cq, (by rw [← rq.tk]; unfold BRES; rw [← hgs]; exact Or.inl ⟨by omega, s1, (by have h9 := hq []; rw [nxI_s (show (V50 1 2).toInt < 0 from by omega)] at h9; exact h9.go1 (st_0 kz57)), rq.2.2.1⟩), rw59⟩, by rw [ht]; exact hP, va_K.moved hW.alike hK, hD⟩, hS.F ht⟩) hS.2.2 dX1_read_99
        · skip
          have ko := i_clamp (x := V50 1 2) rfl (by omega)
          refine lv_aload_n hx hb dX1_read_82 rfl (lv_at hl 1 rfl) ?_
          refine va_get (D := D) (ci := 1) (v := rfN ad 72 (V50 1 2)) (fs := (xfReader ad V50 L51 Z)) (C := RX1) (T := TX1) (N := 9) hx hb hg inX1 hown hK hP 1 xgReader rfl 2 (by decide) (hg _ w306) (fun _ h9 => h9) rfl dX1_read_83 ?_
          have r60 : (-1) ≤ ((V50 1 2)).toInt ∧ ((V50 1 2)).toInt ≤ 47 := hMV50 1 2
          refine g_topv (v := .ref (ad (72 + (Int32.toNatClampNeg (V50 1 2))))) (rfN_r (by omega)) ?_
          refine lv_ifnull hx hb dX1_read_86 ?_
          refine lv_aload_n hx hb dX1_read_89 rfl (lv_at hl 1 rfl) ?_
          refine lv_iconst (v := 1) hx hb dX1_read_90 (by decide) ?_
          have r61 : Int32.toInt 1 = 1 := by decide
          refine gA_int (gA_runV (As := [.int 1]) (rest := []) (ci := 1) (q0 := 1) hx hb hml hown hg hP hD hK hS hA hnw hgk (x_wrong2 l D ks H.size ad kk V50 L51 Z 1 hMV50 (by decide)) w867 w869 w6 w162 w870 rfl xgReader hdV_yX1_wrong ⟨Nat.le_of_ble_eq_true rfl, Nat.le_of_ble_eq_true rfl⟩ rfl hl.1 rfl (Nat.le_of_ble_eq_true rfl) dX1_read_91 ⟨Nat.le_of_ble_eq_true rfl, Nat.le_of_ble_eq_true rfl⟩) hP hD hK hS hA (fun z62 u63 H locs w64 hP hD hK hS => ?_)
          obtain ⟨V67, L68⟩ := u63
          obtain ⟨hMV67, ajV67, axL68, rgz62, t65, t66⟩ := w64
          have axL68 : L51 = L68 := Eq.symm axL68
          subst axL68
          have hP : va_P D vwCl (xw ad kk V67 L51 Z) H := hP
          have hD : va_D A (xw ad kk V67 L51 Z) := hD
          have hMV67 : rgd bX V67 := hMV67
          have ajV67 : agr [(1, 3)] [] V50 V67 := ajV67
          have agV67 : agr [(1, 1), (1, 2), (1, 3), (1, 4), (1, 6), (1, 7), (1, 8), (6, 6), (6, 7), (6, 8), (6, 9), (6, 10)] [12, 13, 14, 41, 42, 43, 44, 45, 46, 47, 48, 49, 50, 51, 52, 53, 54, 55, 56, 57, 58, 59, 60, 61, 62, 63, 64, 65, 66] V V67 := agV50.tr ajV67 (by decide) (by decide)
          have rgz62 : 0 ≤ z62.toInt ∧ z62.toInt ≤ 0 := rgz62
          have t65 : 1 ≤ (V67 1 3).toInt := t65
          have t66 : (V67 1 3).toInt = (Int32.toInt 1) + 16 * (V50 6 10).toInt := t66
          have r69 : 0 ≤ ((V50 6 10)).toInt ∧ ((V50 6 10)).toInt ≤ 4000 := hMV50 6 10
          refine lv_pop hx hb dX1_read_94 rfl ?_
          refine lv_aload_n hx hb dX1_read_95 rfl (lv_at hl 1 rfl) ?_
          refine va_get (D := D) (ci := 1) (v := .int (V67 1 3)) (fs := (xfReader ad V67 L51 Z)) (C := RX1) (T := TX1) (N := 9) hx hb hg inX1 hown hK hP 1 xgReader rfl 3 (by decide) (hg _ w307) (fun _ h9 => h9) rfl dX1_read_96 ?_
          have cx70 : CTx V L V67 L51 := CTx.ag cq (ajV67 6 7 rfl) (ajV67 6 6 rfl) (funext fun q9 => ajV67 12 q9 rfl) (funext fun q9 => ajV67 13 q9 rfl) rfl
          have hb71 : Rc gT (Crun gs [Istmt]) (Cbad (V67 1 3).toInt) := (by have h9 := hq []; rw [nxI_m (show 0 ≤ (V50 1 2).toInt from by omega)] at h9; exact h9.go1 ((mb_x (fun h8 => absurd (h8.symm.trans kz57) (by decide)) (fun h8 => absurd (h8.symm.trans kz57) (by decide)) (fun h8 => absurd (h8.symm.trans kz57) (by decide)) (fun h8 => absurd (h8.symm.trans kz57) (by decide)) (fun h8 => absurd (h8.symm.trans kz57) (by decide))).trans (fl_eq (RelC.st rq) (show (V67 1 3).toInt = 1 + 16 * (V50 6 10).toInt from by omega))))
          have rw72 : ROWL b L L51 := (fun k hk => (xlp52_3 k hk))
          exact W.iret (v := (V67 1 3)) hx hb hr (fun t ht hW => ⟨⟨(V67 1 3), (V67, L51), rfl, ⟨hMV67, agV67, alL51, cx70, (by have e1 : tkOf V67 L51 = gT := (by rw [rq.tk]; unfold tkOf; rw [(by rw [(funext (fun q => ajV67 12 q rfl) : V67 12 = V50 12)] : V67 12 = V50 12), (by rw [(funext (fun q => ajV67 13 q rfl) : V67 13 = V50 13)] : V67 13 = V50 13), (rfl : L51 14 = L51 14)]); rw [e1]; unfold BRES; rw [← hgs]; exact Or.inr hb71), rw72⟩, by rw [ht]; exact hP, va_K.moved hW.alike hK, hD⟩, hS.F ht⟩) hS.2.2 dX1_read_99
      · skip
        have f73 : y49.toInt < 4000 := b_nle (by decide) rfl c54
        refine lv_aload_n hx hb dX1_read_38 rfl (lv_at hl 1 rfl) ?_
        refine va_get (D := D) (ci := 1) (v := .ref (ad 6)) (fs := (xfReader ad V50 L51 Z)) (C := RX1) (T := TX1) (N := 9) hx hb hg inX1 hown hK hP 1 xgReader rfl 0 (by decide) (hg _ w304) (fun _ h9 => h9) rfl dX1_read_39 ?_
        refine va_getN (D := D) (ci := 9) (v := .int (V50 6 9)) (fs := (xfTape ad V50 L51 Z)) (C := RX9) (T := TX9) (N := 12) hx hb hg inX9 hown hK hP 6 xgTape rfl 9 (by decide) (hnw.use 262 n262 rfl) (fun _ h9 => h9) rfl dX1_read_42 ?_
        refine lv_if_eq (tgt := 82) hx hb dX1_read_45 (by decide) (fun c74 => ?_) (fun c74 => ?_)
        · skip
          have f75 : ((V50 6 9)).toInt = 0 := b_eq rfl (by decide) c74
          have kd76 : gT.1 (s1.1 0) = ((V50 6 9)).toInt := RelC.kd rq
          by_cases hon : (V50 1 2).toInt < 0
          · skip
            have ow1 : (V50 1 2).toInt = -1 := by omega
            refine lv_aload_n hx hb dX1_read_82 rfl (lv_at hl 1 rfl) ?_
            refine va_get (D := D) (ci := 1) (v := rfN ad 72 (V50 1 2)) (fs := (xfReader ad V50 L51 Z)) (C := RX1) (T := TX1) (N := 9) hx hb hg inX1 hown hK hP 1 xgReader rfl 2 (by decide) (hg _ w306) (fun _ h9 => h9) rfl dX1_read_83 ?_
            have r77 : (-1) ≤ ((V50 1 2)).toInt ∧ ((V50 1 2)).toInt ≤ 47 := hMV50 1 2
            refine g_topv (v := .null) (rfN_n (by omega)) ?_
            refine lv_ifnullN (tgt := 95) hx hb dX1_read_86 (by decide) ?_
            refine lv_aload_n hx hb dX1_read_95 rfl (lv_at hl 1 rfl) ?_
            refine va_get (D := D) (ci := 1) (v := .int (V50 1 3)) (fs := (xfReader ad V50 L51 Z)) (C := RX1) (T := TX1) (N := 9) hx hb hg inX1 hown hK hP 1 xgReader rfl 3 (by decide) (hg _ w307) (fun _ h9 => h9) rfl dX1_read_96 ?_
            have f0 := rq.2.1.2.2.2.2
            have rw78 : ROWL b L L51 := (fun k hk => (xlp52_3 k hk))
            exact W.iret (v := (V50 1 3)) hx hb hr (fun t ht hW => ⟨⟨(V50 1 3), (V50, L51), rfl, ⟨hMV50, agV50, alL51, cq, (by rw [← rq.tk]; unfold BRES; rw [← hgs]; exact Or.inl ⟨by omega, s1, (by have h9 := hq []; rw [nxI_s (show (V50 1 2).toInt < 0 from by omega)] at h9; exact h9.go1 (st_0 (kd76.trans f75))), rq.2.2.1⟩), rw78⟩, by rw [ht]; exact hP, va_K.moved hW.alike hK, hD⟩, hS.F ht⟩) hS.2.2 dX1_read_99
          · skip
            have ko := i_clamp (x := V50 1 2) rfl (by omega)
            refine lv_aload_n hx hb dX1_read_82 rfl (lv_at hl 1 rfl) ?_
            refine va_get (D := D) (ci := 1) (v := rfN ad 72 (V50 1 2)) (fs := (xfReader ad V50 L51 Z)) (C := RX1) (T := TX1) (N := 9) hx hb hg inX1 hown hK hP 1 xgReader rfl 2 (by decide) (hg _ w306) (fun _ h9 => h9) rfl dX1_read_83 ?_
            have r79 : (-1) ≤ ((V50 1 2)).toInt ∧ ((V50 1 2)).toInt ≤ 47 := hMV50 1 2
            refine g_topv (v := .ref (ad (72 + (Int32.toNatClampNeg (V50 1 2))))) (rfN_r (by omega)) ?_
            refine lv_ifnull hx hb dX1_read_86 ?_
            refine lv_aload_n hx hb dX1_read_89 rfl (lv_at hl 1 rfl) ?_
            refine lv_iconst (v := 1) hx hb dX1_read_90 (by decide) ?_
            have r80 : Int32.toInt 1 = 1 := by decide
            refine gA_int (gA_runV (As := [.int 1]) (rest := []) (ci := 1) (q0 := 1) hx hb hml hown hg hP hD hK hS hA hnw hgk (x_wrong2 l D ks H.size ad kk V50 L51 Z 1 hMV50 (by decide)) w867 w869 w6 w162 w870 rfl xgReader hdV_yX1_wrong ⟨Nat.le_of_ble_eq_true rfl, Nat.le_of_ble_eq_true rfl⟩ rfl hl.1 rfl (Nat.le_of_ble_eq_true rfl) dX1_read_91 ⟨Nat.le_of_ble_eq_true rfl, Nat.le_of_ble_eq_true rfl⟩) hP hD hK hS hA (fun z81 u82 H locs w83 hP hD hK hS => ?_)
            obtain ⟨V86, L87⟩ := u82
            obtain ⟨hMV86, ajV86, axL87, rgz81, t84, t85⟩ := w83
            have axL87 : L51 = L87 := Eq.symm axL87
            subst axL87
            have hP : va_P D vwCl (xw ad kk V86 L51 Z) H := hP
            have hD : va_D A (xw ad kk V86 L51 Z) := hD
            have hMV86 : rgd bX V86 := hMV86
            have ajV86 : agr [(1, 3)] [] V50 V86 := ajV86
            have agV86 : agr [(1, 1), (1, 2), (1, 3), (1, 4), (1, 6), (1, 7), (1, 8), (6, 6), (6, 7), (6, 8), (6, 9), (6, 10)] [12, 13, 14, 41, 42, 43, 44, 45, 46, 47, 48, 49, 50, 51, 52, 53, 54, 55, 56, 57, 58, 59, 60, 61, 62, 63, 64, 65, 66] V V86 := agV50.tr ajV86 (by decide) (by decide)
            have rgz81 : 0 ≤ z81.toInt ∧ z81.toInt ≤ 0 := rgz81
            have t84 : 1 ≤ (V86 1 3).toInt := t84
            have t85 : (V86 1 3).toInt = (Int32.toInt 1) + 16 * (V50 6 10).toInt := t85
            have r88 : 0 ≤ ((V50 6 10)).toInt ∧ ((V50 6 10)).toInt ≤ 4000 := hMV50 6 10
            refine lv_pop hx hb dX1_read_94 rfl ?_
            refine lv_aload_n hx hb dX1_read_95 rfl (lv_at hl 1 rfl) ?_
            refine va_get (D := D) (ci := 1) (v := .int (V86 1 3)) (fs := (xfReader ad V86 L51 Z)) (C := RX1) (T := TX1) (N := 9) hx hb hg inX1 hown hK hP 1 xgReader rfl 3 (by decide) (hg _ w307) (fun _ h9 => h9) rfl dX1_read_96 ?_
            have cx89 : CTx V L V86 L51 := CTx.ag cq (ajV86 6 7 rfl) (ajV86 6 6 rfl) (funext fun q9 => ajV86 12 q9 rfl) (funext fun q9 => ajV86 13 q9 rfl) rfl
            have hb90 : Rc gT (Crun gs [Istmt]) (Cbad (V86 1 3).toInt) := (by have h9 := hq []; rw [nxI_m (show 0 ≤ (V50 1 2).toInt from by omega)] at h9; exact h9.go1 ((mb_x (fun h8 => absurd (h8.symm.trans (kd76.trans f75)) (by decide)) (fun h8 => absurd (h8.symm.trans (kd76.trans f75)) (by decide)) (fun h8 => absurd (h8.symm.trans (kd76.trans f75)) (by decide)) (fun h8 => absurd (h8.symm.trans (kd76.trans f75)) (by decide)) (fun h8 => absurd (h8.symm.trans (kd76.trans f75)) (by decide))).trans (fl_eq (RelC.st rq) (show (V86 1 3).toInt = 1 + 16 * (V50 6 10).toInt from by omega))))
            have rw91 : ROWL b L L51 := (fun k hk => (xlp52_3 k hk))
            exact W.iret (v := (V86 1 3)) hx hb hr (fun t ht hW => ⟨⟨(V86 1 3), (V86, L51), rfl, ⟨hMV86, agV86, alL51, cx89, (by have e1 : tkOf V86 L51 = gT := (by rw [rq.tk]; unfold tkOf; rw [(by rw [(funext (fun q => ajV86 12 q rfl) : V86 12 = V50 12)] : V86 12 = V50 12), (by rw [(funext (fun q => ajV86 13 q rfl) : V86 13 = V50 13)] : V86 13 = V50 13), (rfl : L51 14 = L51 14)]); rw [e1]; unfold BRES; rw [← hgs]; exact Or.inr hb90), rw91⟩, by rw [ht]; exact hP, va_K.moved hW.alike hK, hD⟩, hS.F ht⟩) hS.2.2 dX1_read_99
        · skip
          have f92 : ((V50 6 9)).toInt ≠ 0 := b_neq rfl (by decide) c74
          by_cases hon : (V50 1 2).toInt < 0
          · skip
            have ow1 : (V50 1 2).toInt = -1 := by omega
            refine lv_aload_n hx hb dX1_read_48 rfl (lv_at hl 1 rfl) ?_
            refine va_get (D := D) (ci := 1) (v := rfN ad 72 (V50 1 2)) (fs := (xfReader ad V50 L51 Z)) (C := RX1) (T := TX1) (N := 9) hx hb hg inX1 hown hK hP 1 xgReader rfl 2 (by decide) (hg _ w306) (fun _ h9 => h9) rfl dX1_read_49 ?_
            have r93 : (-1) ≤ ((V50 1 2)).toInt ∧ ((V50 1 2)).toInt ≤ 47 := hMV50 1 2
            refine g_topv (v := .null) (rfN_n (by omega)) ?_
            refine lv_ifnonnullN hx hb dX1_read_52 ?_
            refine lv_aload_n hx hb dX1_read_55 rfl (lv_at hl 1 rfl) ?_
            refine gA_int (gA_runV (As := []) (rest := []) (ci := 1) (q0 := 1) hx hb hml hown hg hP hD hK hS hA hnw hgk (x_readStatement3 l D ks H.size ad kk V50 L51 Z (b) (gT) (s1) hMV50 (show b < 2 from by omega) (show (V50 1 1).toInt = (b : Int) from by omega) (show (V50 1 2).toInt = -1 from by omega) rq (show (V50 6 9).toInt ≠ 0 from by omega)) w855 w857 w4 w162 w858 rfl xgReader hdV_yX1_readStatement ⟨Nat.le_of_ble_eq_true rfl, Nat.le_of_ble_eq_true rfl⟩ rfl hl.1 rfl (Nat.le_of_ble_eq_true rfl) dX1_read_56 ⟨Nat.le_of_ble_eq_true rfl, Nat.le_of_ble_eq_true rfl⟩) hP hD hK hS hA (fun z94 u95 H locs w96 hP hD hK hS => ?_)
            obtain ⟨V100, L101⟩ := u95
            obtain ⟨hMV100, ajV100, axL101, rgz94, t97, t98, t99⟩ := w96
            have alL101 : agL [1, 6, 14, 44] L L101 := agL.tr alL51 axL101 (by decide)
            have hP : va_P D vwCl (xw ad kk V100 L101 Z) H := hP
            have hD : va_D A (xw ad kk V100 L101 Z) := hD
            have hMV100 : rgd bX V100 := hMV100
            have ajV100 : agr [(1, 2), (1, 3), (1, 4), (1, 6), (1, 7), (1, 8), (6, 8), (6, 9), (6, 10)] [41, 42, 43, 44, 45, 46, 47, 48, 49, 50, 51, 52, 53, 54, 55, 56, 57, 61, 62, 63, 64, 65, 66] V50 V100 := ajV100
            have agV100 : agr [(1, 1), (1, 2), (1, 3), (1, 4), (1, 6), (1, 7), (1, 8), (6, 6), (6, 7), (6, 8), (6, 9), (6, 10)] [12, 13, 14, 41, 42, 43, 44, 45, 46, 47, 48, 49, 50, 51, 52, 53, 54, 55, 56, 57, 58, 59, 60, 61, 62, 63, 64, 65, 66] V V100 := agV50.tr ajV100 (by decide) (by decide)
            have rgz94 : 0 ≤ z94.toInt ∧ z94.toInt ≤ 1 := rgz94
            have t97 : Imp (z94.toInt = 1) ((V100 1 2).toInt = -1 ∨ (24 * (b : Int) ≤ (V100 1 2).toInt ∧ (V100 1 2).toInt < 24 * (b : Int) + 24)) := t97
            have t98 : Rd gT s1 (fun k => Istmt :: k) (fun k => nxI (V100 1 2) k) z94.toInt (V100 1 3).toInt (fun s9 => RelC V100 L101 b gT s9 ∧ s1.1 0 + 1 ≤ s9.1 0) := t98
            have t99 : ROWL b L51 L101 := t99
            have r102 : (-1) ≤ ((V100 1 2)).toInt ∧ ((V100 1 2)).toInt ≤ 47 := hMV100 1 2
            rcases t98 with ⟨q103, sx104, h105, rl106, kp107⟩ | ⟨q103, h105⟩
            · skip
              have hr108 : ∀ k, Rc gT (Crun gs (Istmt :: k)) (Crun sx104 (nxI (V100 1 2) k)) := fun k => (by have h9 := hq k; rw [nxI_s (show (V50 1 2).toInt < 0 from by omega)] at h9; exact h9.tr (h105 k))
              have hp9 := kp107
              have cx109 : CTx V L V100 L101 := CTx.ag cq (ajV100 6 7 rfl) (ajV100 6 6 rfl) (funext fun q9 => ajV100 12 q9 rfl) (funext fun q9 => ajV100 13 q9 rfl) (funext fun q9 => axL101 14 q9 rfl)
              refine lv_goto (tgt := 66) hx hb dX1_read_59 (by decide) ?_
              refine lv_istore_n (lv' := [(3, .int z94), (2, .int y49), (0, .ref (ad 1)), (1, .ref (ad (38 + b)))]) hx hb dX1_read_66 rfl hl (by decide) rfl (fun ls hl => ?_)
              refine lv_iload_n hx hb dX1_read_67 rfl (lv_at hl 0 rfl) ?_
              refine lv_if_ne (tgt := 76) hx hb dX1_read_68 (by decide) (fun c110 => ?_) (fun c110 => ?_)
              · skip
                have f111 : z94.toInt ≠ 0 := b_neq rfl (by decide) c110
                obtain ⟨z112, ez112⟩ : ∃ y : Int32, y = y49 + 1 := ⟨_, rfl⟩
                have hz112 : z112.toInt = y49.toInt + 1 := i_add ez112 rfl (by decide) (by omega)
                refine lv_iinc (v := z112) (lv' := [(2, .int z112), (3, .int z94), (0, .ref (ad 1)), (1, .ref (ad (38 + b)))]) hx hb dX1_read_76 hl (k := 1) rfl (by rw [ez112]; rfl) (by decide) rfl (fun ls hl => ?_)
                refine lv_goto (tgt := 31) hx hb dX1_read_79 (by decide) ?_
                have pq113 : (V100 1 1).toInt = ((nI b)).toInt := congrArg Int32.toInt ((ajV100 1 1 rfl).trans ((ajV50 1 1 rfl).trans ((ajV26 1 1 rfl).trans ((up2_k hV19 (by decide)).trans ((up2_k hV17 (by decide)).trans ((ajV15 1 1 rfl).trans (up2_s hV2)))))))
                have rw114 : ROWL b L L101 := (fun k hk => ((t99 k hk).trans (xlp52_3 k hk)))
                exact ihlp52 z112 V100 L101 H locs ls (by first | omega | ((try (have i_t97 := Imp.go t97 (by omega))); omega)) ⟨sx104, hr108, rl106, cx109, (by omega)⟩ (Imp.go t97 (by omega)) (show (V100 1 1).toInt = (b : Int) from by first | omega | ((try (have i_t97 := Imp.go t97 (by omega))); omega)) rw114 (by first | omega | ((try (have i_t97 := Imp.go t97 (by omega))); omega)) alL101 (agr.tr (agr.tr agr.rf ajV50 (by decide) (by decide)) ajV100 (by decide) (by decide)) hMV100 hP hD hS (lv_sub hl [0, 2, 3] rfl)
              · skip
                have f115 : z94.toInt = 0 := b_eq rfl (by decide) c110
                exfalso; first | omega | ((try (have i_t97 := Imp.go t97 (by omega))); omega)
            · skip
              have hb116 : Rc gT (Crun gs [Istmt]) (Cbad (V100 1 3).toInt) := (by have h9 := hq []; rw [nxI_s (show (V50 1 2).toInt < 0 from by omega)] at h9; exact h9.tr (h105 []))
              have cx117 : CTx V L V100 L101 := CTx.ag cq (ajV100 6 7 rfl) (ajV100 6 6 rfl) (funext fun q9 => ajV100 12 q9 rfl) (funext fun q9 => ajV100 13 q9 rfl) (funext fun q9 => axL101 14 q9 rfl)
              refine lv_goto (tgt := 66) hx hb dX1_read_59 (by decide) ?_
              refine lv_istore_n (lv' := [(3, .int z94), (2, .int y49), (0, .ref (ad 1)), (1, .ref (ad (38 + b)))]) hx hb dX1_read_66 rfl hl (by decide) rfl (fun ls hl => ?_)
              refine lv_iload_n hx hb dX1_read_67 rfl (lv_at hl 0 rfl) ?_
              refine lv_if_ne (tgt := 76) hx hb dX1_read_68 (by decide) (fun c118 => ?_) (fun c118 => ?_)
              · skip
                have f119 : z94.toInt ≠ 0 := b_neq rfl (by decide) c118
                exfalso; first | omega | ((try (have i_t97 := Imp.go t97 (by omega))); omega)
              · skip
                have f120 : z94.toInt = 0 := b_eq rfl (by decide) c118
                refine lv_aload_n hx hb dX1_read_71 rfl (lv_at hl 2 rfl) ?_
                refine va_get (D := D) (ci := 1) (v := .int (V100 1 3)) (fs := (xfReader ad V100 L101 Z)) (C := RX1) (T := TX1) (N := 9) hx hb hg inX1 hown hK hP 1 xgReader rfl 3 (by decide) (hg _ w307) (fun _ h9 => h9) rfl dX1_read_72 ?_
                have rw121 : ROWL b L L101 := (fun k hk => ((t99 k hk).trans (xlp52_3 k hk)))
                exact W.iret (v := (V100 1 3)) hx hb hr (fun t ht hW => ⟨⟨(V100 1 3), (V100, L101), rfl, ⟨hMV100, agV100, alL101, cx117, (by have e1 : tkOf V100 L101 = gT := (by rw [rq.tk]; unfold tkOf; rw [(by rw [(funext (fun q => ajV100 12 q rfl) : V100 12 = V50 12)] : V100 12 = V50 12), (by rw [(funext (fun q => ajV100 13 q rfl) : V100 13 = V50 13)] : V100 13 = V50 13), (by rw [(funext (fun q => axL101 14 q rfl) : L101 14 = L51 14)] : L101 14 = L51 14)]); rw [e1]; unfold BRES; rw [← hgs]; exact Or.inr hb116), rw121⟩, by rw [ht]; exact hP, va_K.moved hW.alike hK, hD⟩, hS.F ht⟩) hS.2.2 dX1_read_75
          · skip
            have ko := i_clamp (x := V50 1 2) rfl (by omega)
            refine lv_aload_n hx hb dX1_read_48 rfl (lv_at hl 1 rfl) ?_
            refine va_get (D := D) (ci := 1) (v := rfN ad 72 (V50 1 2)) (fs := (xfReader ad V50 L51 Z)) (C := RX1) (T := TX1) (N := 9) hx hb hg inX1 hown hK hP 1 xgReader rfl 2 (by decide) (hg _ w306) (fun _ h9 => h9) rfl dX1_read_49 ?_
            have r122 : (-1) ≤ ((V50 1 2)).toInt ∧ ((V50 1 2)).toInt ≤ 47 := hMV50 1 2
            refine g_topv (v := .ref (ad (72 + (Int32.toNatClampNeg (V50 1 2))))) (rfN_r (by omega)) ?_
            refine lv_ifnonnull (tgt := 62) hx hb dX1_read_52 (by decide) ?_
            refine lv_aload_n hx hb dX1_read_62 rfl (lv_at hl 1 rfl) ?_
            refine gA_int (gA_runV (As := []) (rest := []) (ci := 1) (q0 := 1) hx hb hml hown hg hP hD hK hS hA hnw hgk (x_readMember3 l D ks H.size ad kk V50 L51 Z (b) (gT) (s1) ((Int32.toNatClampNeg (V50 1 2))) hMV50 (show b < 2 from by omega) (show (V50 1 1).toInt = (b : Int) from by omega) (show (V50 1 2).toInt = ((Int32.toNatClampNeg (V50 1 2)) : Int) from by omega) (show (Int32.toNatClampNeg (V50 1 2)) < 48 from by omega) (show 24 * b ≤ (Int32.toNatClampNeg (V50 1 2)) from by omega) (show (Int32.toNatClampNeg (V50 1 2)) < 24 * b + 24 from by omega) rq) w1003 w1005 w31 w162 w1006 rfl xgReader hdV_yX1_readMember ⟨Nat.le_of_ble_eq_true rfl, Nat.le_of_ble_eq_true rfl⟩ rfl hl.1 rfl (Nat.le_of_ble_eq_true rfl) dX1_read_63 ⟨Nat.le_of_ble_eq_true rfl, Nat.le_of_ble_eq_true rfl⟩) hP hD hK hS hA (fun z123 u124 H locs w125 hP hD hK hS => ?_)
            obtain ⟨V129, L130⟩ := u124
            obtain ⟨hMV129, ajV129, axL130, rgz123, t126, t127, t128⟩ := w125
            have alL130 : agL [1, 6, 14, 44] L L130 := agL.tr alL51 axL130 (by decide)
            have hP : va_P D vwCl (xw ad kk V129 L130 Z) H := hP
            have hD : va_D A (xw ad kk V129 L130 Z) := hD
            have hMV129 : rgd bX V129 := hMV129
            have ajV129 : agr [(1, 2), (1, 3), (1, 4), (1, 6), (1, 8), (6, 8), (6, 9), (6, 10)] [42, 43, 44, 48, 49, 56, 57, 58, 59, 60, 61] V50 V129 := ajV129
            have agV129 : agr [(1, 1), (1, 2), (1, 3), (1, 4), (1, 6), (1, 7), (1, 8), (6, 6), (6, 7), (6, 8), (6, 9), (6, 10)] [12, 13, 14, 41, 42, 43, 44, 45, 46, 47, 48, 49, 50, 51, 52, 53, 54, 55, 56, 57, 58, 59, 60, 61, 62, 63, 64, 65, 66] V V129 := agV50.tr ajV129 (by decide) (by decide)
            have rgz123 : 0 ≤ z123.toInt ∧ z123.toInt ≤ 1 := rgz123
            have t126 : (V129 1 2).toInt = (V50 1 2).toInt ∨ (V129 1 2).toInt = -1 := t126
            have t127 : Rd gT s1 (fun k => Imember :: k) (fun k => nxI (V129 1 2) k) z123.toInt (V129 1 3).toInt (fun s9 => RelC V129 L130 b gT s9 ∧ s1.1 0 + 1 ≤ s9.1 0) := t127
            have t128 : ROWL b L51 L130 := t128
            have r131 : (-1) ≤ ((V129 1 2)).toInt ∧ ((V129 1 2)).toInt ≤ 47 := hMV129 1 2
            rcases t127 with ⟨q132, sx133, h134, rl135, kp136⟩ | ⟨q132, h134⟩
            · skip
              have hr137 : ∀ k, Rc gT (Crun gs (Istmt :: k)) (Crun sx133 (nxI (V129 1 2) k)) := fun k => (by have h9 := hq k; rw [nxI_m (show 0 ≤ (V50 1 2).toInt from by omega)] at h9; exact h9.tr (h134 k))
              have hp9 := kp136
              have cx138 : CTx V L V129 L130 := CTx.ag cq (ajV129 6 7 rfl) (ajV129 6 6 rfl) (funext fun q9 => ajV129 12 q9 rfl) (funext fun q9 => ajV129 13 q9 rfl) (funext fun q9 => axL130 14 q9 rfl)
              refine lv_istore_n (lv' := [(3, .int z123), (2, .int y49), (0, .ref (ad 1)), (1, .ref (ad (38 + b)))]) hx hb dX1_read_66 rfl hl (by decide) rfl (fun ls hl => ?_)
              refine lv_iload_n hx hb dX1_read_67 rfl (lv_at hl 0 rfl) ?_
              refine lv_if_ne (tgt := 76) hx hb dX1_read_68 (by decide) (fun c139 => ?_) (fun c139 => ?_)
              · skip
                have f140 : z123.toInt ≠ 0 := b_neq rfl (by decide) c139
                obtain ⟨z141, ez141⟩ : ∃ y : Int32, y = y49 + 1 := ⟨_, rfl⟩
                have hz141 : z141.toInt = y49.toInt + 1 := i_add ez141 rfl (by decide) (by omega)
                refine lv_iinc (v := z141) (lv' := [(2, .int z141), (3, .int z123), (0, .ref (ad 1)), (1, .ref (ad (38 + b)))]) hx hb dX1_read_76 hl (k := 1) rfl (by rw [ez141]; rfl) (by decide) rfl (fun ls hl => ?_)
                refine lv_goto (tgt := 31) hx hb dX1_read_79 (by decide) ?_
                have pq142 : (V129 1 1).toInt = ((nI b)).toInt := congrArg Int32.toInt ((ajV129 1 1 rfl).trans ((ajV50 1 1 rfl).trans ((ajV26 1 1 rfl).trans ((up2_k hV19 (by decide)).trans ((up2_k hV17 (by decide)).trans ((ajV15 1 1 rfl).trans (up2_s hV2)))))))
                have rw143 : ROWL b L L130 := (fun k hk => ((t128 k hk).trans (xlp52_3 k hk)))
                exact ihlp52 z141 V129 L130 H locs ls (by omega) ⟨sx133, hr137, rl135, cx138, (by omega)⟩ (t126.elim (fun h9 => by rw [h9]; exact xlp52_1) (fun h9 => Or.inl h9)) (show (V129 1 1).toInt = (b : Int) from by omega) rw143 (by omega) alL130 (agr.tr (agr.tr agr.rf ajV50 (by decide) (by decide)) ajV129 (by decide) (by decide)) hMV129 hP hD hS (lv_sub hl [0, 2, 3] rfl)
              · skip
                have f144 : z123.toInt = 0 := b_eq rfl (by decide) c139
                exfalso; omega
            · skip
              have hb145 : Rc gT (Crun gs [Istmt]) (Cbad (V129 1 3).toInt) := (by have h9 := hq []; rw [nxI_m (show 0 ≤ (V50 1 2).toInt from by omega)] at h9; exact h9.tr (h134 []))
              have cx146 : CTx V L V129 L130 := CTx.ag cq (ajV129 6 7 rfl) (ajV129 6 6 rfl) (funext fun q9 => ajV129 12 q9 rfl) (funext fun q9 => ajV129 13 q9 rfl) (funext fun q9 => axL130 14 q9 rfl)
              refine lv_istore_n (lv' := [(3, .int z123), (2, .int y49), (0, .ref (ad 1)), (1, .ref (ad (38 + b)))]) hx hb dX1_read_66 rfl hl (by decide) rfl (fun ls hl => ?_)
              refine lv_iload_n hx hb dX1_read_67 rfl (lv_at hl 0 rfl) ?_
              refine lv_if_ne (tgt := 76) hx hb dX1_read_68 (by decide) (fun c147 => ?_) (fun c147 => ?_)
              · skip
                have f148 : z123.toInt ≠ 0 := b_neq rfl (by decide) c147
                exfalso; omega
              · skip
                have f149 : z123.toInt = 0 := b_eq rfl (by decide) c147
                refine lv_aload_n hx hb dX1_read_71 rfl (lv_at hl 2 rfl) ?_
                refine va_get (D := D) (ci := 1) (v := .int (V129 1 3)) (fs := (xfReader ad V129 L130 Z)) (C := RX1) (T := TX1) (N := 9) hx hb hg inX1 hown hK hP 1 xgReader rfl 3 (by decide) (hg _ w307) (fun _ h9 => h9) rfl dX1_read_72 ?_
                have rw150 : ROWL b L L130 := (fun k hk => ((t128 k hk).trans (xlp52_3 k hk)))
                exact W.iret (v := (V129 1 3)) hx hb hr (fun t ht hW => ⟨⟨(V129 1 3), (V129, L130), rfl, ⟨hMV129, agV129, alL130, cx146, (by have e1 : tkOf V129 L130 = gT := (by rw [rq.tk]; unfold tkOf; rw [(by rw [(funext (fun q => ajV129 12 q rfl) : V129 12 = V50 12)] : V129 12 = V50 12), (by rw [(funext (fun q => ajV129 13 q rfl) : V129 13 = V50 13)] : V129 13 = V50 13), (by rw [(funext (fun q => axL130 14 q rfl) : L130 14 = L51 14)] : L130 14 = L51 14)]); rw [e1]; unfold BRES; rw [← hgs]; exact Or.inr hb145), rw150⟩, by rw [ht]; exact hP, va_K.moved hW.alike hK, hD⟩, hS.F ht⟩) hS.2.2 dX1_read_75
  have r151 : Int32.toInt 0 = 0 := by decide
  have pq152 : (V26 1 1).toInt = ((nI b)).toInt := congrArg Int32.toInt ((ajV26 1 1 rfl).trans ((up2_k hV19 (by decide)).trans ((up2_k hV17 (by decide)).trans ((ajV15 1 1 rfl).trans (up2_s hV2)))))
  have rw153 : ROWL b L L27 := (fun k hk => ((axL27 44 k rfl).trans rfl))
  exact lp52 ((4000 - (Int32.toInt 0) + 1 : Int).toNat) 0 V26 L27 H locs ls (by decide) ⟨gs, (fun k => by rw [nxI_s (show (V26 1 2).toInt < 0 from by omega)]; exact Rc.rf), rl0, cx0, (by omega)⟩ (Or.inl (by omega)) (show (V26 1 1).toInt = (b : Int) from by omega) rw153 (by omega) alL27 agr.rf hMV26 hP hD hS (lv_sub hl [0, 1, 2] rfl)
