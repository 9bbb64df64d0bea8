
abbrev r_s_isPartA : Room := { frames := 1, cells := 0, slots := 0, locals := 21 }
abbrev q_s_isPartA (D : va_G) (ks : KS) (ad : Nat → Nat) (kk : Nat → ClassId) (V : Vf) (L : Lf) (bq : Nat) (gn : Nat) (gT : Tk) (gs : St) (gl : List Int64) (A : Nat → Prop) : Array Value → State → Outcome → State → Prop := va_Qi (fun (r : Int32) (_ : Unit) => (0 ≤ r.toInt ∧ r.toInt ≤ 1) ∧ ((r.toInt = 1 ∧ bgP gT gs) ∨ (r.toInt = 0 ∧ ¬ bgP gT gs))) (fun _ t => gq D A (mw ad kk ks.1 V L) (mty kk) t) A
set_option maxHeartbeats 4000000 in
set_option maxRecDepth 100000 in
theorem s_isPartA (l : Launch) (D : va_G) (ks : KS) (sz : Nat) (ad : Nat → Nat) (kk : Nat → ClassId) (V : Vf) (L : Lf) (bq : Nat) (gn : Nat) (gT : Tk) (gs : St) (gl : List Int64) (hMV : rgd bM V) (rel : RelM V L bq gn gT gs gl) (em : EM V gs)  : Met l yX12_isPart (Cond.code yX12_isPart cX12_isPart 1 (some .boolean) :: GW) r_s_isPartA (va_Pc [.ref (ad 0)] (gp D ks (mw ad kk ks.1 V L) (mty kk) sz)) (q_s_isPartA D ks ad kk V L  bq gn gT gs gl (va_A (mw ad kk ks.1 V L) sz)) 0 0 (va_A (mw ad kk ks.1 V L) sz) := by
  refine g_met (q_s_isPartA D ks ad kk V L  bq gn gT gs gl) (by decide) (Nat.le_of_ble_eq_true rfl) ?_
  intro p e s m below meth c A ls H locs hx hb hr hml hown hg hlocks hin hnw hgk hP hK hD hS hA hl
  have hown : s.vm.findClass RX12 = some m.cls := hown
  have hl : lv_has ls 1 [(0, .ref (ad 0))] := hl
  have hP : va_P D vwCl (mw ad kk ks.1 V L) H := hP
  have hD : va_D A (mw ad kk ks.1 V L) := hD
  have hK : va_K D vwCl (mty kk) s := hK
  have rg0 := RelM.rg rel
  have cl0 := RelM.cl rel
  have cq0 := RelM.cq rel
  refine lv_aload_n hx hb dX12_isPart_0 rfl (lv_at hl 0 rfl) ?_
  refine va_get (D := D) (ci := 12) (v := .int (V 0 8)) (C := RX12) (T := TX12) (N := 100) hx hb hg inX12 hown hK hP 0 rfl rfl 8 (by decide) (hg _ w1718) (fun _ h9 => h9) rfl dX12_isPart_1 ?_
  have r1 : 0 ≤ ((V 0 8)).toInt ∧ ((V 0 8)).toInt ≤ 70000 := hMV 0 8
  refine lv_if_ne (tgt := 109) hx hb dX12_isPart_4 (by decide) (fun c2 => ?_) (fun c2 => ?_)
  · skip
    have f3 : ((V 0 8)).toInt ≠ 0 := b_neq rfl (by decide) c2
    exfalso; omega
  · skip
    have f4 : ((V 0 8)).toInt = 0 := b_eq rfl (by decide) c2
    refine lv_aload_n hx hb dX12_isPart_7 rfl (lv_at hl 0 rfl) ?_
    refine va_get (D := D) (ci := 12) (v := .ref (ad 4)) (C := RX12) (T := TX12) (N := 100) hx hb hg inX12 hown hK hP 0 rfl rfl 4 (by decide) (hg _ w1714) (fun _ h9 => h9) rfl dX12_isPart_8 ?_
    refine lv_aload_n hx hb dX12_isPart_11 rfl (lv_at hl 0 rfl) ?_
    refine va_get (D := D) (ci := 12) (v := .int (V 0 7)) (C := RX12) (T := TX12) (N := 100) hx hb hg inX12 hown hK hP 0 rfl rfl 7 (by decide) (hg _ w1717) (fun _ h9 => h9) rfl dX12_isPart_12 ?_
    refine va_iald (D := D) (i := (V 0 7)) hx hb hK hP 2 1 rfl rfl (i_in (a := ((V 0 7)).toInt) rfl (by omega)) dX12_isPart_15 ?_
    refine lv_iconst (v := 2) hx hb dX12_isPart_16 (by decide) ?_
    refine lv_icmp_eq (tgt := 105) hx hb dX12_isPart_17 (by decide) (fun c5 => ?_) (fun c5 => ?_)
    · skip
      have f6 : ((V 4 (Int32.toNatClampNeg (V 0 7)))).toInt = 2 := b_eq rfl (by decide) c5
      refine lv_iconst (v := 1) hx hb dX12_isPart_105 (by decide) ?_
      refine lv_goto (tgt := 110) hx hb dX12_isPart_106 (by decide) ?_
      exact W.zret (v := 1) hx hb hr rfl (fun t ht hW => ⟨⟨1, (), rfl, ⟨(by decide), (Or.inl ⟨rfl, Or.inl ((RelM.nb rel).mp (by rw [← cl0]; omega))⟩)⟩, by rw [ht]; exact hP, va_K.moved hW.alike hK, hD⟩, hS.F ht⟩) hS.2.2 dX12_isPart_110
    · skip
      have f7 : ((V 4 (Int32.toNatClampNeg (V 0 7)))).toInt ≠ 2 := b_neq rfl (by decide) c5
      have kd8 : gT.1 (gs.1 0) ≠ 2 := fun h9 => by have z := (RelM.nb rel).mpr h9; rw [← cl0] at z; omega
      refine lv_aload_n hx hb dX12_isPart_20 rfl (lv_at hl 0 rfl) ?_
      refine lv_bipush (v := 40) hx hb dX12_isPart_21 (by decide) ?_
      have r9 : Int32.toInt 40 = 40 := by decide
      refine gA_int (gA_runV (As := [.int 40]) (rest := []) (ci := 12) (q0 := 0) hx hb hml hown hg hP hD hK hS hA hnw hgk (s_isSignA l D ks H.size ad kk V L 40 (bq) (gn) (gT) (gs) (gl) hMV rel (sg_yes (j := 40) (by decide) (by decide) (by decide))) w2075 w2077 w95 w172 w2078 rfl rfl hdV_yX12_isSign ⟨Nat.le_of_ble_eq_true rfl, Nat.le_of_ble_eq_true rfl⟩ rfl hl.1 rfl (Nat.le_of_ble_eq_true rfl) dX12_isPart_23 ⟨Nat.le_of_ble_eq_true rfl, Nat.le_of_ble_eq_true rfl⟩) hP hD hK hS hA (fun z10 u11 H locs w12 hP hD hK hS => ?_)
      obtain ⟨rgz10, t13⟩ := w12
      have rgz10 : 0 ≤ z10.toInt ∧ z10.toInt ≤ 1 := rgz10
      have t13 : (z10.toInt = 1 ∧ (gT).1 ((gs).1 0) = (Int32.toInt 40)) ∨ (z10.toInt = 0 ∧ (gT).1 ((gs).1 0) ≠ (Int32.toInt 40)) := t13
      rcases t13 with ⟨q14, h15⟩ | ⟨q14, h15⟩
      · skip
        have kd16 : gT.1 (gs.1 0) = 40 := h15.trans (by decide)
        refine lv_if_ne (tgt := 105) hx hb dX12_isPart_26 (by decide) (fun c17 => ?_) (fun c17 => ?_)
        · skip
          have f18 : z10.toInt ≠ 0 := b_neq rfl (by decide) c17
          refine lv_iconst (v := 1) hx hb dX12_isPart_105 (by decide) ?_
          refine lv_goto (tgt := 110) hx hb dX12_isPart_106 (by decide) ?_
          exact W.zret (v := 1) hx hb hr rfl (fun t ht hW => ⟨⟨1, (), rfl, ⟨(by decide), (Or.inl ⟨rfl, Or.inr (Or.inr (Or.inl kd16))⟩)⟩, by rw [ht]; exact hP, va_K.moved hW.alike hK, hD⟩, hS.F ht⟩) hS.2.2 dX12_isPart_110
        · skip
          have f19 : z10.toInt = 0 := b_eq rfl (by decide) c17
          exfalso; omega
      · skip
        have kd20 : gT.1 (gs.1 0) ≠ 40 := fun h9 => h15 (h9.trans (by decide))
        refine lv_if_ne (tgt := 105) hx hb dX12_isPart_26 (by decide) (fun c21 => ?_) (fun c21 => ?_)
        · skip
          have f22 : z10.toInt ≠ 0 := b_neq rfl (by decide) c21
          exfalso; omega
        · skip
          have f23 : z10.toInt = 0 := b_eq rfl (by decide) c21
          refine lv_aload_n hx hb dX12_isPart_29 rfl (lv_at hl 0 rfl) ?_
          refine lv_bipush (v := 45) hx hb dX12_isPart_30 (by decide) ?_
          have r24 : Int32.toInt 45 = 45 := by decide
          refine gA_int (gA_runV (As := [.int 45]) (rest := []) (ci := 12) (q0 := 0) hx hb hml hown hg hP hD hK hS hA hnw hgk (s_isSignA l D ks H.size ad kk V L 45 (bq) (gn) (gT) (gs) (gl) hMV rel (sg_yes (j := 45) (by decide) (by decide) (by decide))) w2075 w2077 w95 w172 w2078 rfl rfl hdV_yX12_isSign ⟨Nat.le_of_ble_eq_true rfl, Nat.le_of_ble_eq_true rfl⟩ rfl hl.1 rfl (Nat.le_of_ble_eq_true rfl) dX12_isPart_32 ⟨Nat.le_of_ble_eq_true rfl, Nat.le_of_ble_eq_true rfl⟩) hP hD hK hS hA (fun z25 u26 H locs w27 hP hD hK hS => ?_)
          obtain ⟨rgz25, t28⟩ := w27
          have rgz25 : 0 ≤ z25.toInt ∧ z25.toInt ≤ 1 := rgz25
          have t28 : (z25.toInt = 1 ∧ (gT).1 ((gs).1 0) = (Int32.toInt 45)) ∨ (z25.toInt = 0 ∧ (gT).1 ((gs).1 0) ≠ (Int32.toInt 45)) := t28
          rcases t28 with ⟨q29, h30⟩ | ⟨q29, h30⟩
          · skip
            have kd31 : gT.1 (gs.1 0) = 45 := h30.trans (by decide)
            refine lv_if_ne (tgt := 105) hx hb dX12_isPart_35 (by decide) (fun c32 => ?_) (fun c32 => ?_)
            · skip
              have f33 : z25.toInt ≠ 0 := b_neq rfl (by decide) c32
              refine lv_iconst (v := 1) hx hb dX12_isPart_105 (by decide) ?_
              refine lv_goto (tgt := 110) hx hb dX12_isPart_106 (by decide) ?_
              exact W.zret (v := 1) hx hb hr rfl (fun t ht hW => ⟨⟨1, (), rfl, ⟨(by decide), (Or.inl ⟨rfl, Or.inr (Or.inr (Or.inr (Or.inl kd31)))⟩)⟩, by rw [ht]; exact hP, va_K.moved hW.alike hK, hD⟩, hS.F ht⟩) hS.2.2 dX12_isPart_110
            · skip
              have f34 : z25.toInt = 0 := b_eq rfl (by decide) c32
              exfalso; omega
          · skip
            have kd35 : gT.1 (gs.1 0) ≠ 45 := fun h9 => h30 (h9.trans (by decide))
            refine lv_if_ne (tgt := 105) hx hb dX12_isPart_35 (by decide) (fun c36 => ?_) (fun c36 => ?_)
            · skip
              have f37 : z25.toInt ≠ 0 := b_neq rfl (by decide) c36
              exfalso; omega
            · skip
              have f38 : z25.toInt = 0 := b_eq rfl (by decide) c36
              refine lv_aload_n hx hb dX12_isPart_38 rfl (lv_at hl 0 rfl) ?_
              refine lv_bipush (v := 15) hx hb dX12_isPart_39 (by decide) ?_
              have r39 : Int32.toInt 15 = 15 := by decide
              refine gA_int (gA_runV (As := [.int 15]) (rest := []) (ci := 12) (q0 := 0) hx hb hml hown hg hP hD hK hS hA hnw hgk (s_isWordA l D ks H.size ad kk V L 15 (bq) (gn) (gT) (gs) (gl) hMV (by decide) rel) w2027 w2029 w83 w172 w2030 rfl rfl hdV_yX12_isWord ⟨Nat.le_of_ble_eq_true rfl, Nat.le_of_ble_eq_true rfl⟩ rfl hl.1 rfl (Nat.le_of_ble_eq_true rfl) dX12_isPart_41 ⟨Nat.le_of_ble_eq_true rfl, Nat.le_of_ble_eq_true rfl⟩) hP hD hK hS hA (fun z40 u41 H locs w42 hP hD hK hS => ?_)
              obtain ⟨rgz40, t43⟩ := w42
              have rgz40 : 0 ≤ z40.toInt ∧ z40.toInt ≤ 1 := rgz40
              have t43 : (z40.toInt = 1 ∧ (gT).1 ((gs).1 0) = 128 + (Int32.toInt 15)) ∨ (z40.toInt = 0 ∧ (gT).1 ((gs).1 0) ≠ 128 + (Int32.toInt 15)) := t43
              rcases t43 with ⟨q44, h45⟩ | ⟨q44, h45⟩
              · skip
                have kd46 : gT.1 (gs.1 0) = 143 := h45.trans (by decide)
                refine lv_if_ne (tgt := 105) hx hb dX12_isPart_44 (by decide) (fun c47 => ?_) (fun c47 => ?_)
                · skip
                  have f48 : z40.toInt ≠ 0 := b_neq rfl (by decide) c47
                  refine lv_iconst (v := 1) hx hb dX12_isPart_105 (by decide) ?_
                  refine lv_goto (tgt := 110) hx hb dX12_isPart_106 (by decide) ?_
                  exact W.zret (v := 1) hx hb hr rfl (fun t ht hW => ⟨⟨1, (), rfl, ⟨(by decide), (Or.inl ⟨rfl, Or.inr (Or.inl kd46)⟩)⟩, by rw [ht]; exact hP, va_K.moved hW.alike hK, hD⟩, hS.F ht⟩) hS.2.2 dX12_isPart_110
                · skip
                  have f49 : z40.toInt = 0 := b_eq rfl (by decide) c47
                  exfalso; omega
              · skip
                have kd50 : gT.1 (gs.1 0) ≠ 143 := fun h9 => h45 (h9.trans (by decide))
                refine lv_if_ne (tgt := 105) hx hb dX12_isPart_44 (by decide) (fun c51 => ?_) (fun c51 => ?_)
                · skip
                  have f52 : z40.toInt ≠ 0 := b_neq rfl (by decide) c51
                  exfalso; omega
                · skip
                  have f53 : z40.toInt = 0 := b_eq rfl (by decide) c51
                  refine lv_aload_n hx hb dX12_isPart_47 rfl (lv_at hl 0 rfl) ?_
                  refine lv_bipush (v := 16) hx hb dX12_isPart_48 (by decide) ?_
                  have r54 : Int32.toInt 16 = 16 := by decide
                  refine gA_int (gA_runV (As := [.int 16]) (rest := []) (ci := 12) (q0 := 0) hx hb hml hown hg hP hD hK hS hA hnw hgk (s_isWordA l D ks H.size ad kk V L 16 (bq) (gn) (gT) (gs) (gl) hMV (by decide) rel) w2027 w2029 w83 w172 w2030 rfl rfl hdV_yX12_isWord ⟨Nat.le_of_ble_eq_true rfl, Nat.le_of_ble_eq_true rfl⟩ rfl hl.1 rfl (Nat.le_of_ble_eq_true rfl) dX12_isPart_50 ⟨Nat.le_of_ble_eq_true rfl, Nat.le_of_ble_eq_true rfl⟩) hP hD hK hS hA (fun z55 u56 H locs w57 hP hD hK hS => ?_)
                  obtain ⟨rgz55, t58⟩ := w57
                  have rgz55 : 0 ≤ z55.toInt ∧ z55.toInt ≤ 1 := rgz55
                  have t58 : (z55.toInt = 1 ∧ (gT).1 ((gs).1 0) = 128 + (Int32.toInt 16)) ∨ (z55.toInt = 0 ∧ (gT).1 ((gs).1 0) ≠ 128 + (Int32.toInt 16)) := t58
                  rcases t58 with ⟨q59, h60⟩ | ⟨q59, h60⟩
                  · skip
                    have kd61 : gT.1 (gs.1 0) = 144 := h60.trans (by decide)
                    refine lv_if_ne (tgt := 105) hx hb dX12_isPart_53 (by decide) (fun c62 => ?_) (fun c62 => ?_)
                    · skip
                      have f63 : z55.toInt ≠ 0 := b_neq rfl (by decide) c62
                      refine lv_iconst (v := 1) hx hb dX12_isPart_105 (by decide) ?_
                      refine lv_goto (tgt := 110) hx hb dX12_isPart_106 (by decide) ?_
                      exact W.zret (v := 1) hx hb hr rfl (fun t ht hW => ⟨⟨1, (), rfl, ⟨(by decide), (Or.inl ⟨rfl, Or.inr (Or.inr (Or.inr (Or.inr (Or.inl kd61))))⟩)⟩, by rw [ht]; exact hP, va_K.moved hW.alike hK, hD⟩, hS.F ht⟩) hS.2.2 dX12_isPart_110
                    · skip
                      have f64 : z55.toInt = 0 := b_eq rfl (by decide) c62
                      exfalso; omega
                  · skip
                    have kd65 : gT.1 (gs.1 0) ≠ 144 := fun h9 => h60 (h9.trans (by decide))
                    refine lv_if_ne (tgt := 105) hx hb dX12_isPart_53 (by decide) (fun c66 => ?_) (fun c66 => ?_)
                    · skip
                      have f67 : z55.toInt ≠ 0 := b_neq rfl (by decide) c66
                      exfalso; omega
                    · skip
                      have f68 : z55.toInt = 0 := b_eq rfl (by decide) c66
                      refine lv_aload_n hx hb dX12_isPart_56 rfl (lv_at hl 0 rfl) ?_
                      refine lv_iconst (v := 2) hx hb dX12_isPart_57 (by decide) ?_
                      have r69 : Int32.toInt 2 = 2 := by decide
                      refine gA_int (gA_runV (As := [.int 2]) (rest := []) (ci := 12) (q0 := 0) hx hb hml hown hg hP hD hK hS hA hnw hgk (s_isWordA l D ks H.size ad kk V L 2 (bq) (gn) (gT) (gs) (gl) hMV (by decide) rel) w2027 w2029 w83 w172 w2030 rfl rfl hdV_yX12_isWord ⟨Nat.le_of_ble_eq_true rfl, Nat.le_of_ble_eq_true rfl⟩ rfl hl.1 rfl (Nat.le_of_ble_eq_true rfl) dX12_isPart_58 ⟨Nat.le_of_ble_eq_true rfl, Nat.le_of_ble_eq_true rfl⟩) hP hD hK hS hA (fun z70 u71 H locs w72 hP hD hK hS => ?_)
                      obtain ⟨rgz70, t73⟩ := w72
                      have rgz70 : 0 ≤ z70.toInt ∧ z70.toInt ≤ 1 := rgz70
                      have t73 : (z70.toInt = 1 ∧ (gT).1 ((gs).1 0) = 128 + (Int32.toInt 2)) ∨ (z70.toInt = 0 ∧ (gT).1 ((gs).1 0) ≠ 128 + (Int32.toInt 2)) := t73
                      rcases t73 with ⟨q74, h75⟩ | ⟨q74, h75⟩
                      · skip
                        have kd76 : gT.1 (gs.1 0) = 130 := h75.trans (by decide)
                        refine lv_if_ne (tgt := 105) hx hb dX12_isPart_61 (by decide) (fun c77 => ?_) (fun c77 => ?_)
                        · skip
                          have f78 : z70.toInt ≠ 0 := b_neq rfl (by decide) c77
                          refine lv_iconst (v := 1) hx hb dX12_isPart_105 (by decide) ?_
                          refine lv_goto (tgt := 110) hx hb dX12_isPart_106 (by decide) ?_
                          exact W.zret (v := 1) hx hb hr rfl (fun t ht hW => ⟨⟨1, (), rfl, ⟨(by decide), (Or.inl ⟨rfl, Or.inr (Or.inr (Or.inr (Or.inr (Or.inr (Or.inl kd76)))))⟩)⟩, by rw [ht]; exact hP, va_K.moved hW.alike hK, hD⟩, hS.F ht⟩) hS.2.2 dX12_isPart_110
                        · skip
                          have f79 : z70.toInt = 0 := b_eq rfl (by decide) c77
                          exfalso; omega
                      · skip
                        have kd80 : gT.1 (gs.1 0) ≠ 130 := fun h9 => h75 (h9.trans (by decide))
                        refine lv_if_ne (tgt := 105) hx hb dX12_isPart_61 (by decide) (fun c81 => ?_) (fun c81 => ?_)
                        · skip
                          have f82 : z70.toInt ≠ 0 := b_neq rfl (by decide) c81
                          exfalso; omega
                        · skip
                          have f83 : z70.toInt = 0 := b_eq rfl (by decide) c81
                          refine lv_aload_n hx hb dX12_isPart_64 rfl (lv_at hl 0 rfl) ?_
                          refine lv_bipush (v := 17) hx hb dX12_isPart_65 (by decide) ?_
                          have r84 : Int32.toInt 17 = 17 := by decide
                          refine gA_int (gA_runV (As := [.int 17]) (rest := []) (ci := 12) (q0 := 0) hx hb hml hown hg hP hD hK hS hA hnw hgk (s_isWordA l D ks H.size ad kk V L 17 (bq) (gn) (gT) (gs) (gl) hMV (by decide) rel) w2027 w2029 w83 w172 w2030 rfl rfl hdV_yX12_isWord ⟨Nat.le_of_ble_eq_true rfl, Nat.le_of_ble_eq_true rfl⟩ rfl hl.1 rfl (Nat.le_of_ble_eq_true rfl) dX12_isPart_67 ⟨Nat.le_of_ble_eq_true rfl, Nat.le_of_ble_eq_true rfl⟩) hP hD hK hS hA (fun z85 u86 H locs w87 hP hD hK hS => ?_)
                          obtain ⟨rgz85, t88⟩ := w87
                          have rgz85 : 0 ≤ z85.toInt ∧ z85.toInt ≤ 1 := rgz85
                          have t88 : (z85.toInt = 1 ∧ (gT).1 ((gs).1 0) = 128 + (Int32.toInt 17)) ∨ (z85.toInt = 0 ∧ (gT).1 ((gs).1 0) ≠ 128 + (Int32.toInt 17)) := t88
                          rcases t88 with ⟨q89, h90⟩ | ⟨q89, h90⟩
                          · skip
                            have kd91 : gT.1 (gs.1 0) = 145 := h90.trans (by decide)
                            refine lv_if_ne (tgt := 105) hx hb dX12_isPart_70 (by decide) (fun c92 => ?_) (fun c92 => ?_)
                            · skip
                              have f93 : z85.toInt ≠ 0 := b_neq rfl (by decide) c92
                              refine lv_iconst (v := 1) hx hb dX12_isPart_105 (by decide) ?_
                              refine lv_goto (tgt := 110) hx hb dX12_isPart_106 (by decide) ?_
                              exact W.zret (v := 1) hx hb hr rfl (fun t ht hW => ⟨⟨1, (), rfl, ⟨(by decide), (Or.inl ⟨rfl, Or.inr (Or.inr (Or.inr (Or.inr (Or.inr (Or.inr (Or.inl kd91))))))⟩)⟩, by rw [ht]; exact hP, va_K.moved hW.alike hK, hD⟩, hS.F ht⟩) hS.2.2 dX12_isPart_110
                            · skip
                              have f94 : z85.toInt = 0 := b_eq rfl (by decide) c92
                              exfalso; omega
                          · skip
                            have kd95 : gT.1 (gs.1 0) ≠ 145 := fun h9 => h90 (h9.trans (by decide))
                            refine lv_if_ne (tgt := 105) hx hb dX12_isPart_70 (by decide) (fun c96 => ?_) (fun c96 => ?_)
                            · skip
                              have f97 : z85.toInt ≠ 0 := b_neq rfl (by decide) c96
                              exfalso; omega
                            · skip
                              have f98 : z85.toInt = 0 := b_eq rfl (by decide) c96
                              refine lv_aload_n hx hb dX12_isPart_73 rfl (lv_at hl 0 rfl) ?_
                              refine lv_bipush (v := 18) hx hb dX12_isPart_74 (by decide) ?_
                              have r99 : Int32.toInt 18 = 18 := by decide
                              refine gA_int (gA_runV (As := [.int 18]) (rest := []) (ci := 12) (q0 := 0) hx hb hml hown hg hP hD hK hS hA hnw hgk (s_isWordA l D ks H.size ad kk V L 18 (bq) (gn) (gT) (gs) (gl) hMV (by decide) rel) w2027 w2029 w83 w172 w2030 rfl rfl hdV_yX12_isWord ⟨Nat.le_of_ble_eq_true rfl, Nat.le_of_ble_eq_true rfl⟩ rfl hl.1 rfl (Nat.le_of_ble_eq_true rfl) dX12_isPart_76 ⟨Nat.le_of_ble_eq_true rfl, Nat.le_of_ble_eq_true rfl⟩) hP hD hK hS hA (fun z100 u101 H locs w102 hP hD hK hS => ?_)
                              obtain ⟨rgz100, t103⟩ := w102
                              have rgz100 : 0 ≤ z100.toInt ∧ z100.toInt ≤ 1 := rgz100
                              have t103 : (z100.toInt = 1 ∧ (gT).1 ((gs).1 0) = 128 + (Int32.toInt 18)) ∨ (z100.toInt = 0 ∧ (gT).1 ((gs).1 0) ≠ 128 + (Int32.toInt 18)) := t103
                              rcases t103 with ⟨q104, h105⟩ | ⟨q104, h105⟩
                              · skip
                                have kd106 : gT.1 (gs.1 0) = 146 := h105.trans (by decide)
                                refine lv_if_eq (tgt := 89) hx hb dX12_isPart_79 (by decide) (fun c107 => ?_) (fun c107 => ?_)
                                · skip
                                  have f108 : z100.toInt = 0 := b_eq rfl (by decide) c107
                                  exfalso; omega
                                · skip
                                  have f109 : z100.toInt ≠ 0 := b_neq rfl (by decide) c107
                                  refine lv_aload_n hx hb dX12_isPart_82 rfl (lv_at hl 0 rfl) ?_
                                  refine va_get (D := D) (ci := 12) (v := .int (V 0 51)) (C := RX12) (T := TX12) (N := 100) hx hb hg inX12 hown hK hP 0 rfl rfl 51 (by decide) (hg _ w1761) (fun _ h9 => h9) rfl dX12_isPart_83 ?_
                                  have r110 : (-1) ≤ ((V 0 51)).toInt ∧ ((V 0 51)).toInt ≤ 47 := hMV 0 51
                                  refine lv_if_ge (tgt := 105) hx hb dX12_isPart_86 (by decide) (fun c111 => ?_) (fun c111 => ?_)
                                  · skip
                                    have f112 : 0 ≤ ((V 0 51)).toInt := b_le (by decide) rfl c111
                                    refine lv_iconst (v := 1) hx hb dX12_isPart_105 (by decide) ?_
                                    refine lv_goto (tgt := 110) hx hb dX12_isPart_106 (by decide) ?_
                                    exact W.zret (v := 1) hx hb hr rfl (fun t ht hW => ⟨⟨1, (), rfl, ⟨(by decide), (Or.inl ⟨rfl, by have h9 := kd106; have h8 := em.1.mp (by omega); unfold bgP; omega⟩)⟩, by rw [ht]; exact hP, va_K.moved hW.alike hK, hD⟩, hS.F ht⟩) hS.2.2 dX12_isPart_110
                                  · skip
                                    have f113 : ((V 0 51)).toInt < 0 := b_nle (by decide) rfl c111
                                    refine lv_aload_n hx hb dX12_isPart_89 rfl (lv_at hl 0 rfl) ?_
                                    refine lv_bipush (v := 19) hx hb dX12_isPart_90 (by decide) ?_
                                    have r114 : Int32.toInt 19 = 19 := by decide
                                    refine gA_int (gA_runV (As := [.int 19]) (rest := []) (ci := 12) (q0 := 0) hx hb hml hown hg hP hD hK hS hA hnw hgk (s_isWordA l D ks H.size ad kk V L 19 (bq) (gn) (gT) (gs) (gl) hMV (by decide) rel) w2027 w2029 w83 w172 w2030 rfl rfl hdV_yX12_isWord ⟨Nat.le_of_ble_eq_true rfl, Nat.le_of_ble_eq_true rfl⟩ rfl hl.1 rfl (Nat.le_of_ble_eq_true rfl) dX12_isPart_92 ⟨Nat.le_of_ble_eq_true rfl, Nat.le_of_ble_eq_true rfl⟩) hP hD hK hS hA (fun z115 u116 H locs w117 hP hD hK hS => ?_)
                                    obtain ⟨rgz115, t118⟩ := w117
                                    have rgz115 : 0 ≤ z115.toInt ∧ z115.toInt ≤ 1 := rgz115
                                    have t118 : (z115.toInt = 1 ∧ (gT).1 ((gs).1 0) = 128 + (Int32.toInt 19)) ∨ (z115.toInt = 0 ∧ (gT).1 ((gs).1 0) ≠ 128 + (Int32.toInt 19)) := t118
                                    rcases t118 with ⟨q119, h120⟩ | ⟨q119, h120⟩
                                    · skip
                                      have kd121 : gT.1 (gs.1 0) = 147 := h120.trans (by decide)
                                      exact absurd (kd106.symm.trans kd121) (by decide)
                                    · skip
                                      have kd122 : gT.1 (gs.1 0) ≠ 147 := fun h9 => h120 (h9.trans (by decide))
                                      refine lv_if_eq (tgt := 109) hx hb dX12_isPart_95 (by decide) (fun c123 => ?_) (fun c123 => ?_)
                                      · skip
                                        have f124 : z115.toInt = 0 := b_eq rfl (by decide) c123
                                        refine lv_iconst (v := 0) hx hb dX12_isPart_109 (by decide) ?_
                                        exact W.zret (v := 0) hx hb hr rfl (fun t ht hW => ⟨⟨0, (), rfl, ⟨(by decide), (Or.inr ⟨rfl, fun h9 => by have h8 : ¬ gs.1 4 = 0 := fun q => absurd (em.1.mpr q) (by omega); unfold bgP at h9; omega⟩)⟩, by rw [ht]; exact hP, va_K.moved hW.alike hK, hD⟩, hS.F ht⟩) hS.2.2 dX12_isPart_110
                                      · skip
                                        have f125 : z115.toInt ≠ 0 := b_neq rfl (by decide) c123
                                        exfalso; omega
                              · skip
                                have kd126 : gT.1 (gs.1 0) ≠ 146 := fun h9 => h105 (h9.trans (by decide))
                                refine lv_if_eq (tgt := 89) hx hb dX12_isPart_79 (by decide) (fun c127 => ?_) (fun c127 => ?_)
                                · skip
                                  have f128 : z100.toInt = 0 := b_eq rfl (by decide) c127
                                  refine lv_aload_n hx hb dX12_isPart_89 rfl (lv_at hl 0 rfl) ?_
                                  refine lv_bipush (v := 19) hx hb dX12_isPart_90 (by decide) ?_
                                  have r129 : Int32.toInt 19 = 19 := by decide
                                  refine gA_int (gA_runV (As := [.int 19]) (rest := []) (ci := 12) (q0 := 0) hx hb hml hown hg hP hD hK hS hA hnw hgk (s_isWordA l D ks H.size ad kk V L 19 (bq) (gn) (gT) (gs) (gl) hMV (by decide) rel) w2027 w2029 w83 w172 w2030 rfl rfl hdV_yX12_isWord ⟨Nat.le_of_ble_eq_true rfl, Nat.le_of_ble_eq_true rfl⟩ rfl hl.1 rfl (Nat.le_of_ble_eq_true rfl) dX12_isPart_92 ⟨Nat.le_of_ble_eq_true rfl, Nat.le_of_ble_eq_true rfl⟩) hP hD hK hS hA (fun z130 u131 H locs w132 hP hD hK hS => ?_)
                                  obtain ⟨rgz130, t133⟩ := w132
                                  have rgz130 : 0 ≤ z130.toInt ∧ z130.toInt ≤ 1 := rgz130
                                  have t133 : (z130.toInt = 1 ∧ (gT).1 ((gs).1 0) = 128 + (Int32.toInt 19)) ∨ (z130.toInt = 0 ∧ (gT).1 ((gs).1 0) ≠ 128 + (Int32.toInt 19)) := t133
                                  rcases t133 with ⟨q134, h135⟩ | ⟨q134, h135⟩
                                  · skip
                                    have kd136 : gT.1 (gs.1 0) = 147 := h135.trans (by decide)
                                    refine lv_if_eq (tgt := 109) hx hb dX12_isPart_95 (by decide) (fun c137 => ?_) (fun c137 => ?_)
                                    · skip
                                      have f138 : z130.toInt = 0 := b_eq rfl (by decide) c137
                                      exfalso; omega
                                    · skip
                                      have f139 : z130.toInt ≠ 0 := b_neq rfl (by decide) c137
                                      refine lv_aload_n hx hb dX12_isPart_98 rfl (lv_at hl 0 rfl) ?_
                                      refine va_get (D := D) (ci := 12) (v := .int (V 0 52)) (C := RX12) (T := TX12) (N := 100) hx hb hg inX12 hown hK hP 0 rfl rfl 52 (by decide) (hg _ w1762) (fun _ h9 => h9) rfl dX12_isPart_99 ?_
                                      have r140 : 0 ≤ ((V 0 52)).toInt ∧ ((V 0 52)).toInt ≤ 1 := hMV 0 52
                                      refine lv_if_eq (tgt := 109) hx hb dX12_isPart_102 (by decide) (fun c141 => ?_) (fun c141 => ?_)
                                      · skip
                                        have f142 : ((V 0 52)).toInt = 0 := b_eq rfl (by decide) c141
                                        refine lv_iconst (v := 0) hx hb dX12_isPart_109 (by decide) ?_
                                        exact W.zret (v := 0) hx hb hr rfl (fun t ht hW => ⟨⟨0, (), rfl, ⟨(by decide), (Or.inr ⟨rfl, fun h9 => by have h8 : ¬ gs.1 4 = 2 := fun q => absurd (em.2.1.mpr q) (by omega); unfold bgP at h9; omega⟩)⟩, by rw [ht]; exact hP, va_K.moved hW.alike hK, hD⟩, hS.F ht⟩) hS.2.2 dX12_isPart_110
                                      · skip
                                        have f143 : ((V 0 52)).toInt ≠ 0 := b_neq rfl (by decide) c141
                                        refine lv_iconst (v := 1) hx hb dX12_isPart_105 (by decide) ?_
                                        refine lv_goto (tgt := 110) hx hb dX12_isPart_106 (by decide) ?_
                                        exact W.zret (v := 1) hx hb hr rfl (fun t ht hW => ⟨⟨1, (), rfl, ⟨(by decide), (Or.inl ⟨rfl, by have h9 := kd136; have h8 := em.2.1.mp (by omega); unfold bgP; omega⟩)⟩, by rw [ht]; exact hP, va_K.moved hW.alike hK, hD⟩, hS.F ht⟩) hS.2.2 dX12_isPart_110
                                  · skip
                                    have kd144 : gT.1 (gs.1 0) ≠ 147 := fun h9 => h135 (h9.trans (by decide))
                                    refine lv_if_eq (tgt := 109) hx hb dX12_isPart_95 (by decide) (fun c145 => ?_) (fun c145 => ?_)
                                    · skip
                                      have f146 : z130.toInt = 0 := b_eq rfl (by decide) c145
                                      refine lv_iconst (v := 0) hx hb dX12_isPart_109 (by decide) ?_
                                      exact W.zret (v := 0) hx hb hr rfl (fun t ht hW => ⟨⟨0, (), rfl, ⟨(by decide), (Or.inr ⟨rfl, fun h9 => by unfold bgP at h9; omega⟩)⟩, by rw [ht]; exact hP, va_K.moved hW.alike hK, hD⟩, hS.F ht⟩) hS.2.2 dX12_isPart_110
                                    · skip
                                      have f147 : z130.toInt ≠ 0 := b_neq rfl (by decide) c145
                                      exfalso; omega
                                · skip
                                  have f148 : z100.toInt ≠ 0 := b_neq rfl (by decide) c127
                                  exfalso; omega
abbrev r_s_partB : Room := { frames := 0, cells := 0, slots := 0, locals := 0 }
abbrev q_s_partB (D : va_G) (ks : KS) (ad : Nat → Nat) (kk : Nat → ClassId) (V : Vf) (L : Lf) (A : Nat → Prop) : Array Value → State → Outcome → State → Prop := va_Qv (fun (u : Vf × Lf) => rgd bM u.1 ∧ agr [(0, 7), (0, 8), (0, 48), (0, 50)] [35, 36, 37, 38, 45, 46, 47] V u.1 ∧ agL [35, 36, 37, 38, 45, 46, 47] L u.2 ∧ ((u.1 0 48).toInt = (V 0 48).toInt) ∧ ((u.1 0 50).toInt = (V 0 50).toInt) ∧ ((u.1 0 8).toInt = (V 0 8).toInt) ∧ (NoV 35 V u.1) ∧ (NoV 37 V u.1) ∧ (NoL 36 L u.2) ∧ (NoL 38 L u.2)) (fun u t => gq D A (mw ad kk ks.1 u.1 u.2) (mty kk) t) A
set_option maxHeartbeats 4000000 in
set_option maxRecDepth 100000 in
theorem s_partB (l : Launch) (D : va_G) (ks : KS) (sz : Nat) (ad : Nat → Nat) (kk : Nat → ClassId) (V : Vf) (L : Lf)  (hMV : rgd bM V) (bf : 1 ≤ (V 0 8).toInt) (bd : (V 0 50).toInt ≤ 8)  : Met l yX12_part (Cond.code yX12_part cX12_part 2 none :: GW) r_s_partB (va_Pc [.ref (ad 0)] (gp D ks (mw ad kk ks.1 V L) (mty kk) sz)) (q_s_partB D ks ad kk V L  (va_A (mw ad kk ks.1 V L) sz)) 0 0 (va_A (mw ad kk ks.1 V L) sz) := by
  refine g_met (q_s_partB D ks ad kk V L) (by decide) (Nat.le_of_ble_eq_true rfl) ?_
  intro p e s m below meth c A ls H locs hx hb hr hml hown hg hlocks hin hnw hgk hP hK hD hS hA hl
  have hown : s.vm.findClass RX12 = some m.cls := hown
  have hl : lv_has ls 2 [(0, .ref (ad 0))] := hl
  have hP : va_P D vwCl (mw ad kk ks.1 V L) H := hP
  have hD : va_D A (mw ad kk ks.1 V L) := hD
  have hK : va_K D vwCl (mty kk) s := hK
  have agV : agr [(0, 7), (0, 8), (0, 48), (0, 50)] [35, 36, 37, 38, 45, 46, 47] V V := agr.rf
  have alL : agL [35, 36, 37, 38, 45, 46, 47] L L := agL.rf
  have r1 : 0 ≤ ((V 0 8)).toInt ∧ ((V 0 8)).toInt ≤ 70000 := hMV 0 8
  have r2 : 0 ≤ ((V 0 50)).toInt ∧ ((V 0 50)).toInt ≤ 9 := hMV 0 50
  refine lv_aload_n hx hb dX12_part_0 rfl (lv_at hl 0 rfl) ?_
  refine va_get (D := D) (ci := 12) (v := .int (V 0 8)) (C := RX12) (T := TX12) (N := 100) hx hb hg inX12 hown hK hP 0 rfl rfl 8 (by decide) (hg _ w1718) (fun _ h9 => h9) rfl dX12_part_1 ?_
  refine lv_if_ne (tgt := 22) hx hb dX12_part_4 (by decide) (fun c3 => ?_) (fun c3 => ?_)
  · skip
    have f4 : ((V 0 8)).toInt ≠ 0 := b_neq rfl (by decide) c3
    refine lv_aload_n hx hb dX12_part_22 rfl (lv_at hl 0 rfl) ?_
    refine va_get (D := D) (ci := 12) (v := .int (V 0 8)) (C := RX12) (T := TX12) (N := 100) hx hb hg inX12 hown hK hP 0 rfl rfl 8 (by decide) (hg _ w1718) (fun _ h9 => h9) rfl dX12_part_23 ?_
    refine lv_if_ne (tgt := 43) hx hb dX12_part_26 (by decide) (fun c5 => ?_) (fun c5 => ?_)
    · skip
      have f6 : ((V 0 8)).toInt ≠ 0 := b_neq rfl (by decide) c5
      refine lv_aload_n hx hb dX12_part_43 rfl (lv_at hl 0 rfl) ?_
      refine lv_dup hx hb dX12_part_44 rfl ?_
      refine va_get (D := D) (ci := 12) (v := .int (V 0 50)) (C := RX12) (T := TX12) (N := 100) hx hb hg inX12 hown hK hP 0 rfl rfl 50 (by decide) (hg _ w1760) (fun _ h9 => h9) rfl dX12_part_45 ?_
      refine lv_iconst (v := 1) hx hb dX12_part_48 (by decide) ?_
      refine lv_iadd hx hb dX12_part_49 ?_
      refine lv_topi (fun z7 ez7 => ?_)
      have hz7 : z7.toInt = ((V 0 50)).toInt + 1 := i_add ez7 rfl (by decide) (by omega)
      refine va_put (D := D) (ci := 12) (v := .int z7) (ty := tyX12 50) (C := RX12) (T := TX12) (N := 100) hx hb hg inX12 tyX12 tyX12_ok nmX12 hown hK hP hD hS 0 rfl rfl 50 (by decide) (hg _ w1760) (fun _ h9 => h9) rfl (tyX12_ok 50 (by decide)) rfl rfl (Nat.le_of_ble_eq_true rfl) dX12_part_50 (fun H locs hP hD hS => ?_)
      obtain ⟨V8, hV8⟩ : ∃ z, z = up2 V 0 50 z7 := ⟨_, rfl⟩
      have hP : va_P D vwCl (mw ad kk ks.1 V8 L) H := by rw [hV8]; exact hP
      have hD : va_D A (mw ad kk ks.1 V8 L) := by rw [hV8]; exact hD
      have hMV8 : rgd bM V8 := hMV.put hV8 (show 0 ≤ z7.toInt ∧ z7.toInt ≤ 9 from by omega)
      have agV8 : agr [(0, 7), (0, 8), (0, 48), (0, 50)] [35, 36, 37, 38, 45, 46, 47] V V8 := agV.up hV8 rfl
      refine lv_aload_n hx hb dX12_part_53 rfl (lv_at hl 0 rfl) ?_
      refine va_get (D := D) (ci := 12) (v := .int (V8 0 8)) (C := RX12) (T := TX12) (N := 100) hx hb hg inX12 hown hK hP 0 rfl rfl 8 (by decide) (hg _ w1718) (fun _ h9 => h9) rfl dX12_part_54 ?_
      refine g_top (v := (V 0 8)) (up2_k hV8 (by decide)) ?_
      refine lv_if_ne (tgt := 72) hx hb dX12_part_57 (by decide) (fun c9 => ?_) (fun c9 => ?_)
      · skip
        have f10 : ((V 0 8)).toInt ≠ 0 := b_neq rfl (by decide) c9
        refine lv_aload_n hx hb dX12_part_72 rfl (lv_at hl 0 rfl) ?_
        refine lv_dup hx hb dX12_part_73 rfl ?_
        refine va_get (D := D) (ci := 12) (v := .int (V8 0 50)) (C := RX12) (T := TX12) (N := 100) hx hb hg inX12 hown hK hP 0 rfl rfl 50 (by decide) (hg _ w1760) (fun _ h9 => h9) rfl dX12_part_74 ?_
        refine g_top (v := z7) (up2_s hV8) ?_
        refine lv_iconst (v := 1) hx hb dX12_part_77 (by decide) ?_
        refine lv_isub hx hb dX12_part_78 ?_
        refine lv_topi (fun z11 ez11 => ?_)
        have hz11 : z11.toInt = z7.toInt - 1 := i_sub ez11 rfl (by decide) (by omega)
        refine va_put (D := D) (ci := 12) (v := .int z11) (ty := tyX12 50) (C := RX12) (T := TX12) (N := 100) hx hb hg inX12 tyX12 tyX12_ok nmX12 hown hK hP hD hS 0 rfl rfl 50 (by decide) (hg _ w1760) (fun _ h9 => h9) rfl (tyX12_ok 50 (by decide)) rfl rfl (Nat.le_of_ble_eq_true rfl) dX12_part_79 (fun H locs hP hD hS => ?_)
        obtain ⟨V12, hV12⟩ : ∃ z, z = up2 V8 0 50 z11 := ⟨_, rfl⟩
        have hP : va_P D vwCl (mw ad kk ks.1 V12 L) H := by rw [hV12]; exact hP
        have hD : va_D A (mw ad kk ks.1 V12 L) := by rw [hV12]; exact hD
        have hMV12 : rgd bM V12 := hMV8.put hV12 (show 0 ≤ z11.toInt ∧ z11.toInt ≤ 9 from by omega)
        have agV12 : agr [(0, 7), (0, 8), (0, 48), (0, 50)] [35, 36, 37, 38, 45, 46, 47] V V12 := agV8.up hV12 rfl
        have pq13 : (V12 0 48).toInt = ((V 0 48)).toInt := congrArg Int32.toInt ((up2_k hV12 (by decide)).trans (up2_k hV8 (by decide)))
        have r14 : 0 ≤ ((V 0 48)).toInt ∧ ((V 0 48)).toInt ≤ 10000 := hMV 0 48
        have pq15 : (V12 0 50).toInt = z11.toInt := congrArg Int32.toInt (up2_s hV12)
        have pq16 : (V12 0 8).toInt = ((V 0 8)).toInt := congrArg Int32.toInt ((up2_k hV12 (by decide)).trans (up2_k hV8 (by decide)))
        have rw17 : NoV 35 V V12 := (fun k => ((up2_o hV12 (by decide)).trans ((up2_o hV8 (by decide)).trans rfl)))
        have rw18 : NoV 37 V V12 := (fun k => ((up2_o hV12 (by decide)).trans ((up2_o hV8 (by decide)).trans rfl)))
        have rw19 : NoL 36 L L := (fun k => rfl)
        have rw20 : NoL 38 L L := (fun k => rfl)
        exact W.vret hx hb hr (fun t ht hW => ⟨⟨(V12, L), rfl, ⟨hMV12, agV12, alL, (show (V12 0 48).toInt = (V 0 48).toInt from by omega), (show (V12 0 50).toInt = (V 0 50).toInt from by omega), (show (V12 0 8).toInt = (V 0 8).toInt from by omega), rw17, rw18, rw19, rw20⟩, by rw [ht]; exact hP, va_K.moved hW.alike hK, hD⟩, hS.F ht⟩) hS.2.2 dX12_part_82
      · skip
        have f21 : ((V 0 8)).toInt = 0 := b_eq rfl (by decide) c9
        exfalso; omega
    · skip
      have f22 : ((V 0 8)).toInt = 0 := b_eq rfl (by decide) c5
      exfalso; omega
  · skip
    have f23 : ((V 0 8)).toInt = 0 := b_eq rfl (by decide) c3
    exfalso; omega
abbrev r_s_productB : Room := { frames := 2, cells := 0, slots := 0, locals := 43 }
abbrev q_s_productB (D : va_G) (ks : KS) (ad : Nat → Nat) (kk : Nat → ClassId) (V : Vf) (L : Lf) (A : Nat → Prop) : Array Value → State → Outcome → State → Prop := va_Qv (fun (u : Vf × Lf) => rgd bM u.1 ∧ agr [(0, 7), (0, 8), (0, 48), (0, 50)] [35, 36, 37, 38, 45, 46, 47] V u.1 ∧ agL [35, 36, 37, 38, 45, 46, 47] L u.2 ∧ ((u.1 0 48).toInt = (V 0 48).toInt) ∧ ((u.1 0 50).toInt = (V 0 50).toInt) ∧ ((u.1 0 8).toInt = (V 0 8).toInt) ∧ (NoV 35 V u.1) ∧ (NoV 37 V u.1) ∧ (NoL 36 L u.2) ∧ (NoL 38 L u.2)) (fun u t => gq D A (mw ad kk ks.1 u.1 u.2) (mty kk) t) A
set_option maxHeartbeats 4000000 in
set_option maxRecDepth 100000 in
theorem s_productB (l : Launch) (D : va_G) (ks : KS) (sz : Nat) (ad : Nat → Nat) (kk : Nat → ClassId) (V : Vf) (L : Lf)  (hMV : rgd bM V) (bf : 1 ≤ (V 0 8).toInt) (bd : (V 0 50).toInt ≤ 8)  : Met l yX12_product (Cond.code yX12_product cX12_product 2 none :: GW) r_s_productB (va_Pc [.ref (ad 0)] (gp D ks (mw ad kk ks.1 V L) (mty kk) sz)) (q_s_productB D ks ad kk V L  (va_A (mw ad kk ks.1 V L) sz)) 0 0 (va_A (mw ad kk ks.1 V L) sz) := by
  refine g_met (q_s_productB D ks ad kk V L) (by decide) (Nat.le_of_ble_eq_true rfl) ?_
  intro p e s m below meth c A ls H locs hx hb hr hml hown hg hlocks hin hnw hgk hP hK hD hS hA hl
  have hown : s.vm.findClass RX12 = some m.cls := hown
  have hl : lv_has ls 2 [(0, .ref (ad 0))] := hl
  have hP : va_P D vwCl (mw ad kk ks.1 V L) H := hP
  have hD : va_D A (mw ad kk ks.1 V L) := hD
  have hK : va_K D vwCl (mty kk) s := hK
  have agV : agr [(0, 7), (0, 8), (0, 48), (0, 50)] [35, 36, 37, 38, 45, 46, 47] V V := agr.rf
  have alL : agL [35, 36, 37, 38, 45, 46, 47] L L := agL.rf
  have r1 : 0 ≤ ((V 0 8)).toInt ∧ ((V 0 8)).toInt ≤ 70000 := hMV 0 8
  have r2 : 0 ≤ ((V 0 50)).toInt ∧ ((V 0 50)).toInt ≤ 9 := hMV 0 50
  refine lv_aload_n hx hb dX12_product_0 rfl (lv_at hl 0 rfl) ?_
  refine gA_void (gA_runV (As := []) (rest := []) (ci := 12) (q0 := 0) hx hb hml hown hg hP hD hK hS hA hnw hgk (s_partB l D ks H.size ad kk V L  hMV (show 1 ≤ (V 0 8).toInt from by omega) (show (V 0 50).toInt ≤ 8 from by omega)) w2132 w2134 w109 w172 w2135 rfl rfl hdV_yX12_part ⟨Nat.le_of_ble_eq_true rfl, Nat.le_of_ble_eq_true rfl⟩ rfl hl.1 rfl (Nat.le_of_ble_eq_true rfl) dX12_product_1 ⟨Nat.le_of_ble_eq_true rfl, Nat.le_of_ble_eq_true rfl⟩) hP hD hK hS hA (fun u4 H locs w5 hP hD hK hS => ?_)
  obtain ⟨V13, L14⟩ := u4
  obtain ⟨hMV13, ajV13, axL14, t6, t7, t8, t9, t10, t11, t12⟩ := w5
  have alL14 : agL [35, 36, 37, 38, 45, 46, 47] L L14 := agL.tr alL axL14 (by decide)
  have hP : va_P D vwCl (mw ad kk ks.1 V13 L14) H := hP
  have hD : va_D A (mw ad kk ks.1 V13 L14) := hD
  have hMV13 : rgd bM V13 := hMV13
  have ajV13 : agr [(0, 7), (0, 8), (0, 48), (0, 50)] [35, 36, 37, 38, 45, 46, 47] V V13 := ajV13
  have agV13 : agr [(0, 7), (0, 8), (0, 48), (0, 50)] [35, 36, 37, 38, 45, 46, 47] V V13 := agV.tr ajV13 (by decide) (by decide)
  have t6 : (V13 0 48).toInt = (V 0 48).toInt := t6
  have t7 : (V13 0 50).toInt = (V 0 50).toInt := t7
  have t8 : (V13 0 8).toInt = (V 0 8).toInt := t8
  have t9 : NoV 35 V V13 := t9
  have t10 : NoV 37 V V13 := t10
  have t11 : NoL 36 L L14 := t11
  have t12 : NoL 38 L L14 := t12
  have r15 : 0 ≤ ((V 0 48)).toInt ∧ ((V 0 48)).toInt ≤ 10000 := hMV 0 48
  have r16 : 0 ≤ ((V13 0 48)).toInt ∧ ((V13 0 48)).toInt ≤ 10000 := hMV13 0 48
  have r17 : 0 ≤ ((V13 0 50)).toInt ∧ ((V13 0 50)).toInt ≤ 9 := hMV13 0 50
  have r18 : 0 ≤ ((V13 0 8)).toInt ∧ ((V13 0 8)).toInt ≤ 70000 := hMV13 0 8
  have lp22 : ∀ (fulp22 : Nat) (g21 : Int) (V19 : Vf) (L20 : Lf) (H : Heap) (locs : List Loc) (ls : Array Slot), 0 ≤ g21 → (V19 0 8).toInt = (V 0 8).toInt → (V19 0 48).toInt = (V 0 48).toInt → (V19 0 50).toInt = (V 0 50).toInt → (NoV 35 V V19) → (NoV 37 V V19) → (NoL 36 L L20) → (NoL 38 L L20) → g21 < (fulp22 : Int) → agL [35, 36, 37, 38, 45, 46, 47] L L20 → agr [(0, 7), (0, 8), (0, 48), (0, 50)] [35, 36, 37, 38, 45, 46, 47] V13 V19 → rgd bM V19 → va_P D vwCl (mw ad kk ks.1 V19 L20) H → va_D A (mw ad kk ks.1 V19 L20) → va_S A s.heap H locs → lv_has ls 2 [(0, .ref (ad 0))] → W p l e r_s_productB s m ([.ref (ad 0)] : List Value).toArray below meth c H locs 0 0 (MQ below (q_s_productB D ks ad kk V L  A) ([.ref (ad 0)] : List Value).toArray s 0 0 A) (F0 m 4 ls []) := by
    intro fulp22
    induction fulp22 with
    | zero =>
      intro g21 V19 L20 H locs ls xlp22_0 xlp22_1 xlp22_2 xlp22_3 xlp22_4 xlp22_5 xlp22_6 xlp22_7 hn alL20 ajV19 hMV19 hP hD hS hl
      exfalso; omega
    | succ fulp22 ihlp22 =>
      intro g21 V19 L20 H locs ls xlp22_0 xlp22_1 xlp22_2 xlp22_3 xlp22_4 xlp22_5 xlp22_6 xlp22_7 hn alL20 ajV19 hMV19 hP hD hS hl
      have agV19 : agr [(0, 7), (0, 8), (0, 48), (0, 50)] [35, 36, 37, 38, 45, 46, 47] V V19 := agV13.tr ajV19 (by decide) (by decide)
      have r23 : 0 ≤ ((V19 0 8)).toInt ∧ ((V19 0 8)).toInt ≤ 70000 := hMV19 0 8
      have r24 : 0 ≤ ((V19 0 48)).toInt ∧ ((V19 0 48)).toInt ≤ 10000 := hMV19 0 48
      have r25 : 0 ≤ ((V19 0 50)).toInt ∧ ((V19 0 50)).toInt ≤ 9 := hMV19 0 50
      refine lv_aload_n hx hb dX12_product_4 rfl (lv_at hl 0 rfl) ?_
      refine lv_bipush (v := 42) hx hb dX12_product_5 (by decide) ?_
      have r26 : Int32.toInt 42 = 42 := by decide
      refine gA_int (gA_runV (As := [.int 42]) (rest := []) (ci := 12) (q0 := 0) hx hb hml hown hg hP hD hK hS hA hnw hgk (s_hasSignB l D ks H.size ad kk V19 L20 42 hMV19 (show 1 ≤ (V19 0 8).toInt from by omega)) w2071 w2073 w94 w172 w2074 rfl rfl hdV_yX12_hasSign ⟨Nat.le_of_ble_eq_true rfl, Nat.le_of_ble_eq_true rfl⟩ rfl hl.1 rfl (Nat.le_of_ble_eq_true rfl) dX12_product_7 ⟨Nat.le_of_ble_eq_true rfl, Nat.le_of_ble_eq_true rfl⟩) hP hD hK hS hA (fun z27 u28 H locs w29 hP hD hK hS => ?_)
      obtain ⟨V31, L32⟩ := u28
      obtain ⟨hMV31, ajV31, axL32, rgz27, t30⟩ := w29
      have axL32 : L20 = L32 := Eq.symm axL32
      subst axL32
      have hP : va_P D vwCl (mw ad kk ks.1 V31 L20) H := hP
      have hD : va_D A (mw ad kk ks.1 V31 L20) := hD
      have hMV31 : rgd bM V31 := hMV31
      have ajV31 : agr [(0, 7)] [] V19 V31 := ajV31
      have agV31 : agr [(0, 7), (0, 8), (0, 48), (0, 50)] [35, 36, 37, 38, 45, 46, 47] V V31 := agV19.tr ajV31 (by decide) (by decide)
      have rgz27 : 0 ≤ z27.toInt ∧ z27.toInt ≤ 0 := rgz27
      have t30 : (V31 0 8).toInt = (V19 0 8).toInt := t30
      have pq33 : (V31 0 8).toInt = ((V19 0 8)).toInt := congrArg Int32.toInt (ajV31 0 8 rfl)
      refine lv_if_eq (tgt := 28) hx hb dX12_product_10 (by decide) (fun c34 => ?_) (fun c34 => ?_)
      · skip
        have f35 : z27.toInt = 0 := b_eq rfl (by decide) c34
        have pq36 : (V31 0 48).toInt = ((V19 0 48)).toInt := congrArg Int32.toInt (ajV31 0 48 rfl)
        have pq37 : (V31 0 50).toInt = ((V19 0 50)).toInt := congrArg Int32.toInt (ajV31 0 50 rfl)
        have rw38 : NoV 35 V V31 := (fun k => ((ajV31 35 k rfl).trans (xlp22_4 k)))
        have rw39 : NoV 37 V V31 := (fun k => ((ajV31 37 k rfl).trans (xlp22_5 k)))
        have rw40 : NoL 36 L L20 := (fun k => (xlp22_6 k))
        have rw41 : NoL 38 L L20 := (fun k => (xlp22_7 k))
        exact W.vret hx hb hr (fun t ht hW => ⟨⟨(V31, L20), rfl, ⟨hMV31, agV31, alL20, (show (V31 0 48).toInt = (V 0 48).toInt from by omega), (show (V31 0 50).toInt = (V 0 50).toInt from by omega), (show (V31 0 8).toInt = (V 0 8).toInt from by omega), rw38, rw39, rw40, rw41⟩, by rw [ht]; exact hP, va_K.moved hW.alike hK, hD⟩, hS.F ht⟩) hS.2.2 dX12_product_28
      · skip
        have f42 : z27.toInt ≠ 0 := b_neq rfl (by decide) c34
        exfalso; omega
  have rw43 : NoV 35 V V13 := (fun k => ((t9 k).trans rfl))
  have rw44 : NoV 37 V V13 := (fun k => ((t10 k).trans rfl))
  have rw45 : NoL 36 L L14 := (fun k => ((t11 k).trans rfl))
  have rw46 : NoL 38 L L14 := (fun k => ((t12 k).trans rfl))
  exact lp22 ((1 + 1 : Int).toNat) 1 V13 L14 H locs ls (show 0 ≤ 1 from by omega) (show (V13 0 8).toInt = (V 0 8).toInt from by omega) (show (V13 0 48).toInt = (V 0 48).toInt from by omega) (show (V13 0 50).toInt = (V 0 50).toInt from by omega) rw43 rw44 rw45 rw46 (by omega) alL14 agr.rf hMV13 hP hD hS (lv_sub hl [0] rfl)
abbrev r_s_sumB : Room := { frames := 3, cells := 0, slots := 0, locals := 64 }
abbrev q_s_sumB (D : va_G) (ks : KS) (ad : Nat → Nat) (kk : Nat → ClassId) (V : Vf) (L : Lf) (A : Nat → Prop) : Array Value → State → Outcome → State → Prop := va_Qv (fun (u : Vf × Lf) => rgd bM u.1 ∧ agr [(0, 7), (0, 8), (0, 48), (0, 50)] [35, 36, 37, 38, 45, 46, 47] V u.1 ∧ agL [35, 36, 37, 38, 45, 46, 47] L u.2 ∧ ((u.1 0 48).toInt = (V 0 48).toInt) ∧ ((u.1 0 50).toInt = (V 0 50).toInt) ∧ ((u.1 0 8).toInt = (V 0 8).toInt) ∧ (NoV 35 V u.1) ∧ (NoV 37 V u.1) ∧ (NoL 36 L u.2) ∧ (NoL 38 L u.2)) (fun u t => gq D A (mw ad kk ks.1 u.1 u.2) (mty kk) t) A
set_option maxHeartbeats 4000000 in
set_option maxRecDepth 100000 in
theorem s_sumB (l : Launch) (D : va_G) (ks : KS) (sz : Nat) (ad : Nat → Nat) (kk : Nat → ClassId) (V : Vf) (L : Lf)  (hMV : rgd bM V) (bf : 1 ≤ (V 0 8).toInt) (bd : (V 0 50).toInt ≤ 8)  : Met l yX12_sum (Cond.code yX12_sum cX12_sum 3 none :: GW) r_s_sumB (va_Pc [.ref (ad 0)] (gp D ks (mw ad kk ks.1 V L) (mty kk) sz)) (q_s_sumB D ks ad kk V L  (va_A (mw ad kk ks.1 V L) sz)) 0 0 (va_A (mw ad kk ks.1 V L) sz) := by
  refine g_met (q_s_sumB D ks ad kk V L) (by decide) (Nat.le_of_ble_eq_true rfl) ?_
  intro p e s m below meth c A ls H locs hx hb hr hml hown hg hlocks hin hnw hgk hP hK hD hS hA hl
  have hown : s.vm.findClass RX12 = some m.cls := hown
  have hl : lv_has ls 3 [(0, .ref (ad 0))] := hl
  have hP : va_P D vwCl (mw ad kk ks.1 V L) H := hP
  have hD : va_D A (mw ad kk ks.1 V L) := hD
  have hK : va_K D vwCl (mty kk) s := hK
  have agV : agr [(0, 7), (0, 8), (0, 48), (0, 50)] [35, 36, 37, 38, 45, 46, 47] V V := agr.rf
  have alL : agL [35, 36, 37, 38, 45, 46, 47] L L := agL.rf
  have r1 : 0 ≤ ((V 0 8)).toInt ∧ ((V 0 8)).toInt ≤ 70000 := hMV 0 8
  have r2 : 0 ≤ ((V 0 50)).toInt ∧ ((V 0 50)).toInt ≤ 9 := hMV 0 50
  refine lv_aload_n hx hb dX12_sum_0 rfl (lv_at hl 0 rfl) ?_
  refine gA_void (gA_runV (As := []) (rest := []) (ci := 12) (q0 := 0) hx hb hml hown hg hP hD hK hS hA hnw hgk (s_productB l D ks H.size ad kk V L  hMV (show 1 ≤ (V 0 8).toInt from by omega) (show (V 0 50).toInt ≤ 8 from by omega)) w2128 w2130 w108 w172 w2131 rfl rfl hdV_yX12_product ⟨Nat.le_of_ble_eq_true rfl, Nat.le_of_ble_eq_true rfl⟩ rfl hl.1 rfl (Nat.le_of_ble_eq_true rfl) dX12_sum_1 ⟨Nat.le_of_ble_eq_true rfl, Nat.le_of_ble_eq_true rfl⟩) hP hD hK hS hA (fun u4 H locs w5 hP hD hK hS => ?_)
  obtain ⟨V13, L14⟩ := u4
  obtain ⟨hMV13, ajV13, axL14, t6, t7, t8, t9, t10, t11, t12⟩ := w5
  have alL14 : agL [35, 36, 37, 38, 45, 46, 47] L L14 := agL.tr alL axL14 (by decide)
  have hP : va_P D vwCl (mw ad kk ks.1 V13 L14) H := hP
  have hD : va_D A (mw ad kk ks.1 V13 L14) := hD
  have hMV13 : rgd bM V13 := hMV13
  have ajV13 : agr [(0, 7), (0, 8), (0, 48), (0, 50)] [35, 36, 37, 38, 45, 46, 47] V V13 := ajV13
  have agV13 : agr [(0, 7), (0, 8), (0, 48), (0, 50)] [35, 36, 37, 38, 45, 46, 47] V V13 := agV.tr ajV13 (by decide) (by decide)
  have t6 : (V13 0 48).toInt = (V 0 48).toInt := t6
  have t7 : (V13 0 50).toInt = (V 0 50).toInt := t7
  have t8 : (V13 0 8).toInt = (V 0 8).toInt := t8
  have t9 : NoV 35 V V13 := t9
  have t10 : NoV 37 V V13 := t10
  have t11 : NoL 36 L L14 := t11
  have t12 : NoL 38 L L14 := t12
  have r15 : 0 ≤ ((V 0 48)).toInt ∧ ((V 0 48)).toInt ≤ 10000 := hMV 0 48
  have r16 : 0 ≤ ((V13 0 48)).toInt ∧ ((V13 0 48)).toInt ≤ 10000 := hMV13 0 48
  have r17 : 0 ≤ ((V13 0 50)).toInt ∧ ((V13 0 50)).toInt ≤ 9 := hMV13 0 50
  have r18 : 0 ≤ ((V13 0 8)).toInt ∧ ((V13 0 8)).toInt ≤ 70000 := hMV13 0 8
  have lp22 : ∀ (fulp22 : Nat) (g21 : Int) (V19 : Vf) (L20 : Lf) (H : Heap) (locs : List Loc) (ls : Array Slot), 0 ≤ g21 → (V19 0 8).toInt = (V 0 8).toInt → (V19 0 48).toInt = (V 0 48).toInt → (V19 0 50).toInt = (V 0 50).toInt → (NoV 35 V V19) → (NoV 37 V V19) → (NoL 36 L L20) → (NoL 38 L L20) → (NoV 35 V V19) → (NoV 37 V V19) → (NoL 36 L L20) → (NoL 38 L L20) → g21 < (fulp22 : Int) → agL [35, 36, 37, 38, 45, 46, 47] L L20 → agr [(0, 7), (0, 8), (0, 48), (0, 50)] [35, 36, 37, 38, 45, 46, 47] V13 V19 → rgd bM V19 → va_P D vwCl (mw ad kk ks.1 V19 L20) H → va_D A (mw ad kk ks.1 V19 L20) → va_S A s.heap H locs → lv_has ls 3 [(0, .ref (ad 0))] → W p l e r_s_sumB s m ([.ref (ad 0)] : List Value).toArray below meth c H locs 0 0 (MQ below (q_s_sumB D ks ad kk V L  A) ([.ref (ad 0)] : List Value).toArray s 0 0 A) (F0 m 4 ls []) := by
    intro fulp22
    induction fulp22 with
    | zero =>
      intro g21 V19 L20 H locs ls xlp22_0 xlp22_1 xlp22_2 xlp22_3 xlp22_4 xlp22_5 xlp22_6 xlp22_7 xlp22_8 xlp22_9 xlp22_10 xlp22_11 hn alL20 ajV19 hMV19 hP hD hS hl
      exfalso; omega
    | succ fulp22 ihlp22 =>
      intro g21 V19 L20 H locs ls xlp22_0 xlp22_1 xlp22_2 xlp22_3 xlp22_4 xlp22_5 xlp22_6 xlp22_7 xlp22_8 xlp22_9 xlp22_10 xlp22_11 hn alL20 ajV19 hMV19 hP hD hS hl
      have agV19 : agr [(0, 7), (0, 8), (0, 48), (0, 50)] [35, 36, 37, 38, 45, 46, 47] V V19 := agV13.tr ajV19 (by decide) (by decide)
      have r23 : 0 ≤ ((V19 0 8)).toInt ∧ ((V19 0 8)).toInt ≤ 70000 := hMV19 0 8
      have r24 : 0 ≤ ((V19 0 48)).toInt ∧ ((V19 0 48)).toInt ≤ 10000 := hMV19 0 48
      have r25 : 0 ≤ ((V19 0 50)).toInt ∧ ((V19 0 50)).toInt ≤ 9 := hMV19 0 50
      refine lv_aload_n hx hb dX12_sum_4 rfl (lv_at hl 0 rfl) ?_
      refine lv_bipush (v := 43) hx hb dX12_sum_5 (by decide) ?_
      have r26 : Int32.toInt 43 = 43 := by decide
      refine gA_int (gA_runV (As := [.int 43]) (rest := []) (ci := 12) (q0 := 0) hx hb hml hown hg hP hD hK hS hA hnw hgk (s_isSignB l D ks H.size ad kk V19 L20 43 hMV19 (show 1 ≤ (V19 0 8).toInt from by omega)) w2075 w2077 w95 w172 w2078 rfl rfl hdV_yX12_isSign ⟨Nat.le_of_ble_eq_true rfl, Nat.le_of_ble_eq_true rfl⟩ rfl hl.1 rfl (Nat.le_of_ble_eq_true rfl) dX12_sum_7 ⟨Nat.le_of_ble_eq_true rfl, Nat.le_of_ble_eq_true rfl⟩) hP hD hK hS hA (fun z27 u28 H locs w29 hP hD hK hS => ?_)
      have rgz27 := w29
      have rgz27 : 0 ≤ z27.toInt ∧ z27.toInt ≤ 0 := rgz27
      refine lv_if_ne (tgt := 22) hx hb dX12_sum_10 (by decide) (fun c30 => ?_) (fun c30 => ?_)
      · skip
        have f31 : z27.toInt ≠ 0 := b_neq rfl (by decide) c30
        exfalso; omega
      · skip
        have f32 : z27.toInt = 0 := b_eq rfl (by decide) c30
        refine lv_aload_n hx hb dX12_sum_13 rfl (lv_at hl 0 rfl) ?_
        refine lv_bipush (v := 45) hx hb dX12_sum_14 (by decide) ?_
        have r33 : Int32.toInt 45 = 45 := by decide
        refine gA_int (gA_runV (As := [.int 45]) (rest := []) (ci := 12) (q0 := 0) hx hb hml hown hg hP hD hK hS hA hnw hgk (s_isSignB l D ks H.size ad kk V19 L20 45 hMV19 (show 1 ≤ (V19 0 8).toInt from by omega)) w2075 w2077 w95 w172 w2078 rfl rfl hdV_yX12_isSign ⟨Nat.le_of_ble_eq_true rfl, Nat.le_of_ble_eq_true rfl⟩ rfl hl.1 rfl (Nat.le_of_ble_eq_true rfl) dX12_sum_16 ⟨Nat.le_of_ble_eq_true rfl, Nat.le_of_ble_eq_true rfl⟩) hP hD hK hS hA (fun z34 u35 H locs w36 hP hD hK hS => ?_)
        have rgz34 := w36
        have rgz34 : 0 ≤ z34.toInt ∧ z34.toInt ≤ 0 := rgz34
        refine lv_if_eq (tgt := 64) hx hb dX12_sum_19 (by decide) (fun c37 => ?_) (fun c37 => ?_)
        · skip
          have f38 : z34.toInt = 0 := b_eq rfl (by decide) c37
          have rw39 : NoV 35 V V19 := (fun k => (xlp22_8 k))
          have rw40 : NoV 37 V V19 := (fun k => (xlp22_9 k))
          have rw41 : NoL 36 L L20 := (fun k => (xlp22_10 k))
          have rw42 : NoL 38 L L20 := (fun k => (xlp22_11 k))
          exact W.vret hx hb hr (fun t ht hW => ⟨⟨(V19, L20), rfl, ⟨hMV19, agV19, alL20, (show (V19 0 48).toInt = (V 0 48).toInt from by omega), (show (V19 0 50).toInt = (V 0 50).toInt from by omega), (show (V19 0 8).toInt = (V 0 8).toInt from by omega), rw39, rw40, rw41, rw42⟩, by rw [ht]; exact hP, va_K.moved hW.alike hK, hD⟩, hS.F ht⟩) hS.2.2 dX12_sum_64
        · skip
          have f43 : z34.toInt ≠ 0 := b_neq rfl (by decide) c37
          exfalso; omega
  have rw44 : NoV 35 V V13 := (fun k => ((t9 k).trans rfl))
  have rw45 : NoV 37 V V13 := (fun k => ((t10 k).trans rfl))
  have rw46 : NoL 36 L L14 := (fun k => ((t11 k).trans rfl))
  have rw47 : NoL 38 L L14 := (fun k => ((t12 k).trans rfl))
  have rw48 : NoV 35 V V13 := (fun k => ((t9 k).trans rfl))
  have rw49 : NoV 37 V V13 := (fun k => ((t10 k).trans rfl))
  have rw50 : NoL 36 L L14 := (fun k => ((t11 k).trans rfl))
  have rw51 : NoL 38 L L14 := (fun k => ((t12 k).trans rfl))
  exact lp22 ((1 + 1 : Int).toNat) 1 V13 L14 H locs ls (show 0 ≤ 1 from by omega) (show (V13 0 8).toInt = (V 0 8).toInt from by omega) (show (V13 0 48).toInt = (V 0 48).toInt from by omega) (show (V13 0 50).toInt = (V 0 50).toInt from by omega) rw44 rw45 rw46 rw47 rw48 rw49 rw50 rw51 (by omega) alL14 agr.rf hMV13 hP hD hS (lv_sub hl [0] rfl)
abbrev r_s_expressionB : Room := { frames := 4, cells := 0, slots := 0, locals := 86 }
abbrev q_s_expressionB (D : va_G) (ks : KS) (ad : Nat → Nat) (kk : Nat → ClassId) (V : Vf) (L : Lf) (A : Nat → Prop) : Array Value → State → Outcome → State → Prop := va_Qv (fun (u : Vf × Lf) => rgd bM u.1 ∧ agr [(0, 7), (0, 8), (0, 48), (0, 50)] [35, 36, 37, 38, 45, 46, 47] V u.1 ∧ agL [35, 36, 37, 38, 45, 46, 47] L u.2 ∧ ((u.1 0 48).toInt = (V 0 48).toInt) ∧ ((u.1 0 50).toInt = (V 0 50).toInt) ∧ ((u.1 0 8).toInt = (V 0 8).toInt) ∧ (NoV 35 V u.1) ∧ (NoV 37 V u.1) ∧ (NoL 36 L u.2) ∧ (NoL 38 L u.2)) (fun u t => gq D A (mw ad kk ks.1 u.1 u.2) (mty kk) t) A
set_option maxHeartbeats 4000000 in
set_option maxRecDepth 100000 in
theorem s_expressionB (l : Launch) (D : va_G) (ks : KS) (sz : Nat) (ad : Nat → Nat) (kk : Nat → ClassId) (V : Vf) (L : Lf)  (hMV : rgd bM V) (bf : 1 ≤ (V 0 8).toInt) (bd : (V 0 50).toInt ≤ 8)  : Met l yX12_expression (Cond.code yX12_expression cX12_expression 3 none :: GW) r_s_expressionB (va_Pc [.ref (ad 0)] (gp D ks (mw ad kk ks.1 V L) (mty kk) sz)) (q_s_expressionB D ks ad kk V L  (va_A (mw ad kk ks.1 V L) sz)) 0 0 (va_A (mw ad kk ks.1 V L) sz) := by
  refine g_met (q_s_expressionB D ks ad kk V L) (by decide) (Nat.le_of_ble_eq_true rfl) ?_
  intro p e s m below meth c A ls H locs hx hb hr hml hown hg hlocks hin hnw hgk hP hK hD hS hA hl
  have hown : s.vm.findClass RX12 = some m.cls := hown
  have hl : lv_has ls 3 [(0, .ref (ad 0))] := hl
  have hP : va_P D vwCl (mw ad kk ks.1 V L) H := hP
  have hD : va_D A (mw ad kk ks.1 V L) := hD
  have hK : va_K D vwCl (mty kk) s := hK
  have agV : agr [(0, 7), (0, 8), (0, 48), (0, 50)] [35, 36, 37, 38, 45, 46, 47] V V := agr.rf
  have alL : agL [35, 36, 37, 38, 45, 46, 47] L L := agL.rf
  have r1 : 0 ≤ ((V 0 8)).toInt ∧ ((V 0 8)).toInt ≤ 70000 := hMV 0 8
  have r2 : 0 ≤ ((V 0 50)).toInt ∧ ((V 0 50)).toInt ≤ 9 := hMV 0 50
  refine lv_aload_n hx hb dX12_expression_0 rfl (lv_at hl 0 rfl) ?_
  refine gA_void (gA_runV (As := []) (rest := []) (ci := 12) (q0 := 0) hx hb hml hown hg hP hD hK hS hA hnw hgk (s_sumB l D ks H.size ad kk V L  hMV (show 1 ≤ (V 0 8).toInt from by omega) (show (V 0 50).toInt ≤ 8 from by omega)) w2124 w2126 w107 w172 w2127 rfl rfl hdV_yX12_sum ⟨Nat.le_of_ble_eq_true rfl, Nat.le_of_ble_eq_true rfl⟩ rfl hl.1 rfl (Nat.le_of_ble_eq_true rfl) dX12_expression_1 ⟨Nat.le_of_ble_eq_true rfl, Nat.le_of_ble_eq_true rfl⟩) hP hD hK hS hA (fun u4 H locs w5 hP hD hK hS => ?_)
  obtain ⟨V13, L14⟩ := u4
  obtain ⟨hMV13, ajV13, axL14, t6, t7, t8, t9, t10, t11, t12⟩ := w5
  have alL14 : agL [35, 36, 37, 38, 45, 46, 47] L L14 := agL.tr alL axL14 (by decide)
  have hP : va_P D vwCl (mw ad kk ks.1 V13 L14) H := hP
  have hD : va_D A (mw ad kk ks.1 V13 L14) := hD
  have hMV13 : rgd bM V13 := hMV13
  have ajV13 : agr [(0, 7), (0, 8), (0, 48), (0, 50)] [35, 36, 37, 38, 45, 46, 47] V V13 := ajV13
  have agV13 : agr [(0, 7), (0, 8), (0, 48), (0, 50)] [35, 36, 37, 38, 45, 46, 47] V V13 := agV.tr ajV13 (by decide) (by decide)
  have t6 : (V13 0 48).toInt = (V 0 48).toInt := t6
  have t7 : (V13 0 50).toInt = (V 0 50).toInt := t7
  have t8 : (V13 0 8).toInt = (V 0 8).toInt := t8
  have t9 : NoV 35 V V13 := t9
  have t10 : NoV 37 V V13 := t10
  have t11 : NoL 36 L L14 := t11
  have t12 : NoL 38 L L14 := t12
  have r15 : 0 ≤ ((V 0 48)).toInt ∧ ((V 0 48)).toInt ≤ 10000 := hMV 0 48
  have r16 : 0 ≤ ((V13 0 48)).toInt ∧ ((V13 0 48)).toInt ≤ 10000 := hMV13 0 48
  have r17 : 0 ≤ ((V13 0 50)).toInt ∧ ((V13 0 50)).toInt ≤ 9 := hMV13 0 50
  have r18 : 0 ≤ ((V13 0 8)).toInt ∧ ((V13 0 8)).toInt ≤ 70000 := hMV13 0 8
  refine lv_aload_n hx hb dX12_expression_4 rfl (lv_at hl 0 rfl) ?_
  refine lv_bipush (v := 60) hx hb dX12_expression_5 (by decide) ?_
  have r19 : Int32.toInt 60 = 60 := by decide
  refine gA_int (gA_runV (As := [.int 60]) (rest := []) (ci := 12) (q0 := 0) hx hb hml hown hg hP hD hK hS hA hnw hgk (s_isSignB l D ks H.size ad kk V13 L14 60 hMV13 (show 1 ≤ (V13 0 8).toInt from by omega)) w2075 w2077 w95 w172 w2078 rfl rfl hdV_yX12_isSign ⟨Nat.le_of_ble_eq_true rfl, Nat.le_of_ble_eq_true rfl⟩ rfl hl.1 rfl (Nat.le_of_ble_eq_true rfl) dX12_expression_7 ⟨Nat.le_of_ble_eq_true rfl, Nat.le_of_ble_eq_true rfl⟩) hP hD hK hS hA (fun z20 u21 H locs w22 hP hD hK hS => ?_)
  have rgz20 := w22
  have rgz20 : 0 ≤ z20.toInt ∧ z20.toInt ≤ 0 := rgz20
  refine lv_istore_n (lv' := [(1, .int z20), (0, .ref (ad 0))]) hx hb dX12_expression_10 rfl hl (by decide) rfl (fun ls hl => ?_)
  refine lv_iload_n hx hb dX12_expression_11 rfl (lv_at hl 0 rfl) ?_
  refine lv_if_ne (tgt := 24) hx hb dX12_expression_12 (by decide) (fun c23 => ?_) (fun c23 => ?_)
  · skip
    have f24 : z20.toInt ≠ 0 := b_neq rfl (by decide) c23
    exfalso; omega
  · skip
    have f25 : z20.toInt = 0 := b_eq rfl (by decide) c23
    refine lv_aload_n hx hb dX12_expression_15 rfl (lv_at hl 1 rfl) ?_
    refine lv_bipush (v := 61) hx hb dX12_expression_16 (by decide) ?_
    have r26 : Int32.toInt 61 = 61 := by decide
    refine gA_int (gA_runV (As := [.int 61]) (rest := []) (ci := 12) (q0 := 0) hx hb hml hown hg hP hD hK hS hA hnw hgk (s_isSignB l D ks H.size ad kk V13 L14 61 hMV13 (show 1 ≤ (V13 0 8).toInt from by omega)) w2075 w2077 w95 w172 w2078 rfl rfl hdV_yX12_isSign ⟨Nat.le_of_ble_eq_true rfl, Nat.le_of_ble_eq_true rfl⟩ rfl hl.1 rfl (Nat.le_of_ble_eq_true rfl) dX12_expression_18 ⟨Nat.le_of_ble_eq_true rfl, Nat.le_of_ble_eq_true rfl⟩) hP hD hK hS hA (fun z27 u28 H locs w29 hP hD hK hS => ?_)
    have rgz27 := w29
    have rgz27 : 0 ≤ z27.toInt ∧ z27.toInt ≤ 0 := rgz27
    refine lv_if_eq (tgt := 56) hx hb dX12_expression_21 (by decide) (fun c30 => ?_) (fun c30 => ?_)
    · skip
      have f31 : z27.toInt = 0 := b_eq rfl (by decide) c30
      have rw32 : NoV 35 V V13 := (fun k => ((t9 k).trans rfl))
      have rw33 : NoV 37 V V13 := (fun k => ((t10 k).trans rfl))
      have rw34 : NoL 36 L L14 := (fun k => ((t11 k).trans rfl))
      have rw35 : NoL 38 L L14 := (fun k => ((t12 k).trans rfl))
      exact W.vret hx hb hr (fun t ht hW => ⟨⟨(V13, L14), rfl, ⟨hMV13, agV13, alL14, (show (V13 0 48).toInt = (V 0 48).toInt from by omega), (show (V13 0 50).toInt = (V 0 50).toInt from by omega), (show (V13 0 8).toInt = (V 0 8).toInt from by omega), rw32, rw33, rw34, rw35⟩, by rw [ht]; exact hP, va_K.moved hW.alike hK, hD⟩, hS.F ht⟩) hS.2.2 dX12_expression_56
    · skip
      have f36 : z27.toInt ≠ 0 := b_neq rfl (by decide) c30
      exfalso; omega
abbrev r_s_bracketedB : Room := { frames := 5, cells := 0, slots := 0, locals := 108 }
abbrev q_s_bracketedB (D : va_G) (ks : KS) (ad : Nat → Nat) (kk : Nat → ClassId) (V : Vf) (L : Lf) (A : Nat → Prop) : Array Value → State → Outcome → State → Prop := va_Qv (fun (u : Vf × Lf) => rgd bM u.1 ∧ agr [(0, 7), (0, 8), (0, 48), (0, 50)] [35, 36, 37, 38, 45, 46, 47] V u.1 ∧ agL [35, 36, 37, 38, 45, 46, 47] L u.2 ∧ ((u.1 0 48).toInt = (V 0 48).toInt) ∧ ((u.1 0 50).toInt = (V 0 50).toInt) ∧ ((u.1 0 8).toInt = (V 0 8).toInt) ∧ (NoV 35 V u.1) ∧ (NoV 37 V u.1) ∧ (NoL 36 L u.2) ∧ (NoL 38 L u.2)) (fun u t => gq D A (mw ad kk ks.1 u.1 u.2) (mty kk) t) A
set_option maxHeartbeats 4000000 in
set_option maxRecDepth 100000 in
theorem s_bracketedB (l : Launch) (D : va_G) (ks : KS) (sz : Nat) (ad : Nat → Nat) (kk : Nat → ClassId) (V : Vf) (L : Lf)  (hMV : rgd bM V) (bf : 1 ≤ (V 0 8).toInt) (bd : (V 0 50).toInt ≤ 8)  : Met l yX12_bracketed (Cond.code yX12_bracketed cX12_bracketed 1 none :: GW) r_s_bracketedB (va_Pc [.ref (ad 0)] (gp D ks (mw ad kk ks.1 V L) (mty kk) sz)) (q_s_bracketedB D ks ad kk V L  (va_A (mw ad kk ks.1 V L) sz)) 0 0 (va_A (mw ad kk ks.1 V L) sz) := by
  refine g_met (q_s_bracketedB D ks ad kk V L) (by decide) (Nat.le_of_ble_eq_true rfl) ?_
  intro p e s m below meth c A ls H locs hx hb hr hml hown hg hlocks hin hnw hgk hP hK hD hS hA hl
  have hown : s.vm.findClass RX12 = some m.cls := hown
  have hl : lv_has ls 1 [(0, .ref (ad 0))] := hl
  have hP : va_P D vwCl (mw ad kk ks.1 V L) H := hP
  have hD : va_D A (mw ad kk ks.1 V L) := hD
  have hK : va_K D vwCl (mty kk) s := hK
  have agV : agr [(0, 7), (0, 8), (0, 48), (0, 50)] [35, 36, 37, 38, 45, 46, 47] V V := agr.rf
  have alL : agL [35, 36, 37, 38, 45, 46, 47] L L := agL.rf
  have r1 : 0 ≤ ((V 0 8)).toInt ∧ ((V 0 8)).toInt ≤ 70000 := hMV 0 8
  have r2 : 0 ≤ ((V 0 50)).toInt ∧ ((V 0 50)).toInt ≤ 9 := hMV 0 50
  refine lv_aload_n hx hb dX12_bracketed_0 rfl (lv_at hl 0 rfl) ?_
  refine lv_bipush (v := 40) hx hb dX12_bracketed_1 (by decide) ?_
  have r3 : Int32.toInt 40 = 40 := by decide
  refine gA_void (gA_runV (As := [.int 40]) (rest := []) (ci := 12) (q0 := 0) hx hb hml hown hg hP hD hK hS hA hnw hgk (s_takeSignB l D ks H.size ad kk V L 40 hMV (show 1 ≤ (V 0 8).toInt from by omega)) w2079 w2081 w96 w172 w2082 rfl rfl hdV_yX12_takeSign ⟨Nat.le_of_ble_eq_true rfl, Nat.le_of_ble_eq_true rfl⟩ rfl hl.1 rfl (Nat.le_of_ble_eq_true rfl) dX12_bracketed_3 ⟨Nat.le_of_ble_eq_true rfl, Nat.le_of_ble_eq_true rfl⟩) hP hD hK hS hA (fun u5 H locs w6 hP hD hK hS => ?_)
  obtain ⟨V8, L9⟩ := u5
  obtain ⟨hMV8, ajV8, axL9, t7⟩ := w6
  have axL9 : L = L9 := Eq.symm axL9
  subst axL9
  have hP : va_P D vwCl (mw ad kk ks.1 V8 L) H := hP
  have hD : va_D A (mw ad kk ks.1 V8 L) := hD
  have hMV8 : rgd bM V8 := hMV8
  have ajV8 : agr [(0, 7), (0, 8)] [] V V8 := ajV8
  have agV8 : agr [(0, 7), (0, 8), (0, 48), (0, 50)] [35, 36, 37, 38, 45, 46, 47] V V8 := agV.tr ajV8 (by decide) (by decide)
  have t7 : (V8 0 8).toInt = (V 0 8).toInt := t7
  have r10 : 0 ≤ ((V8 0 8)).toInt ∧ ((V8 0 8)).toInt ≤ 70000 := hMV8 0 8
  refine lv_aload_n hx hb dX12_bracketed_6 rfl (lv_at hl 0 rfl) ?_
  have pq11 : (V8 0 50).toInt = ((V 0 50)).toInt := congrArg Int32.toInt (ajV8 0 50 rfl)
  refine gA_void (gA_runV (As := []) (rest := []) (ci := 12) (q0 := 0) hx hb hml hown hg hP hD hK hS hA hnw hgk (s_expressionB l D ks H.size ad kk V8 L  hMV8 (show 1 ≤ (V8 0 8).toInt from by omega) (show (V8 0 50).toInt ≤ 8 from by omega)) w2120 w2122 w106 w172 w2123 rfl rfl hdV_yX12_expression ⟨Nat.le_of_ble_eq_true rfl, Nat.le_of_ble_eq_true rfl⟩ rfl hl.1 rfl (Nat.le_of_ble_eq_true rfl) dX12_bracketed_7 ⟨Nat.le_of_ble_eq_true rfl, Nat.le_of_ble_eq_true rfl⟩) hP hD hK hS hA (fun u13 H locs w14 hP hD hK hS => ?_)
  obtain ⟨V22, L23⟩ := u13
  obtain ⟨hMV22, ajV22, axL23, t15, t16, t17, t18, t19, t20, t21⟩ := w14
  have alL23 : agL [35, 36, 37, 38, 45, 46, 47] L L23 := agL.tr alL axL23 (by decide)
  have hP : va_P D vwCl (mw ad kk ks.1 V22 L23) H := hP
  have hD : va_D A (mw ad kk ks.1 V22 L23) := hD
  have hMV22 : rgd bM V22 := hMV22
  have ajV22 : agr [(0, 7), (0, 8), (0, 48), (0, 50)] [35, 36, 37, 38, 45, 46, 47] V8 V22 := ajV22
  have agV22 : agr [(0, 7), (0, 8), (0, 48), (0, 50)] [35, 36, 37, 38, 45, 46, 47] V V22 := agV8.tr ajV22 (by decide) (by decide)
  have t15 : (V22 0 48).toInt = (V8 0 48).toInt := t15
  have t16 : (V22 0 50).toInt = (V8 0 50).toInt := t16
  have t17 : (V22 0 8).toInt = (V8 0 8).toInt := t17
  have t18 : NoV 35 V8 V22 := t18
  have t19 : NoV 37 V8 V22 := t19
  have t20 : NoL 36 L L23 := t20
  have t21 : NoL 38 L L23 := t21
  have pq24 : (V8 0 48).toInt = ((V 0 48)).toInt := congrArg Int32.toInt (ajV8 0 48 rfl)
  have r25 : 0 ≤ ((V 0 48)).toInt ∧ ((V 0 48)).toInt ≤ 10000 := hMV 0 48
  have r26 : 0 ≤ ((V22 0 48)).toInt ∧ ((V22 0 48)).toInt ≤ 10000 := hMV22 0 48
  have r27 : 0 ≤ ((V22 0 50)).toInt ∧ ((V22 0 50)).toInt ≤ 9 := hMV22 0 50
  have r28 : 0 ≤ ((V22 0 8)).toInt ∧ ((V22 0 8)).toInt ≤ 70000 := hMV22 0 8
  refine lv_aload_n hx hb dX12_bracketed_10 rfl (lv_at hl 0 rfl) ?_
  refine lv_bipush (v := 41) hx hb dX12_bracketed_11 (by decide) ?_
  have r29 : Int32.toInt 41 = 41 := by decide
  refine gA_void (gA_runV (As := [.int 41]) (rest := []) (ci := 12) (q0 := 0) hx hb hml hown hg hP hD hK hS hA hnw hgk (s_takeSignB l D ks H.size ad kk V22 L23 41 hMV22 (show 1 ≤ (V22 0 8).toInt from by omega)) w2079 w2081 w96 w172 w2082 rfl rfl hdV_yX12_takeSign ⟨Nat.le_of_ble_eq_true rfl, Nat.le_of_ble_eq_true rfl⟩ rfl hl.1 rfl (Nat.le_of_ble_eq_true rfl) dX12_bracketed_13 ⟨Nat.le_of_ble_eq_true rfl, Nat.le_of_ble_eq_true rfl⟩) hP hD hK hS hA (fun u31 H locs w32 hP hD hK hS => ?_)
  obtain ⟨V34, L35⟩ := u31
  obtain ⟨hMV34, ajV34, axL35, t33⟩ := w32
  have axL35 : L23 = L35 := Eq.symm axL35
  subst axL35
  have hP : va_P D vwCl (mw ad kk ks.1 V34 L23) H := hP
  have hD : va_D A (mw ad kk ks.1 V34 L23) := hD
  have hMV34 : rgd bM V34 := hMV34
  have ajV34 : agr [(0, 7), (0, 8)] [] V22 V34 := ajV34
  have agV34 : agr [(0, 7), (0, 8), (0, 48), (0, 50)] [35, 36, 37, 38, 45, 46, 47] V V34 := agV22.tr ajV34 (by decide) (by decide)
  have t33 : (V34 0 8).toInt = (V22 0 8).toInt := t33
  have r36 : 0 ≤ ((V34 0 8)).toInt ∧ ((V34 0 8)).toInt ≤ 70000 := hMV34 0 8
  have pq37 : (V34 0 48).toInt = ((V22 0 48)).toInt := congrArg Int32.toInt (ajV34 0 48 rfl)
  have pq38 : (V34 0 50).toInt = ((V22 0 50)).toInt := congrArg Int32.toInt (ajV34 0 50 rfl)
  have rw39 : NoV 35 V V34 := (fun k => ((ajV34 35 k rfl).trans ((t18 k).trans ((ajV8 35 k rfl).trans rfl))))
  have rw40 : NoV 37 V V34 := (fun k => ((ajV34 37 k rfl).trans ((t19 k).trans ((ajV8 37 k rfl).trans rfl))))
  have rw41 : NoL 36 L L23 := (fun k => ((t20 k).trans rfl))
  have rw42 : NoL 38 L L23 := (fun k => ((t21 k).trans rfl))
  exact W.vret hx hb hr (fun t ht hW => ⟨⟨(V34, L23), rfl, ⟨hMV34, agV34, alL23, (show (V34 0 48).toInt = (V 0 48).toInt from by omega), (show (V34 0 50).toInt = (V 0 50).toInt from by omega), (show (V34 0 8).toInt = (V 0 8).toInt from by omega), rw39, rw40, rw41, rw42⟩, by rw [ht]; exact hP, va_K.moved hW.alike hK, hD⟩, hS.F ht⟩) hS.2.2 dX12_bracketed_16
abbrev r_s_codeB : Room := { frames := 5, cells := 0, slots := 0, locals := 108 }
abbrev q_s_codeB (D : va_G) (ks : KS) (ad : Nat → Nat) (kk : Nat → ClassId) (V : Vf) (L : Lf) (A : Nat → Prop) : Array Value → State → Outcome → State → Prop := va_Qi (fun (r : Int32) (u : Vf × Lf) => rgd bM u.1 ∧ agr [(0, 7), (0, 8), (0, 48), (0, 50)] [35, 36, 37, 38, 45, 46, 47] V u.1 ∧ agL [35, 36, 37, 38, 45, 46, 47] L u.2 ∧ (0 ≤ r.toInt ∧ r.toInt ≤ 20000) ∧ ((u.1 0 48).toInt = (V 0 48).toInt + 1) ∧ ((u.1 0 8).toInt = (V 0 8).toInt) ∧ (NoV 35 V u.1) ∧ (NoV 37 V u.1) ∧ (NoL 36 L u.2) ∧ (NoL 38 L u.2)) (fun u t => gq D A (mw ad kk ks.1 u.1 u.2) (mty kk) t) A
set_option maxHeartbeats 4000000 in
set_option maxRecDepth 100000 in
theorem s_codeB (l : Launch) (D : va_G) (ks : KS) (sz : Nat) (ad : Nat → Nat) (kk : Nat → ClassId) (V : Vf) (L : Lf)  (hMV : rgd bM V) (bf : 1 ≤ (V 0 8).toInt) (bc : (V 0 48).toInt ≤ 9000)  : Met l yX12_code (Cond.code yX12_code cX12_code 3 (some .int) :: GW) r_s_codeB (va_Pc [.ref (ad 0)] (gp D ks (mw ad kk ks.1 V L) (mty kk) sz)) (q_s_codeB D ks ad kk V L  (va_A (mw ad kk ks.1 V L) sz)) 0 0 (va_A (mw ad kk ks.1 V L) sz) := by
  refine g_met (q_s_codeB D ks ad kk V L) (by decide) (Nat.le_of_ble_eq_true rfl) ?_
  intro p e s m below meth c A ls H locs hx hb hr hml hown hg hlocks hin hnw hgk hP hK hD hS hA hl
  have hown : s.vm.findClass RX12 = some m.cls := hown
  have hl : lv_has ls 3 [(0, .ref (ad 0))] := hl
  have hP : va_P D vwCl (mw ad kk ks.1 V L) H := hP
  have hD : va_D A (mw ad kk ks.1 V L) := hD
  have hK : va_K D vwCl (mty kk) s := hK
  have agV : agr [(0, 7), (0, 8), (0, 48), (0, 50)] [35, 36, 37, 38, 45, 46, 47] V V := agr.rf
  have alL : agL [35, 36, 37, 38, 45, 46, 47] L L := agL.rf
  have r1 : 0 ≤ ((V 0 8)).toInt ∧ ((V 0 8)).toInt ≤ 70000 := hMV 0 8
  have r2 : 0 ≤ ((V 0 48)).toInt ∧ ((V 0 48)).toInt ≤ 10000 := hMV 0 48
  refine lv_aload_n hx hb dX12_code_0 rfl (lv_at hl 0 rfl) ?_
  refine va_get (D := D) (ci := 12) (v := .int (V 0 49)) (C := RX12) (T := TX12) (N := 100) hx hb hg inX12 hown hK hP 0 rfl rfl 49 (by decide) (hg _ w1759) (fun _ h9 => h9) rfl dX12_code_1 ?_
  have r3 : 0 ≤ ((V 0 49)).toInt ∧ ((V 0 49)).toInt ≤ 10000 := hMV 0 49
  refine lv_aload_n hx hb dX12_code_4 rfl (lv_at hl 0 rfl) ?_
  refine va_get (D := D) (ci := 12) (v := .int (V 0 48)) (C := RX12) (T := TX12) (N := 100) hx hb hg inX12 hown hK hP 0 rfl rfl 48 (by decide) (hg _ w1758) (fun _ h9 => h9) rfl dX12_code_5 ?_
  refine lv_iadd hx hb dX12_code_8 ?_
  refine lv_topi (fun z4 ez4 => ?_)
  have hz4 : z4.toInt = ((V 0 49)).toInt + ((V 0 48)).toInt := i_add ez4 rfl rfl (by omega)
  refine lv_istore_n (lv' := [(1, .int z4), (0, .ref (ad 0))]) hx hb dX12_code_9 rfl hl (by decide) rfl (fun ls hl => ?_)
  refine lv_aload_n hx hb dX12_code_10 rfl (lv_at hl 1 rfl) ?_
  refine lv_iconst (v := 0) hx hb dX12_code_11 (by decide) ?_
  refine va_put (D := D) (ci := 12) (v := .int 0) (ty := tyX12 50) (C := RX12) (T := TX12) (N := 100) hx hb hg inX12 tyX12 tyX12_ok nmX12 hown hK hP hD hS 0 rfl rfl 50 (by decide) (hg _ w1760) (fun _ h9 => h9) rfl (tyX12_ok 50 (by decide)) rfl rfl (Nat.le_of_ble_eq_true rfl) dX12_code_12 (fun H locs hP hD hS => ?_)
  obtain ⟨V5, hV5⟩ : ∃ z, z = up2 V 0 50 0 := ⟨_, rfl⟩
  have hP : va_P D vwCl (mw ad kk ks.1 V5 L) H := by rw [hV5]; exact hP
  have hD : va_D A (mw ad kk ks.1 V5 L) := by rw [hV5]; exact hD
  have hMV5 : rgd bM V5 := hMV.put hV5 (by decide)
  have agV5 : agr [(0, 7), (0, 8), (0, 48), (0, 50)] [35, 36, 37, 38, 45, 46, 47] V V5 := agV.up hV5 rfl
  refine lv_aload_n hx hb dX12_code_15 rfl (lv_at hl 1 rfl) ?_
  have pq6 : (V5 0 8).toInt = ((V 0 8)).toInt := congrArg Int32.toInt (up2_k hV5 (by decide))
  have pq7 : (V5 0 50).toInt = 0 := (congrArg Int32.toInt (up2_s hV5)).trans (by decide)
  refine gA_void (gA_runV (As := []) (rest := []) (ci := 12) (q0 := 0) hx hb hml hown hg hP hD hK hS hA hnw hgk (s_expressionB l D ks H.size ad kk V5 L  hMV5 (show 1 ≤ (V5 0 8).toInt from by omega) (show (V5 0 50).toInt ≤ 8 from by omega)) w2120 w2122 w106 w172 w2123 rfl rfl hdV_yX12_expression ⟨Nat.le_of_ble_eq_true rfl, Nat.le_of_ble_eq_true rfl⟩ rfl hl.1 rfl (Nat.le_of_ble_eq_true rfl) dX12_code_16 ⟨Nat.le_of_ble_eq_true rfl, Nat.le_of_ble_eq_true rfl⟩) hP hD hK hS hA (fun u9 H locs w10 hP hD hK hS => ?_)
  obtain ⟨V18, L19⟩ := u9
  obtain ⟨hMV18, ajV18, axL19, t11, t12, t13, t14, t15, t16, t17⟩ := w10
  have alL19 : agL [35, 36, 37, 38, 45, 46, 47] L L19 := agL.tr alL axL19 (by decide)
  have hP : va_P D vwCl (mw ad kk ks.1 V18 L19) H := hP
  have hD : va_D A (mw ad kk ks.1 V18 L19) := hD
  have hMV18 : rgd bM V18 := hMV18
  have ajV18 : agr [(0, 7), (0, 8), (0, 48), (0, 50)] [35, 36, 37, 38, 45, 46, 47] V5 V18 := ajV18
  have agV18 : agr [(0, 7), (0, 8), (0, 48), (0, 50)] [35, 36, 37, 38, 45, 46, 47] V V18 := agV5.tr ajV18 (by decide) (by decide)
  have t11 : (V18 0 48).toInt = (V5 0 48).toInt := t11
  have t12 : (V18 0 50).toInt = (V5 0 50).toInt := t12
  have t13 : (V18 0 8).toInt = (V5 0 8).toInt := t13
  have t14 : NoV 35 V5 V18 := t14
  have t15 : NoV 37 V5 V18 := t15
  have t16 : NoL 36 L L19 := t16
  have t17 : NoL 38 L L19 := t17
  have pq20 : (V5 0 48).toInt = ((V 0 48)).toInt := congrArg Int32.toInt (up2_k hV5 (by decide))
  have r21 : 0 ≤ ((V18 0 48)).toInt ∧ ((V18 0 48)).toInt ≤ 10000 := hMV18 0 48
  have r22 : 0 ≤ ((V18 0 50)).toInt ∧ ((V18 0 50)).toInt ≤ 9 := hMV18 0 50
  have r23 : 0 ≤ ((V18 0 8)).toInt ∧ ((V18 0 8)).toInt ≤ 70000 := hMV18 0 8
  refine lv_aload_n hx hb dX12_code_19 rfl (lv_at hl 1 rfl) ?_
  refine lv_iconst (v := 0) hx hb dX12_code_20 (by decide) ?_
  refine lv_iconst (v := 0) hx hb dX12_code_21 (by decide) ?_
  refine lv_iconst (v := 0) hx hb dX12_code_22 (by decide) ?_
  have r24 : Int32.toInt 0 = 0 := by decide
  refine gA_int (gA_runV (As := [.int 0, .int 0, .int 0]) (rest := []) (ci := 12) (q0 := 0) hx hb hml hown hg hP hD hK hS hA hnw hgk (s_emit3 l D ks H.size ad kk V18 L19 0 0 0 hMV18 (show (V18 0 48).toInt ≤ 9999 from by omega)) w2140 w2142 w111 w172 w2143 rfl rfl hdV_yX12_emit ⟨Nat.le_of_ble_eq_true rfl, Nat.le_of_ble_eq_true rfl⟩ rfl hl.1 rfl (Nat.le_of_ble_eq_true rfl) dX12_code_23 ⟨Nat.le_of_ble_eq_true rfl, Nat.le_of_ble_eq_true rfl⟩) hP hD hK hS hA (fun z25 u26 H locs w27 hP hD hK hS => ?_)
  obtain ⟨V31, L32⟩ := u26
  obtain ⟨hMV31, ajV31, axL32, rgz25, t28, t29, t30⟩ := w27
  have axL32 : L19 = L32 := Eq.symm axL32
  subst axL32
  have hP : va_P D vwCl (mw ad kk ks.1 V31 L19) H := hP
  have hD : va_D A (mw ad kk ks.1 V31 L19) := hD
  have hMV31 : rgd bM V31 := hMV31
  have ajV31 : agr [(0, 48)] [45, 46, 47] V18 V31 := ajV31
  have agV31 : agr [(0, 7), (0, 8), (0, 48), (0, 50)] [35, 36, 37, 38, 45, 46, 47] V V31 := agV18.tr ajV31 (by decide) (by decide)
  have rgz25 : 0 ≤ z25.toInt ∧ z25.toInt ≤ 20000 := rgz25
  have t28 : (V31 0 48).toInt = (V18 0 48).toInt + 1 := t28
  have t29 : z25.toInt = (V18 0 49).toInt + (V18 0 48).toInt := t29
  have t30 : emitted V18 V31 (pA V18) 0 0 0 := t30
  have r33 : 0 ≤ ((V31 0 48)).toInt ∧ ((V31 0 48)).toInt ≤ 10000 := hMV31 0 48
  have pq34 : (V18 0 49).toInt = ((V 0 49)).toInt := congrArg Int32.toInt ((ajV18 0 49 rfl).trans (up2_k hV5 (by decide)))
  refine lv_istore_n (lv' := [(2, .int z25), (1, .int z4), (0, .ref (ad 0))]) hx hb dX12_code_26 rfl hl (by decide) rfl (fun ls hl => ?_)
  refine lv_iload_n hx hb dX12_code_27 rfl (lv_at hl 1 rfl) ?_
  have pq35 : (V31 0 8).toInt = ((V18 0 8)).toInt := congrArg Int32.toInt (ajV31 0 8 rfl)
  have rw36 : NoV 35 V V31 := (fun k => ((ajV31 35 k rfl).trans ((t14 k).trans ((up2_o hV5 (by decide)).trans rfl))))
  have rw37 : NoV 37 V V31 := (fun k => ((ajV31 37 k rfl).trans ((t15 k).trans ((up2_o hV5 (by decide)).trans rfl))))
  have rw38 : NoL 36 L L19 := (fun k => ((t16 k).trans rfl))
  have rw39 : NoL 38 L L19 := (fun k => ((t17 k).trans rfl))
  exact W.iret (v := z4) hx hb hr (fun t ht hW => ⟨⟨z4, (V31, L19), rfl, ⟨hMV31, agV31, alL19, (show 0 ≤ z4.toInt ∧ z4.toInt ≤ 20000 from by omega), (show (V31 0 48).toInt = (V 0 48).toInt + 1 from by omega), (show (V31 0 8).toInt = (V 0 8).toInt from by omega), rw36, rw37, rw38, rw39⟩, by rw [ht]; exact hP, va_K.moved hW.alike hK, hD⟩, hS.F ht⟩) hS.2.2 dX12_code_28
abbrev q_s_expressionA (D : va_G) (ks : KS) (ad : Nat → Nat) (kk : Nat → ClassId) (V : Vf) (L : Lf) (bq : Nat) (gn : Nat) (gT : Tk) (gs : St) (gl : List Int64) (gd : Nat) (A : Nat → Prop) : Array Value → State → Outcome → State → Prop := va_Qv (fun (u : Vf × Lf) => rgd bM u.1 ∧ agr [(0, 7), (0, 8), (0, 48), (0, 50)] [35, 36, 37, 38, 45, 46, 47] V u.1 ∧ agL [35, 36, 37, 38, 45, 46, 47] L u.2 ∧ (Imp ((u.1 0 8).toInt = 0) ((u.1 0 48).toInt - (V 0 48).toInt ≤ 2 * ((u.1 0 7).toInt - (V 0 7).toInt))) ∧ ((u.1 0 48).toInt ≤ 8051 - 6 * (V 0 50).toInt) ∧ ((u.1 0 50).toInt = (V 0 50).toInt) ∧ ((V 0 48).toInt ≤ (u.1 0 48).toInt) ∧ (RdM gT gs (fun k => Iexpr gd :: k) (fun k => k) (u.1 0 8).toInt (fun s9 => RelM u.1 u.2 bq gn gT s9 gl ∧ keepS gs 1 s9)) ∧ (RoV 35 bq V u.1) ∧ (RoV 37 bq V u.1) ∧ (RoL 36 20 bq L u.2) ∧ (RoL 38 20 bq L u.2)) (fun u t => gq D A (mw ad kk ks.1 u.1 u.2) (mty kk) t) A
def K_s_expressionA (l : Launch) (D : va_G) (ks : KS) (dd : Nat) : Prop := ∀ (sz : Nat) (ad : Nat → Nat) (kk : Nat → ClassId) (V : Vf) (L : Lf) (bq : Nat) (gn : Nat) (gT : Tk) (gs : St) (gl : List Int64) (gd : Nat) (hMV : rgd bM V) (rel : RelM V L bq gn gT gs gl) (c1 : (V 0 48).toInt ≤ 2 * (V 0 7).toInt) (yd : (V 0 50).toInt = (gd : Int)) (c4 : (V 0 50).toInt + (dd : Int) = 8) (em : EM V gs) , Met l yX12_expression (Cond.code yX12_expression cX12_expression 3 none :: GW) (rK 13 420 dd) (va_Pc [.ref (ad 0)] (gp D ks (mw ad kk ks.1 V L) (mty kk) sz)) (q_s_expressionA D ks ad kk V L  bq gn gT gs gl gd (va_A (mw ad kk ks.1 V L) sz)) 0 0 (va_A (mw ad kk ks.1 V L) sz)
abbrev q_s_sumA (D : va_G) (ks : KS) (ad : Nat → Nat) (kk : Nat → ClassId) (V : Vf) (L : Lf) (bq : Nat) (gn : Nat) (gT : Tk) (gs : St) (gl : List Int64) (gd : Nat) (A : Nat → Prop) : Array Value → State → Outcome → State → Prop := va_Qv (fun (u : Vf × Lf) => rgd bM u.1 ∧ agr [(0, 7), (0, 8), (0, 48), (0, 50)] [35, 36, 37, 38, 45, 46, 47] V u.1 ∧ agL [35, 36, 37, 38, 45, 46, 47] L u.2 ∧ (Imp ((u.1 0 8).toInt = 0) ((u.1 0 48).toInt - (V 0 48).toInt ≤ 2 * ((u.1 0 7).toInt - (V 0 7).toInt))) ∧ ((u.1 0 48).toInt ≤ 8050 - 6 * (V 0 50).toInt) ∧ ((u.1 0 50).toInt = (V 0 50).toInt) ∧ ((V 0 48).toInt ≤ (u.1 0 48).toInt) ∧ (RdM gT gs (fun k => Isum gd :: k) (fun k => k) (u.1 0 8).toInt (fun s9 => RelM u.1 u.2 bq gn gT s9 gl ∧ keepS gs 1 s9)) ∧ (RoV 35 bq V u.1) ∧ (RoV 37 bq V u.1) ∧ (RoL 36 20 bq L u.2) ∧ (RoL 38 20 bq L u.2)) (fun u t => gq D A (mw ad kk ks.1 u.1 u.2) (mty kk) t) A
def K_s_sumA (l : Launch) (D : va_G) (ks : KS) (dd : Nat) : Prop := ∀ (sz : Nat) (ad : Nat → Nat) (kk : Nat → ClassId) (V : Vf) (L : Lf) (bq : Nat) (gn : Nat) (gT : Tk) (gs : St) (gl : List Int64) (gd : Nat) (hMV : rgd bM V) (rel : RelM V L bq gn gT gs gl) (c1 : (V 0 48).toInt ≤ 2 * (V 0 7).toInt) (yd : (V 0 50).toInt = (gd : Int)) (c4 : (V 0 50).toInt + (dd : Int) = 8) (em : EM V gs) , Met l yX12_sum (Cond.code yX12_sum cX12_sum 3 none :: GW) (rK 12 380 dd) (va_Pc [.ref (ad 0)] (gp D ks (mw ad kk ks.1 V L) (mty kk) sz)) (q_s_sumA D ks ad kk V L  bq gn gT gs gl gd (va_A (mw ad kk ks.1 V L) sz)) 0 0 (va_A (mw ad kk ks.1 V L) sz)
abbrev q_s_productA (D : va_G) (ks : KS) (ad : Nat → Nat) (kk : Nat → ClassId) (V : Vf) (L : Lf) (bq : Nat) (gn : Nat) (gT : Tk) (gs : St) (gl : List Int64) (gd : Nat) (A : Nat → Prop) : Array Value → State → Outcome → State → Prop := va_Qv (fun (u : Vf × Lf) => rgd bM u.1 ∧ agr [(0, 7), (0, 8), (0, 48), (0, 50)] [35, 36, 37, 38, 45, 46, 47] V u.1 ∧ agL [35, 36, 37, 38, 45, 46, 47] L u.2 ∧ (Imp ((u.1 0 8).toInt = 0) ((u.1 0 48).toInt - (V 0 48).toInt ≤ 2 * ((u.1 0 7).toInt - (V 0 7).toInt))) ∧ ((u.1 0 48).toInt ≤ 8049 - 6 * (V 0 50).toInt) ∧ ((u.1 0 50).toInt = (V 0 50).toInt) ∧ ((V 0 48).toInt ≤ (u.1 0 48).toInt) ∧ (RdM gT gs (fun k => Iprod gd :: k) (fun k => k) (u.1 0 8).toInt (fun s9 => RelM u.1 u.2 bq gn gT s9 gl ∧ keepS gs 1 s9)) ∧ (RoV 35 bq V u.1) ∧ (RoV 37 bq V u.1) ∧ (RoL 36 20 bq L u.2) ∧ (RoL 38 20 bq L u.2)) (fun u t => gq D A (mw ad kk ks.1 u.1 u.2) (mty kk) t) A
def K_s_productA (l : Launch) (D : va_G) (ks : KS) (dd : Nat) : Prop := ∀ (sz : Nat) (ad : Nat → Nat) (kk : Nat → ClassId) (V : Vf) (L : Lf) (bq : Nat) (gn : Nat) (gT : Tk) (gs : St) (gl : List Int64) (gd : Nat) (hMV : rgd bM V) (rel : RelM V L bq gn gT gs gl) (c1 : (V 0 48).toInt ≤ 2 * (V 0 7).toInt) (yd : (V 0 50).toInt = (gd : Int)) (c4 : (V 0 50).toInt + (dd : Int) = 8) (em : EM V gs) , Met l yX12_product (Cond.code yX12_product cX12_product 2 none :: GW) (rK 11 340 dd) (va_Pc [.ref (ad 0)] (gp D ks (mw ad kk ks.1 V L) (mty kk) sz)) (q_s_productA D ks ad kk V L  bq gn gT gs gl gd (va_A (mw ad kk ks.1 V L) sz)) 0 0 (va_A (mw ad kk ks.1 V L) sz)
abbrev q_s_partA (D : va_G) (ks : KS) (ad : Nat → Nat) (kk : Nat → ClassId) (V : Vf) (L : Lf) (bq : Nat) (gn : Nat) (gT : Tk) (gs : St) (gl : List Int64) (gd : Nat) (A : Nat → Prop) : Array Value → State → Outcome → State → Prop := va_Qv (fun (u : Vf × Lf) => rgd bM u.1 ∧ agr [(0, 7), (0, 8), (0, 48), (0, 50)] [35, 36, 37, 38, 45, 46, 47] V u.1 ∧ agL [35, 36, 37, 38, 45, 46, 47] L u.2 ∧ (Imp ((u.1 0 8).toInt = 0) ((u.1 0 48).toInt - (V 0 48).toInt ≤ 2 * ((u.1 0 7).toInt - (V 0 7).toInt))) ∧ ((u.1 0 48).toInt ≤ 8048 - 6 * (V 0 50).toInt) ∧ ((u.1 0 50).toInt = (V 0 50).toInt) ∧ ((V 0 48).toInt ≤ (u.1 0 48).toInt) ∧ (RdM gT gs (fun k => Ipart gd :: k) (fun k => k) (u.1 0 8).toInt (fun s9 => RelM u.1 u.2 bq gn gT s9 gl ∧ keepS gs 1 s9)) ∧ (RoV 35 bq V u.1) ∧ (RoV 37 bq V u.1) ∧ (RoL 36 20 bq L u.2) ∧ (RoL 38 20 bq L u.2)) (fun u t => gq D A (mw ad kk ks.1 u.1 u.2) (mty kk) t) A
def K_s_partA (l : Launch) (D : va_G) (ks : KS) (dd : Nat) : Prop := ∀ (sz : Nat) (ad : Nat → Nat) (kk : Nat → ClassId) (V : Vf) (L : Lf) (bq : Nat) (gn : Nat) (gT : Tk) (gs : St) (gl : List Int64) (gd : Nat) (hMV : rgd bM V) (rel : RelM V L bq gn gT gs gl) (c1 : (V 0 48).toInt ≤ 2 * (V 0 7).toInt) (yd : (V 0 50).toInt = (gd : Int)) (c4 : (V 0 50).toInt + (dd : Int) = 8) (em : EM V gs) , Met l yX12_part (Cond.code yX12_part cX12_part 2 none :: GW) (rK 10 300 dd) (va_Pc [.ref (ad 0)] (gp D ks (mw ad kk ks.1 V L) (mty kk) sz)) (q_s_partA D ks ad kk V L  bq gn gT gs gl gd (va_A (mw ad kk ks.1 V L) sz)) 0 0 (va_A (mw ad kk ks.1 V L) sz)
abbrev q_s_bracketedA (D : va_G) (ks : KS) (ad : Nat → Nat) (kk : Nat → ClassId) (V : Vf) (L : Lf) (bq : Nat) (gn : Nat) (gT : Tk) (gs : St) (gl : List Int64) (gd : Nat) (A : Nat → Prop) : Array Value → State → Outcome → State → Prop := va_Qv (fun (u : Vf × Lf) => rgd bM u.1 ∧ agr [(0, 7), (0, 8), (0, 48), (0, 50)] [35, 36, 37, 38, 45, 46, 47] V u.1 ∧ agL [35, 36, 37, 38, 45, 46, 47] L u.2 ∧ (Imp ((u.1 0 8).toInt = 0) ((u.1 0 48).toInt - (V 0 48).toInt ≤ 2 * ((u.1 0 7).toInt - (V 0 7).toInt))) ∧ ((u.1 0 48).toInt ≤ 8052 - 6 * (V 0 50).toInt) ∧ ((u.1 0 50).toInt = (V 0 50).toInt) ∧ ((V 0 48).toInt ≤ (u.1 0 48).toInt) ∧ (RdM gT gs (fun k => Itake 40 :: Iexpr gd :: Itake 41 :: k) (fun k => k) (u.1 0 8).toInt (fun s9 => RelM u.1 u.2 bq gn gT s9 gl ∧ keepS gs 1 s9)) ∧ (RoV 35 bq V u.1) ∧ (RoV 37 bq V u.1) ∧ (RoL 36 20 bq L u.2) ∧ (RoL 38 20 bq L u.2)) (fun u t => gq D A (mw ad kk ks.1 u.1 u.2) (mty kk) t) A
def K_s_bracketedA (l : Launch) (D : va_G) (ks : KS) (dd : Nat) : Prop := ∀ (sz : Nat) (ad : Nat → Nat) (kk : Nat → ClassId) (V : Vf) (L : Lf) (bq : Nat) (gn : Nat) (gT : Tk) (gs : St) (gl : List Int64) (gd : Nat) (hMV : rgd bM V) (rel : RelM V L bq gn gT gs gl) (c1 : (V 0 48).toInt ≤ 2 * (V 0 7).toInt) (yd : (V 0 50).toInt = (gd : Int)) (c4 : (V 0 50).toInt + (dd : Int) = 8) (em : EM V gs) , Met l yX12_bracketed (Cond.code yX12_bracketed cX12_bracketed 1 none :: GW) (rK 14 460 dd) (va_Pc [.ref (ad 0)] (gp D ks (mw ad kk ks.1 V L) (mty kk) sz)) (q_s_bracketedA D ks ad kk V L  bq gn gT gs gl gd (va_A (mw ad kk ks.1 V L) sz)) 0 0 (va_A (mw ad kk ks.1 V L) sz)
abbrev q_s_pickA (D : va_G) (ks : KS) (ad : Nat → Nat) (kk : Nat → ClassId) (V : Vf) (L : Lf) (bq : Nat) (gn : Nat) (gT : Tk) (gs : St) (gl : List Int64) (gd : Nat) (A : Nat → Prop) : Array Value → State → Outcome → State → Prop := va_Qv (fun (u : Vf × Lf) => rgd bM u.1 ∧ agr [(0, 7), (0, 8), (0, 48), (0, 50)] [35, 36, 37, 38, 45, 46, 47] V u.1 ∧ agL [35, 36, 37, 38, 45, 46, 47] L u.2 ∧ (Imp ((u.1 0 8).toInt = 0) ((u.1 0 48).toInt - (V 0 48).toInt ≤ 2 * ((u.1 0 7).toInt - (V 0 7).toInt))) ∧ ((u.1 0 48).toInt ≤ 8053 - 6 * (V 0 50).toInt) ∧ ((u.1 0 50).toInt = (V 0 50).toInt) ∧ ((V 0 48).toInt ≤ (u.1 0 48).toInt) ∧ (RdM gT gs (fun k => Itake 40 :: Iexpr gd :: Itake 44 :: Iexpr gd :: Itake 44 :: Iexpr gd :: Itake 41 :: k) (fun k => k) (u.1 0 8).toInt (fun s9 => RelM u.1 u.2 bq gn gT s9 gl ∧ keepS gs 1 s9)) ∧ (RoV 35 bq V u.1) ∧ (RoV 37 bq V u.1) ∧ (RoL 36 20 bq L u.2) ∧ (RoL 38 20 bq L u.2)) (fun u t => gq D A (mw ad kk ks.1 u.1 u.2) (mty kk) t) A
def K_s_pickA (l : Launch) (D : va_G) (ks : KS) (dd : Nat) : Prop := ∀ (sz : Nat) (ad : Nat → Nat) (kk : Nat → ClassId) (V : Vf) (L : Lf) (bq : Nat) (gn : Nat) (gT : Tk) (gs : St) (gl : List Int64) (gd : Nat) (hMV : rgd bM V) (rel : RelM V L bq gn gT gs gl) (c1 : (V 0 48).toInt ≤ 2 * (V 0 7).toInt) (yd : (V 0 50).toInt = (gd : Int)) (c4 : (V 0 50).toInt + (dd : Int) = 8) (em : EM V gs) , Met l yX12_pick (Cond.code yX12_pick cX12_pick 3 none :: GW) (rK 14 460 dd) (va_Pc [.ref (ad 0)] (gp D ks (mw ad kk ks.1 V L) (mty kk) sz)) (q_s_pickA D ks ad kk V L  bq gn gT gs gl gd (va_A (mw ad kk ks.1 V L) sz)) 0 0 (va_A (mw ad kk ks.1 V L) sz)
abbrev q_s_partWithinA (D : va_G) (ks : KS) (ad : Nat → Nat) (kk : Nat → ClassId) (V : Vf) (L : Lf) (bq : Nat) (gn : Nat) (gT : Tk) (gs : St) (gl : List Int64) (gd : Nat) (A : Nat → Prop) : Array Value → State → Outcome → State → Prop := va_Qv (fun (u : Vf × Lf) => rgd bM u.1 ∧ agr [(0, 7), (0, 8), (0, 48), (0, 50)] [35, 36, 37, 38, 45, 46, 47] V u.1 ∧ agL [35, 36, 37, 38, 45, 46, 47] L u.2 ∧ (Imp ((u.1 0 8).toInt = 0) ((u.1 0 48).toInt - (V 0 48).toInt + 1 ≤ 2 * ((u.1 0 7).toInt - (V 0 7).toInt))) ∧ ((u.1 0 48).toInt ≤ 8054 - 6 * (V 0 50).toInt) ∧ ((u.1 0 50).toInt = (V 0 50).toInt) ∧ ((V 0 48).toInt ≤ (u.1 0 48).toInt) ∧ (RdM gT gs (fun k => Ipart gd :: k) (fun k => k) (u.1 0 8).toInt (fun s9 => RelM u.1 u.2 bq gn gT s9 gl ∧ keepS gs 1 s9)) ∧ (RoV 35 bq V u.1) ∧ (RoV 37 bq V u.1) ∧ (RoL 36 20 bq L u.2) ∧ (RoL 38 20 bq L u.2)) (fun u t => gq D A (mw ad kk ks.1 u.1 u.2) (mty kk) t) A
def K_s_partWithinA (l : Launch) (D : va_G) (ks : KS) (dd : Nat) : Prop := ∀ (sz : Nat) (ad : Nat → Nat) (kk : Nat → ClassId) (V : Vf) (L : Lf) (bq : Nat) (gn : Nat) (gT : Tk) (gs : St) (gl : List Int64) (gd : Nat) (hMV : rgd bM V) (rel : RelM V L bq gn gT gs gl) (c1 : (V 0 48).toInt ≤ 2 * (V 0 7).toInt + 1) (yd : (V 0 50).toInt = (gd : Int) + 1) (g8 : (gd : Int) ≤ 7) (bg : bgP gT gs) (c4 : (V 0 50).toInt + (dd : Int) = 8) (em : EM V gs) , Met l yX12_partWithin (Cond.code yX12_partWithin cX12_partWithin 4 none :: GW) (rK 15 500 dd) (va_Pc [.ref (ad 0)] (gp D ks (mw ad kk ks.1 V L) (mty kk) sz)) (q_s_partWithinA D ks ad kk V L  bq gn gT gs gl gd (va_A (mw ad kk ks.1 V L) sz)) 0 0 (va_A (mw ad kk ks.1 V L) sz)
set_option maxHeartbeats 4000000 in
set_option maxRecDepth 100000 in
theorem s_expressionA {l : Launch} {D : va_G} {ks : KS} {dd : Nat} (hk_s_sumA : K_s_sumA l D ks dd) : K_s_expressionA l D ks dd := by
  intro sz ad kk V L  bq gn gT gs gl gd hMV rel c1 yd c4 em
  refine g_met (q_s_expressionA D ks ad kk V L  bq gn gT gs gl gd) (by decide) (Nat.le_of_ble_eq_true rfl) ?_
  intro p e s m below meth c A ls H locs hx hb hr hml hown hg hlocks hin hnw hgk hP hK hD hS hA hl
  have hown : s.vm.findClass RX12 = some m.cls := hown
  have hl : lv_has ls 3 [(0, .ref (ad 0))] := hl
  have hP : va_P D vwCl (mw ad kk ks.1 V L) H := hP
  have hD : va_D A (mw ad kk ks.1 V L) := hD
  have hK : va_K D vwCl (mty kk) s := hK
  have agV : agr [(0, 7), (0, 8), (0, 48), (0, 50)] [35, 36, 37, 38, 45, 46, 47] V V := agr.rf
  have alL : agL [35, 36, 37, 38, 45, 46, 47] L L := agL.rf
  have r1 : 0 ≤ ((V 0 48)).toInt ∧ ((V 0 48)).toInt ≤ 10000 := hMV 0 48
  have r2 : 0 ≤ ((V 0 50)).toInt ∧ ((V 0 50)).toInt ≤ 9 := hMV 0 50
  have rg0 := RelM.rg rel
  have cl0 := RelM.cl rel
  have cq0 := RelM.cq rel
  refine lv_aload_n hx hb dX12_expression_0 rfl (lv_at hl 0 rfl) ?_
  have hr3 : ∀ k, Rc gT (Crun gs (Iexpr gd :: k)) (Crun gs (Iexpr gd :: k)) := fun k => Rc.rf
  have hr4 : ∀ k, Rc gT (Crun gs (Iexpr gd :: k)) (Crun gs (Isum gd :: Icmp gd :: k)) := fun k => Rc.go1 (hr3 k) (m_expr gd)
  refine gA_void (gA_runV (As := []) (rest := []) (ci := 12) (q0 := 0) hx hb hml hown hg hP hD hK hS hA hnw hgk (hk_s_sumA H.size ad kk V L (bq) (gn) (gT) (gs) (gl) (gd) hMV rel (show (V 0 48).toInt ≤ 2 * (V 0 7).toInt from by omega) (show (V 0 50).toInt = ((gd) : Int) from by omega) (show (V 0 50).toInt + (dd : Int) = 8 from by omega) em) w2124 w2126 w107 w172 w2127 rfl rfl hdV_yX12_sum ⟨(by show 10 * dd + 12 + 1 ≤ 10 * dd + 13; omega), (by show 8 + (3 + 11) + (300 * dd + 380) ≤ 300 * dd + 420; omega)⟩ rfl hl.1 rfl (Nat.le_of_ble_eq_true rfl) dX12_expression_1 ⟨Nat.le_of_ble_eq_true rfl, Nat.le_of_ble_eq_true rfl⟩) hP hD hK hS hA (fun u6 H locs w7 hP hD hK hS => ?_)
  obtain ⟨V17, L18⟩ := u6
  obtain ⟨hMV17, ajV17, axL18, t8, t9, t10, t11, t12, t13, t14, t15, t16⟩ := w7
  have alL18 : agL [35, 36, 37, 38, 45, 46, 47] L L18 := agL.tr alL axL18 (by decide)
  have hP : va_P D vwCl (mw ad kk ks.1 V17 L18) H := hP
  have hD : va_D A (mw ad kk ks.1 V17 L18) := hD
  have hMV17 : rgd bM V17 := hMV17
  have ajV17 : agr [(0, 7), (0, 8), (0, 48), (0, 50)] [35, 36, 37, 38, 45, 46, 47] V V17 := ajV17
  have agV17 : agr [(0, 7), (0, 8), (0, 48), (0, 50)] [35, 36, 37, 38, 45, 46, 47] V V17 := agV.tr ajV17 (by decide) (by decide)
  have t8 : Imp ((V17 0 8).toInt = 0) ((V17 0 48).toInt - (V 0 48).toInt ≤ 2 * ((V17 0 7).toInt - (V 0 7).toInt)) := t8
  have t9 : (V17 0 48).toInt ≤ 8050 - 6 * (V 0 50).toInt := t9
  have t10 : (V17 0 50).toInt = (V 0 50).toInt := t10
  have t11 : (V 0 48).toInt ≤ (V17 0 48).toInt := t11
  have t12 : RdM (gT) (gs) (fun k => Isum (gd) :: k) (fun k => k) (V17 0 8).toInt (fun s9 => RelM V17 L18 (bq) (gn) (gT) s9 (gl) ∧ keepS (gs) 1 s9) := t12
  have t13 : RoV 35 (bq) V V17 := t13
  have t14 : RoV 37 (bq) V V17 := t14
  have t15 : RoL 36 20 (bq) L L18 := t15
  have t16 : RoL 38 20 (bq) L L18 := t16
  have r19 : 0 ≤ ((V17 0 48)).toInt ∧ ((V17 0 48)).toInt ≤ 10000 := hMV17 0 48
  have r20 : 0 ≤ ((V17 0 8)).toInt ∧ ((V17 0 8)).toInt ≤ 70000 := hMV17 0 8
  have r21 : 0 ≤ ((V17 0 50)).toInt ∧ ((V17 0 50)).toInt ≤ 9 := hMV17 0 50
  rcases t12 with ⟨q22, sx23, h24, rl25, kp26⟩ | ⟨q22, h24⟩
  · skip
    have hr27 : ∀ k, Rc gT (Crun gs (Iexpr gd :: k)) (Crun sx23 (Icmp gd :: k)) := fun k => (hr4 k).tr (h24 (Icmp gd :: k))
    have fz28 := RelM.rg rl25
    have ps29 := (kp26).1
    refine lv_aload_n hx hb dX12_expression_4 rfl (lv_at hl 0 rfl) ?_
    refine lv_bipush (v := 60) hx hb dX12_expression_5 (by decide) ?_
    have r30 : Int32.toInt 60 = 60 := by decide
    refine gA_int (gA_runV (As := [.int 60]) (rest := []) (ci := 12) (q0 := 0) hx hb hml hown hg hP hD hK hS hA hnw hgk (s_isSignA l D ks H.size ad kk V17 L18 60 (bq) (gn) (gT) (sx23) (gl) hMV17 rl25 (sg_yes (j := 60) (by decide) (by decide) (by decide))) w2075 w2077 w95 w172 w2078 rfl rfl hdV_yX12_isSign ⟨(by show 0 + 1 ≤ 10 * dd + 13; omega), (by show 8 + (2 + 11) + (0) ≤ 300 * dd + 420; omega)⟩ rfl hl.1 rfl (Nat.le_of_ble_eq_true rfl) dX12_expression_7 ⟨Nat.le_of_ble_eq_true rfl, Nat.le_of_ble_eq_true rfl⟩) hP hD hK hS hA (fun z31 u32 H locs w33 hP hD hK hS => ?_)
    obtain ⟨rgz31, t34⟩ := w33
    have rgz31 : 0 ≤ z31.toInt ∧ z31.toInt ≤ 1 := rgz31
    have t34 : (z31.toInt = 1 ∧ (gT).1 ((sx23).1 0) = (Int32.toInt 60)) ∨ (z31.toInt = 0 ∧ (gT).1 ((sx23).1 0) ≠ (Int32.toInt 60)) := t34
    rcases t34 with ⟨q35, h36⟩ | ⟨q35, h36⟩
    · skip
      have kd37 : gT.1 (sx23.1 0) = 60 := h36.trans (by decide)
      refine lv_istore_n (lv' := [(1, .int z31), (0, .ref (ad 0))]) hx hb dX12_expression_10 rfl hl (by decide) rfl (fun ls hl => ?_)
      refine lv_iload_n hx hb dX12_expression_11 rfl (lv_at hl 0 rfl) ?_
      refine lv_if_ne (tgt := 24) hx hb dX12_expression_12 (by decide) (fun c38 => ?_) (fun c38 => ?_)
      · skip
        have f39 : z31.toInt ≠ 0 := b_neq rfl (by decide) c38
        refine lv_aload_n hx hb dX12_expression_24 rfl (lv_at hl 1 rfl) ?_
        refine lv_dup hx hb dX12_expression_25 rfl ?_
        refine va_get (D := D) (ci := 12) (v := .int (V17 0 7)) (C := RX12) (T := TX12) (N := 100) hx hb hg inX12 hown hK hP 0 rfl rfl 7 (by decide) (hg _ w1717) (fun _ h9 => h9) rfl dX12_expression_26 ?_
        refine lv_iconst (v := 1) hx hb dX12_expression_29 (by decide) ?_
        refine lv_iadd hx hb dX12_expression_30 ?_
        refine lv_topi (fun z40 ez40 => ?_)
        have hz40 : z40.toInt = ((V17 0 7)).toInt + 1 := i_add ez40 rfl (by decide) (by omega)
        refine va_put (D := D) (ci := 12) (v := .int z40) (ty := tyX12 7) (C := RX12) (T := TX12) (N := 100) hx hb hg inX12 tyX12 tyX12_ok nmX12 hown hK hP hD hS 0 rfl rfl 7 (by decide) (hg _ w1717) (fun _ h9 => h9) rfl (tyX12_ok 7 (by decide)) rfl rfl (Nat.le_of_ble_eq_true rfl) dX12_expression_31 (fun H locs hP hD hS => ?_)
        obtain ⟨V41, hV41⟩ : ∃ z, z = up2 V17 0 7 z40 := ⟨_, rfl⟩
        have hP : va_P D vwCl (mw ad kk ks.1 V41 L18) H := by rw [hV41]; exact hP
        have hD : va_D A (mw ad kk ks.1 V41 L18) := by rw [hV41]; exact hD
        have hMV41 : rgd bM V41 := hMV17.put hV41 (i_full _)
        have agV41 : agr [(0, 7), (0, 8), (0, 48), (0, 50)] [35, 36, 37, 38, 45, 46, 47] V V41 := agV17.up hV41 rfl
        have hr42 : ∀ k, Rc gT (Crun gs (Iexpr gd :: k)) (Crun (nx sx23 1) (Isum gd :: k)) := fun k => Rc.go1 (hr27 k) (cmp_y gd (Or.inl kd37))
        have rl43 : RelM V41 L18 bq gn gT (nx sx23 1) gl := RelM.n1 rl25 hV41 (by omega) (by rw [kd37]; decide)
        have ps44 : (nx sx23 1).1 0 = sx23.1 0 + 1 := rfl
        have fz45 := RelM.rg rl43
        have pq46 : (V41 0 8).toInt = ((V17 0 8)).toInt := congrArg Int32.toInt (up2_k hV41 (by decide))
        have pq47 : (V41 0 7).toInt = z40.toInt := congrArg Int32.toInt (up2_s hV41)
        refine lv_aload_n hx hb dX12_expression_34 rfl (lv_at hl 1 rfl) ?_
        have pq48 : (V41 0 48).toInt = ((V17 0 48)).toInt := congrArg Int32.toInt (up2_k hV41 (by decide))
        have pq49 : (V41 0 50).toInt = ((V17 0 50)).toInt := congrArg Int32.toInt (up2_k hV41 (by decide))
        refine gA_void (gA_runV (As := []) (rest := []) (ci := 12) (q0 := 0) hx hb hml hown hg hP hD hK hS hA hnw hgk (hk_s_sumA H.size ad kk V41 L18 (bq) (gn) (gT) ((nx sx23 1)) (gl) (gd) hMV41 rl43 (show (V41 0 48).toInt ≤ 2 * (V41 0 7).toInt from by first | omega | ((try (have i_t8 := Imp.go t8 (by omega))); omega)) (show (V41 0 50).toInt = ((gd) : Int) from by first | omega | ((try (have i_t8 := Imp.go t8 (by omega))); omega)) (show (V41 0 50).toInt + (dd : Int) = 8 from by first | omega | ((try (have i_t8 := Imp.go t8 (by omega))); omega)) (EM.mv em ((up2_k hV41 (by decide)).trans (ajV17 0 51 rfl)) ((up2_k hV41 (by decide)).trans (ajV17 0 52 rfl)) (by rw [(up2_fo hV41 (by decide) : V41 27 = V17 27), (funext (fun q => ajV17 27 q rfl) : V17 27 = V 27)] : V41 27 = V 27) ((keepS.tr (keepS.tr (keepS.rf : keepS gs 0 gs) kp26) (keepS.n1 1))).2.1)) w2124 w2126 w107 w172 w2127 rfl rfl hdV_yX12_sum ⟨(by show 10 * dd + 12 + 1 ≤ 10 * dd + 13; omega), (by show 8 + (3 + 11) + (300 * dd + 380) ≤ 300 * dd + 420; omega)⟩ rfl hl.1 rfl (Nat.le_of_ble_eq_true rfl) dX12_expression_35 ⟨Nat.le_of_ble_eq_true rfl, Nat.le_of_ble_eq_true rfl⟩) hP hD hK hS hA (fun u51 H locs w52 hP hD hK hS => ?_)
        obtain ⟨V62, L63⟩ := u51
        obtain ⟨hMV62, ajV62, axL63, t53, t54, t55, t56, t57, t58, t59, t60, t61⟩ := w52
        have alL63 : agL [35, 36, 37, 38, 45, 46, 47] L L63 := agL.tr alL18 axL63 (by decide)
        have hP : va_P D vwCl (mw ad kk ks.1 V62 L63) H := hP
        have hD : va_D A (mw ad kk ks.1 V62 L63) := hD
        have hMV62 : rgd bM V62 := hMV62
        have ajV62 : agr [(0, 7), (0, 8), (0, 48), (0, 50)] [35, 36, 37, 38, 45, 46, 47] V41 V62 := ajV62
        have agV62 : agr [(0, 7), (0, 8), (0, 48), (0, 50)] [35, 36, 37, 38, 45, 46, 47] V V62 := agV41.tr ajV62 (by decide) (by decide)
        have t53 : Imp ((V62 0 8).toInt = 0) ((V62 0 48).toInt - (V41 0 48).toInt ≤ 2 * ((V62 0 7).toInt - (V41 0 7).toInt)) := t53
        have t54 : (V62 0 48).toInt ≤ 8050 - 6 * (V41 0 50).toInt := t54
        have t55 : (V62 0 50).toInt = (V41 0 50).toInt := t55
        have t56 : (V41 0 48).toInt ≤ (V62 0 48).toInt := t56
        have t57 : RdM (gT) ((nx sx23 1)) (fun k => Isum (gd) :: k) (fun k => k) (V62 0 8).toInt (fun s9 => RelM V62 L63 (bq) (gn) (gT) s9 (gl) ∧ keepS ((nx sx23 1)) 1 s9) := t57
        have t58 : RoV 35 (bq) V41 V62 := t58
        have t59 : RoV 37 (bq) V41 V62 := t59
        have t60 : RoL 36 20 (bq) L18 L63 := t60
        have t61 : RoL 38 20 (bq) L18 L63 := t61
        have r64 : 0 ≤ ((V62 0 48)).toInt ∧ ((V62 0 48)).toInt ≤ 10000 := hMV62 0 48
        have r65 : 0 ≤ ((V62 0 8)).toInt ∧ ((V62 0 8)).toInt ≤ 70000 := hMV62 0 8
        have r66 : 0 ≤ ((V62 0 50)).toInt ∧ ((V62 0 50)).toInt ≤ 9 := hMV62 0 50
        rcases t57 with ⟨q67, sx68, h69, rl70, kp71⟩ | ⟨q67, h69⟩
        · skip
          have hr72 : ∀ k, Rc gT (Crun gs (Iexpr gd :: k)) (Crun sx68 (k)) := fun k => (hr42 k).tr (h69 (k))
          have fz73 := RelM.rg rl70
          have ps74 := (kp71).1
          refine lv_aload_n hx hb dX12_expression_38 rfl (lv_at hl 1 rfl) ?_
          refine lv_iload_n hx hb dX12_expression_39 rfl (lv_at hl 0 rfl) ?_
          refine lv_if_eq (tgt := 48) hx hb dX12_expression_40 (by decide) (fun c75 => ?_) (fun c75 => ?_)
          · skip
            have f76 : z31.toInt = 0 := b_eq rfl (by decide) c75
            exfalso; first | omega | ((try (have i_t53 := Imp.go t53 (by omega))); (try (have i_t8 := Imp.go t8 (by omega))); (try (have i_t8 := Imp.go t8 (by omega))); (try (have i_t53 := Imp.go t53 (by omega))); omega)
          · skip
            have f77 : z31.toInt ≠ 0 := b_neq rfl (by decide) c75
            refine lv_bipush (v := 8) hx hb dX12_expression_43 (by decide) ?_
            refine lv_goto (tgt := 50) hx hb dX12_expression_45 (by decide) ?_
            refine lv_iconst (v := 0) hx hb dX12_expression_50 (by decide) ?_
            refine lv_iconst (v := 0) hx hb dX12_expression_51 (by decide) ?_
            have r78 : Int32.toInt 8 = 8 := by decide
            have r79 : Int32.toInt 0 = 0 := by decide
            refine gA_int (gA_runV (As := [.int 8, .int 0, .int 0]) (rest := []) (ci := 12) (q0 := 0) hx hb hml hown hg hP hD hK hS hA hnw hgk (s_emit3 l D ks H.size ad kk V62 L63 8 0 0 hMV62 (show (V62 0 48).toInt ≤ 9999 from by first | omega | ((try (have i_t53 := Imp.go t53 (by omega))); (try (have i_t8 := Imp.go t8 (by omega))); (try (have i_t8 := Imp.go t8 (by omega))); (try (have i_t53 := Imp.go t53 (by omega))); omega))) w2140 w2142 w111 w172 w2143 rfl rfl hdV_yX12_emit ⟨(by show 0 + 1 ≤ 10 * dd + 13; omega), (by show 8 + (4 + 11) + (0) ≤ 300 * dd + 420; omega)⟩ rfl hl.1 rfl (Nat.le_of_ble_eq_true rfl) dX12_expression_52 ⟨Nat.le_of_ble_eq_true rfl, Nat.le_of_ble_eq_true rfl⟩) hP hD hK hS hA (fun z80 u81 H locs w82 hP hD hK hS => ?_)
            obtain ⟨V86, L87⟩ := u81
            obtain ⟨hMV86, ajV86, axL87, rgz80, t83, t84, t85⟩ := w82
            have axL87 : L63 = L87 := Eq.symm axL87
            subst axL87
            have hP : va_P D vwCl (mw ad kk ks.1 V86 L63) H := hP
            have hD : va_D A (mw ad kk ks.1 V86 L63) := hD
            have hMV86 : rgd bM V86 := hMV86
            have ajV86 : agr [(0, 48)] [45, 46, 47] V62 V86 := ajV86
            have agV86 : agr [(0, 7), (0, 8), (0, 48), (0, 50)] [35, 36, 37, 38, 45, 46, 47] V V86 := agV62.tr ajV86 (by decide) (by decide)
            have rgz80 : 0 ≤ z80.toInt ∧ z80.toInt ≤ 20000 := rgz80
            have t83 : (V86 0 48).toInt = (V62 0 48).toInt + 1 := t83
            have t84 : z80.toInt = (V62 0 49).toInt + (V62 0 48).toInt := t84
            have t85 : emitted V62 V86 (pA V62) 8 0 0 := t85
            have r88 : 0 ≤ ((V86 0 48)).toInt ∧ ((V86 0 48)).toInt ≤ 10000 := hMV86 0 48
            have pq89 : (V62 0 49).toInt = ((V 0 49)).toInt := congrArg Int32.toInt ((ajV62 0 49 rfl).trans ((up2_k hV41 (by decide)).trans (ajV17 0 49 rfl)))
            have r90 : 0 ≤ ((V 0 49)).toInt ∧ ((V 0 49)).toInt ≤ 10000 := hMV 0 49
            refine lv_istore_n (lv' := [(2, .int z80), (1, .int z31), (0, .ref (ad 0))]) hx hb dX12_expression_55 rfl hl (by decide) rfl (fun ls hl => ?_)
            have pq91 : (V86 0 7).toInt = ((V62 0 7)).toInt := congrArg Int32.toInt (ajV86 0 7 rfl)
            have pq92 : (V86 0 8).toInt = ((V62 0 8)).toInt := congrArg Int32.toInt (ajV86 0 8 rfl)
            have pq93 : (V86 0 50).toInt = ((V62 0 50)).toInt := congrArg Int32.toInt (ajV86 0 50 rfl)
            have rl94 : RelM V86 L63 bq gn gT sx68 gl := RelM.ag rl70 (show agr [(0, 48)] [45, 46, 47] V62 V86 from (agr.tr agr.rf ajV86 (by decide) (by decide))) (by decide) (show agL [] L63 L63 from agL.rf) (by decide)
            have rw95 : RoV 35 bq V V86 := (fun k hk => ((ajV86 35 k rfl).trans ((t58 k hk).trans ((up2_o hV41 (by decide)).trans ((t13 k hk).trans rfl)))))
            have rw96 : RoV 37 bq V V86 := (fun k hk => ((ajV86 37 k rfl).trans ((t59 k hk).trans ((up2_o hV41 (by decide)).trans ((t14 k hk).trans rfl)))))
            have rw97 : RoL 36 20 bq L L63 := (fun k hk => ((t60 k hk).trans ((t15 k hk).trans rfl)))
            have rw98 : RoL 38 20 bq L L63 := (fun k hk => ((t61 k hk).trans ((t16 k hk).trans rfl)))
            exact W.vret hx hb hr (fun t ht hW => ⟨⟨(V86, L63), rfl, ⟨hMV86, agV86, alL63, (Imp.mk (fun hp => have hp : (V86 0 8).toInt = 0 := hp; (show (V86 0 48).toInt - (V 0 48).toInt ≤ 2 * ((V86 0 7).toInt - (V 0 7).toInt) from by first | omega | ((try (have i_t53 := Imp.go t53 (by omega))); (try (have i_t8 := Imp.go t8 (by omega))); (try (have i_t8 := Imp.go t8 (by omega))); (try (have i_t53 := Imp.go t53 (by omega))); omega)))), (show (V86 0 48).toInt ≤ 8051 - 6 * (V 0 50).toInt from by first | omega | ((try (have i_t53 := Imp.go t53 (by omega))); (try (have i_t8 := Imp.go t8 (by omega))); (try (have i_t8 := Imp.go t8 (by omega))); (try (have i_t53 := Imp.go t53 (by omega))); omega)), (show (V86 0 50).toInt = (V 0 50).toInt from by first | omega | ((try (have i_t53 := Imp.go t53 (by omega))); (try (have i_t8 := Imp.go t8 (by omega))); (try (have i_t8 := Imp.go t8 (by omega))); (try (have i_t53 := Imp.go t53 (by omega))); omega)), (show (V 0 48).toInt ≤ (V86 0 48).toInt from by first | omega | ((try (have i_t53 := Imp.go t53 (by omega))); (try (have i_t8 := Imp.go t8 (by omega))); (try (have i_t8 := Imp.go t8 (by omega))); (try (have i_t53 := Imp.go t53 (by omega))); omega)), (Or.inl ⟨W0 rl94, sx68, hr72, rl94, keepS.le (keepS.tr (keepS.tr (keepS.tr (keepS.rf : keepS gs 0 gs) kp26) (keepS.n1 1)) kp71) (by decide)⟩), rw95, rw96, rw97, rw98⟩, by rw [ht]; exact hP, va_K.moved hW.alike hK, hD⟩, hS.F ht⟩) hS.2.2 dX12_expression_56
        · skip
          have hb99 : ∀ k, Rc gT (Crun gs (Iexpr gd :: k)) (Cbad (V62 0 8).toInt) := fun k => (hr42 k).tr (h69 (k))
          refine lv_aload_n hx hb dX12_expression_38 rfl (lv_at hl 1 rfl) ?_
          refine lv_iload_n hx hb dX12_expression_39 rfl (lv_at hl 0 rfl) ?_
          refine lv_if_eq (tgt := 48) hx hb dX12_expression_40 (by decide) (fun c100 => ?_) (fun c100 => ?_)
          · skip
            have f101 : z31.toInt = 0 := b_eq rfl (by decide) c100
            exfalso; first | omega | ((try (have i_t53 := Imp.go t53 (by omega))); (try (have i_t8 := Imp.go t8 (by omega))); (try (have i_t8 := Imp.go t8 (by omega))); (try (have i_t53 := Imp.go t53 (by omega))); omega)
          · skip
            have f102 : z31.toInt ≠ 0 := b_neq rfl (by decide) c100
            refine lv_bipush (v := 8) hx hb dX12_expression_43 (by decide) ?_
            refine lv_goto (tgt := 50) hx hb dX12_expression_45 (by decide) ?_
            refine lv_iconst (v := 0) hx hb dX12_expression_50 (by decide) ?_
            refine lv_iconst (v := 0) hx hb dX12_expression_51 (by decide) ?_
            have r103 : Int32.toInt 8 = 8 := by decide
            have r104 : Int32.toInt 0 = 0 := by decide
            refine gA_int (gA_runV (As := [.int 8, .int 0, .int 0]) (rest := []) (ci := 12) (q0 := 0) hx hb hml hown hg hP hD hK hS hA hnw hgk (s_emit3 l D ks H.size ad kk V62 L63 8 0 0 hMV62 (show (V62 0 48).toInt ≤ 9999 from by first | omega | ((try (have i_t53 := Imp.go t53 (by omega))); (try (have i_t8 := Imp.go t8 (by omega))); (try (have i_t8 := Imp.go t8 (by omega))); (try (have i_t53 := Imp.go t53 (by omega))); omega))) w2140 w2142 w111 w172 w2143 rfl rfl hdV_yX12_emit ⟨(by show 0 + 1 ≤ 10 * dd + 13; omega), (by show 8 + (4 + 11) + (0) ≤ 300 * dd + 420; omega)⟩ rfl hl.1 rfl (Nat.le_of_ble_eq_true rfl) dX12_expression_52 ⟨Nat.le_of_ble_eq_true rfl, Nat.le_of_ble_eq_true rfl⟩) hP hD hK hS hA (fun z105 u106 H locs w107 hP hD hK hS => ?_)
            obtain ⟨V111, L112⟩ := u106
            obtain ⟨hMV111, ajV111, axL112, rgz105, t108, t109, t110⟩ := w107
            have axL112 : L63 = L112 := Eq.symm axL112
            subst axL112
            have hP : va_P D vwCl (mw ad kk ks.1 V111 L63) H := hP
            have hD : va_D A (mw ad kk ks.1 V111 L63) := hD
            have hMV111 : rgd bM V111 := hMV111
            have ajV111 : agr [(0, 48)] [45, 46, 47] V62 V111 := ajV111
            have agV111 : agr [(0, 7), (0, 8), (0, 48), (0, 50)] [35, 36, 37, 38, 45, 46, 47] V V111 := agV62.tr ajV111 (by decide) (by decide)
            have rgz105 : 0 ≤ z105.toInt ∧ z105.toInt ≤ 20000 := rgz105
            have t108 : (V111 0 48).toInt = (V62 0 48).toInt + 1 := t108
            have t109 : z105.toInt = (V62 0 49).toInt + (V62 0 48).toInt := t109
            have t110 : emitted V62 V111 (pA V62) 8 0 0 := t110
            have r113 : 0 ≤ ((V111 0 48)).toInt ∧ ((V111 0 48)).toInt ≤ 10000 := hMV111 0 48
            have pq114 : (V62 0 49).toInt = ((V 0 49)).toInt := congrArg Int32.toInt ((ajV62 0 49 rfl).trans ((up2_k hV41 (by decide)).trans (ajV17 0 49 rfl)))
            have r115 : 0 ≤ ((V 0 49)).toInt ∧ ((V 0 49)).toInt ≤ 10000 := hMV 0 49
            refine lv_istore_n (lv' := [(2, .int z105), (1, .int z31), (0, .ref (ad 0))]) hx hb dX12_expression_55 rfl hl (by decide) rfl (fun ls hl => ?_)
            have pq116 : (V111 0 7).toInt = ((V62 0 7)).toInt := congrArg Int32.toInt (ajV111 0 7 rfl)
            have pq117 : (V111 0 8).toInt = ((V62 0 8)).toInt := congrArg Int32.toInt (ajV111 0 8 rfl)
            have pq118 : (V111 0 50).toInt = ((V62 0 50)).toInt := congrArg Int32.toInt (ajV111 0 50 rfl)
            have rw119 : RoV 35 bq V V111 := (fun k hk => ((ajV111 35 k rfl).trans ((t58 k hk).trans ((up2_o hV41 (by decide)).trans ((t13 k hk).trans rfl)))))
            have rw120 : RoV 37 bq V V111 := (fun k hk => ((ajV111 37 k rfl).trans ((t59 k hk).trans ((up2_o hV41 (by decide)).trans ((t14 k hk).trans rfl)))))
            have rw121 : RoL 36 20 bq L L63 := (fun k hk => ((t60 k hk).trans ((t15 k hk).trans rfl)))
            have rw122 : RoL 38 20 bq L L63 := (fun k hk => ((t61 k hk).trans ((t16 k hk).trans rfl)))
            exact W.vret hx hb hr (fun t ht hW => ⟨⟨(V111, L63), rfl, ⟨hMV111, agV111, alL63, (Imp.mk (fun hp => have hp : (V111 0 8).toInt = 0 := hp; (show (V111 0 48).toInt - (V 0 48).toInt ≤ 2 * ((V111 0 7).toInt - (V 0 7).toInt) from by first | omega | ((try (have i_t53 := Imp.go t53 (by omega))); (try (have i_t8 := Imp.go t8 (by omega))); (try (have i_t8 := Imp.go t8 (by omega))); (try (have i_t53 := Imp.go t53 (by omega))); omega)))), (show (V111 0 48).toInt ≤ 8051 - 6 * (V 0 50).toInt from by first | omega | ((try (have i_t53 := Imp.go t53 (by omega))); (try (have i_t8 := Imp.go t8 (by omega))); (try (have i_t8 := Imp.go t8 (by omega))); (try (have i_t53 := Imp.go t53 (by omega))); omega)), (show (V111 0 50).toInt = (V 0 50).toInt from by first | omega | ((try (have i_t53 := Imp.go t53 (by omega))); (try (have i_t8 := Imp.go t8 (by omega))); (try (have i_t8 := Imp.go t8 (by omega))); (try (have i_t53 := Imp.go t53 (by omega))); omega)), (show (V 0 48).toInt ≤ (V111 0 48).toInt from by first | omega | ((try (have i_t53 := Imp.go t53 (by omega))); (try (have i_t8 := Imp.go t8 (by omega))); (try (have i_t8 := Imp.go t8 (by omega))); (try (have i_t53 := Imp.go t53 (by omega))); omega)), (Or.inr ⟨(show 1 ≤ (V111 0 8).toInt from by omega), (fun k => by rw [show (V111 0 8).toInt = (V62 0 8).toInt from by omega]; exact hb99 k)⟩), rw119, rw120, rw121, rw122⟩, by rw [ht]; exact hP, va_K.moved hW.alike hK, hD⟩, hS.F ht⟩) hS.2.2 dX12_expression_56
      · skip
        have f123 : z31.toInt = 0 := b_eq rfl (by decide) c38
        exfalso; first | omega | ((try (have i_t8 := Imp.go t8 (by omega))); omega)
    · skip
      have kd124 : gT.1 (sx23.1 0) ≠ 60 := fun h9 => h36 (h9.trans (by decide))
      refine lv_istore_n (lv' := [(1, .int z31), (0, .ref (ad 0))]) hx hb dX12_expression_10 rfl hl (by decide) rfl (fun ls hl => ?_)
      refine lv_iload_n hx hb dX12_expression_11 rfl (lv_at hl 0 rfl) ?_
      refine lv_if_ne (tgt := 24) hx hb dX12_expression_12 (by decide) (fun c125 => ?_) (fun c125 => ?_)
      · skip
        have f126 : z31.toInt ≠ 0 := b_neq rfl (by decide) c125
        exfalso; first | omega | ((try (have i_t8 := Imp.go t8 (by omega))); omega)
      · skip
        have f127 : z31.toInt = 0 := b_eq rfl (by decide) c125
        refine lv_aload_n hx hb dX12_expression_15 rfl (lv_at hl 1 rfl) ?_
        refine lv_bipush (v := 61) hx hb dX12_expression_16 (by decide) ?_
        have r128 : Int32.toInt 61 = 61 := by decide
        refine gA_int (gA_runV (As := [.int 61]) (rest := []) (ci := 12) (q0 := 0) hx hb hml hown hg hP hD hK hS hA hnw hgk (s_isSignA l D ks H.size ad kk V17 L18 61 (bq) (gn) (gT) (sx23) (gl) hMV17 rl25 (sg_yes (j := 61) (by decide) (by decide) (by decide))) w2075 w2077 w95 w172 w2078 rfl rfl hdV_yX12_isSign ⟨(by show 0 + 1 ≤ 10 * dd + 13; omega), (by show 8 + (2 + 11) + (0) ≤ 300 * dd + 420; omega)⟩ rfl hl.1 rfl (Nat.le_of_ble_eq_true rfl) dX12_expression_18 ⟨Nat.le_of_ble_eq_true rfl, Nat.le_of_ble_eq_true rfl⟩) hP hD hK hS hA (fun z129 u130 H locs w131 hP hD hK hS => ?_)
        obtain ⟨rgz129, t132⟩ := w131
        have rgz129 : 0 ≤ z129.toInt ∧ z129.toInt ≤ 1 := rgz129
        have t132 : (z129.toInt = 1 ∧ (gT).1 ((sx23).1 0) = (Int32.toInt 61)) ∨ (z129.toInt = 0 ∧ (gT).1 ((sx23).1 0) ≠ (Int32.toInt 61)) := t132
        rcases t132 with ⟨q133, h134⟩ | ⟨q133, h134⟩
        · skip
          have kd135 : gT.1 (sx23.1 0) = 61 := h134.trans (by decide)
          refine lv_if_eq (tgt := 56) hx hb dX12_expression_21 (by decide) (fun c136 => ?_) (fun c136 => ?_)
          · skip
            have f137 : z129.toInt = 0 := b_eq rfl (by decide) c136
            exfalso; first | omega | ((try (have i_t8 := Imp.go t8 (by omega))); omega)
          · skip
            have f138 : z129.toInt ≠ 0 := b_neq rfl (by decide) c136
            refine lv_aload_n hx hb dX12_expression_24 rfl (lv_at hl 1 rfl) ?_
            refine lv_dup hx hb dX12_expression_25 rfl ?_
            refine va_get (D := D) (ci := 12) (v := .int (V17 0 7)) (C := RX12) (T := TX12) (N := 100) hx hb hg inX12 hown hK hP 0 rfl rfl 7 (by decide) (hg _ w1717) (fun _ h9 => h9) rfl dX12_expression_26 ?_
            refine lv_iconst (v := 1) hx hb dX12_expression_29 (by decide) ?_
            refine lv_iadd hx hb dX12_expression_30 ?_
            refine lv_topi (fun z139 ez139 => ?_)
            have hz139 : z139.toInt = ((V17 0 7)).toInt + 1 := i_add ez139 rfl (by decide) (by omega)
            refine va_put (D := D) (ci := 12) (v := .int z139) (ty := tyX12 7) (C := RX12) (T := TX12) (N := 100) hx hb hg inX12 tyX12 tyX12_ok nmX12 hown hK hP hD hS 0 rfl rfl 7 (by decide) (hg _ w1717) (fun _ h9 => h9) rfl (tyX12_ok 7 (by decide)) rfl rfl (Nat.le_of_ble_eq_true rfl) dX12_expression_31 (fun H locs hP hD hS => ?_)
            obtain ⟨V140, hV140⟩ : ∃ z, z = up2 V17 0 7 z139 := ⟨_, rfl⟩
            have hP : va_P D vwCl (mw ad kk ks.1 V140 L18) H := by rw [hV140]; exact hP
            have hD : va_D A (mw ad kk ks.1 V140 L18) := by rw [hV140]; exact hD
            have hMV140 : rgd bM V140 := hMV17.put hV140 (i_full _)
            have agV140 : agr [(0, 7), (0, 8), (0, 48), (0, 50)] [35, 36, 37, 38, 45, 46, 47] V V140 := agV17.up hV140 rfl
            have hr141 : ∀ k, Rc gT (Crun gs (Iexpr gd :: k)) (Crun (nx sx23 1) (Isum gd :: k)) := fun k => Rc.go1 (hr27 k) (cmp_y gd (Or.inr kd135))
            have rl142 : RelM V140 L18 bq gn gT (nx sx23 1) gl := RelM.n1 rl25 hV140 (by omega) (by rw [kd135]; decide)
            have ps143 : (nx sx23 1).1 0 = sx23.1 0 + 1 := rfl
            have fz144 := RelM.rg rl142
            have pq145 : (V140 0 8).toInt = ((V17 0 8)).toInt := congrArg Int32.toInt (up2_k hV140 (by decide))
            have pq146 : (V140 0 7).toInt = z139.toInt := congrArg Int32.toInt (up2_s hV140)
            refine lv_aload_n hx hb dX12_expression_34 rfl (lv_at hl 1 rfl) ?_
            have pq147 : (V140 0 48).toInt = ((V17 0 48)).toInt := congrArg Int32.toInt (up2_k hV140 (by decide))
            have pq148 : (V140 0 50).toInt = ((V17 0 50)).toInt := congrArg Int32.toInt (up2_k hV140 (by decide))
            refine gA_void (gA_runV (As := []) (rest := []) (ci := 12) (q0 := 0) hx hb hml hown hg hP hD hK hS hA hnw hgk (hk_s_sumA H.size ad kk V140 L18 (bq) (gn) (gT) ((nx sx23 1)) (gl) (gd) hMV140 rl142 (show (V140 0 48).toInt ≤ 2 * (V140 0 7).toInt from by first | omega | ((try (have i_t8 := Imp.go t8 (by omega))); omega)) (show (V140 0 50).toInt = ((gd) : Int) from by first | omega | ((try (have i_t8 := Imp.go t8 (by omega))); omega)) (show (V140 0 50).toInt + (dd : Int) = 8 from by first | omega | ((try (have i_t8 := Imp.go t8 (by omega))); omega)) (EM.mv em ((up2_k hV140 (by decide)).trans (ajV17 0 51 rfl)) ((up2_k hV140 (by decide)).trans (ajV17 0 52 rfl)) (by rw [(up2_fo hV140 (by decide) : V140 27 = V17 27), (funext (fun q => ajV17 27 q rfl) : V17 27 = V 27)] : V140 27 = V 27) ((keepS.tr (keepS.tr (keepS.rf : keepS gs 0 gs) kp26) (keepS.n1 1))).2.1)) w2124 w2126 w107 w172 w2127 rfl rfl hdV_yX12_sum ⟨(by show 10 * dd + 12 + 1 ≤ 10 * dd + 13; omega), (by show 8 + (3 + 11) + (300 * dd + 380) ≤ 300 * dd + 420; omega)⟩ rfl hl.1 rfl (Nat.le_of_ble_eq_true rfl) dX12_expression_35 ⟨Nat.le_of_ble_eq_true rfl, Nat.le_of_ble_eq_true rfl⟩) hP hD hK hS hA (fun u150 H locs w151 hP hD hK hS => ?_)
            obtain ⟨V161, L162⟩ := u150
            obtain ⟨hMV161, ajV161, axL162, t152, t153, t154, t155, t156, t157, t158, t159, t160⟩ := w151
            have alL162 : agL [35, 36, 37, 38, 45, 46, 47] L L162 := agL.tr alL18 axL162 (by decide)
            have hP : va_P D vwCl (mw ad kk ks.1 V161 L162) H := hP
            have hD : va_D A (mw ad kk ks.1 V161 L162) := hD
            have hMV161 : rgd bM V161 := hMV161
            have ajV161 : agr [(0, 7), (0, 8), (0, 48), (0, 50)] [35, 36, 37, 38, 45, 46, 47] V140 V161 := ajV161
            have agV161 : agr [(0, 7), (0, 8), (0, 48), (0, 50)] [35, 36, 37, 38, 45, 46, 47] V V161 := agV140.tr ajV161 (by decide) (by decide)
            have t152 : Imp ((V161 0 8).toInt = 0) ((V161 0 48).toInt - (V140 0 48).toInt ≤ 2 * ((V161 0 7).toInt - (V140 0 7).toInt)) := t152
            have t153 : (V161 0 48).toInt ≤ 8050 - 6 * (V140 0 50).toInt := t153
            have t154 : (V161 0 50).toInt = (V140 0 50).toInt := t154
            have t155 : (V140 0 48).toInt ≤ (V161 0 48).toInt := t155
            have t156 : RdM (gT) ((nx sx23 1)) (fun k => Isum (gd) :: k) (fun k => k) (V161 0 8).toInt (fun s9 => RelM V161 L162 (bq) (gn) (gT) s9 (gl) ∧ keepS ((nx sx23 1)) 1 s9) := t156
            have t157 : RoV 35 (bq) V140 V161 := t157
            have t158 : RoV 37 (bq) V140 V161 := t158
            have t159 : RoL 36 20 (bq) L18 L162 := t159
            have t160 : RoL 38 20 (bq) L18 L162 := t160
            have r163 : 0 ≤ ((V161 0 48)).toInt ∧ ((V161 0 48)).toInt ≤ 10000 := hMV161 0 48
            have r164 : 0 ≤ ((V161 0 8)).toInt ∧ ((V161 0 8)).toInt ≤ 70000 := hMV161 0 8
            have r165 : 0 ≤ ((V161 0 50)).toInt ∧ ((V161 0 50)).toInt ≤ 9 := hMV161 0 50
            rcases t156 with ⟨q166, sx167, h168, rl169, kp170⟩ | ⟨q166, h168⟩
            · skip
              have hr171 : ∀ k, Rc gT (Crun gs (Iexpr gd :: k)) (Crun sx167 (k)) := fun k => (hr141 k).tr (h168 (k))
              have fz172 := RelM.rg rl169
              have ps173 := (kp170).1
              refine lv_aload_n hx hb dX12_expression_38 rfl (lv_at hl 1 rfl) ?_
              refine lv_iload_n hx hb dX12_expression_39 rfl (lv_at hl 0 rfl) ?_
              refine lv_if_eq (tgt := 48) hx hb dX12_expression_40 (by decide) (fun c174 => ?_) (fun c174 => ?_)
              · skip
                have f175 : z31.toInt = 0 := b_eq rfl (by decide) c174
                refine lv_bipush (v := 9) hx hb dX12_expression_48 (by decide) ?_
                refine lv_iconst (v := 0) hx hb dX12_expression_50 (by decide) ?_
                refine lv_iconst (v := 0) hx hb dX12_expression_51 (by decide) ?_
                have r176 : Int32.toInt 9 = 9 := by decide
                have r177 : Int32.toInt 0 = 0 := by decide
                refine gA_int (gA_runV (As := [.int 9, .int 0, .int 0]) (rest := []) (ci := 12) (q0 := 0) hx hb hml hown hg hP hD hK hS hA hnw hgk (s_emit3 l D ks H.size ad kk V161 L162 9 0 0 hMV161 (show (V161 0 48).toInt ≤ 9999 from by first | omega | ((try (have i_t152 := Imp.go t152 (by omega))); (try (have i_t8 := Imp.go t8 (by omega))); (try (have i_t8 := Imp.go t8 (by omega))); (try (have i_t152 := Imp.go t152 (by omega))); omega))) w2140 w2142 w111 w172 w2143 rfl rfl hdV_yX12_emit ⟨(by show 0 + 1 ≤ 10 * dd + 13; omega), (by show 8 + (4 + 11) + (0) ≤ 300 * dd + 420; omega)⟩ rfl hl.1 rfl (Nat.le_of_ble_eq_true rfl) dX12_expression_52 ⟨Nat.le_of_ble_eq_true rfl, Nat.le_of_ble_eq_true rfl⟩) hP hD hK hS hA (fun z178 u179 H locs w180 hP hD hK hS => ?_)
                obtain ⟨V184, L185⟩ := u179
                obtain ⟨hMV184, ajV184, axL185, rgz178, t181, t182, t183⟩ := w180
                have axL185 : L162 = L185 := Eq.symm axL185
                subst axL185
                have hP : va_P D vwCl (mw ad kk ks.1 V184 L162) H := hP
                have hD : va_D A (mw ad kk ks.1 V184 L162) := hD
                have hMV184 : rgd bM V184 := hMV184
                have ajV184 : agr [(0, 48)] [45, 46, 47] V161 V184 := ajV184
                have agV184 : agr [(0, 7), (0, 8), (0, 48), (0, 50)] [35, 36, 37, 38, 45, 46, 47] V V184 := agV161.tr ajV184 (by decide) (by decide)
                have rgz178 : 0 ≤ z178.toInt ∧ z178.toInt ≤ 20000 := rgz178
                have t181 : (V184 0 48).toInt = (V161 0 48).toInt + 1 := t181
                have t182 : z178.toInt = (V161 0 49).toInt + (V161 0 48).toInt := t182
                have t183 : emitted V161 V184 (pA V161) 9 0 0 := t183
                have r186 : 0 ≤ ((V184 0 48)).toInt ∧ ((V184 0 48)).toInt ≤ 10000 := hMV184 0 48
                have pq187 : (V161 0 49).toInt = ((V 0 49)).toInt := congrArg Int32.toInt ((ajV161 0 49 rfl).trans ((up2_k hV140 (by decide)).trans (ajV17 0 49 rfl)))
                have r188 : 0 ≤ ((V 0 49)).toInt ∧ ((V 0 49)).toInt ≤ 10000 := hMV 0 49
                refine lv_istore_n (lv' := [(2, .int z178), (1, .int z31), (0, .ref (ad 0))]) hx hb dX12_expression_55 rfl hl (by decide) rfl (fun ls hl => ?_)
                have pq189 : (V184 0 7).toInt = ((V161 0 7)).toInt := congrArg Int32.toInt (ajV184 0 7 rfl)
                have pq190 : (V184 0 8).toInt = ((V161 0 8)).toInt := congrArg Int32.toInt (ajV184 0 8 rfl)
                have pq191 : (V184 0 50).toInt = ((V161 0 50)).toInt := congrArg Int32.toInt (ajV184 0 50 rfl)
                have rl192 : RelM V184 L162 bq gn gT sx167 gl := RelM.ag rl169 (show agr [(0, 48)] [45, 46, 47] V161 V184 from (agr.tr agr.rf ajV184 (by decide) (by decide))) (by decide) (show agL [] L162 L162 from agL.rf) (by decide)
                have rw193 : RoV 35 bq V V184 := (fun k hk => ((ajV184 35 k rfl).trans ((t157 k hk).trans ((up2_o hV140 (by decide)).trans ((t13 k hk).trans rfl)))))
                have rw194 : RoV 37 bq V V184 := (fun k hk => ((ajV184 37 k rfl).trans ((t158 k hk).trans ((up2_o hV140 (by decide)).trans ((t14 k hk).trans rfl)))))
                have rw195 : RoL 36 20 bq L L162 := (fun k hk => ((t159 k hk).trans ((t15 k hk).trans rfl)))
                have rw196 : RoL 38 20 bq L L162 := (fun k hk => ((t160 k hk).trans ((t16 k hk).trans rfl)))
                exact W.vret hx hb hr (fun t ht hW => ⟨⟨(V184, L162), rfl, ⟨hMV184, agV184, alL162, (Imp.mk (fun hp => have hp : (V184 0 8).toInt = 0 := hp; (show (V184 0 48).toInt - (V 0 48).toInt ≤ 2 * ((V184 0 7).toInt - (V 0 7).toInt) from by first | omega | ((try (have i_t152 := Imp.go t152 (by omega))); (try (have i_t8 := Imp.go t8 (by omega))); (try (have i_t8 := Imp.go t8 (by omega))); (try (have i_t152 := Imp.go t152 (by omega))); omega)))), (show (V184 0 48).toInt ≤ 8051 - 6 * (V 0 50).toInt from by first | omega | ((try (have i_t152 := Imp.go t152 (by omega))); (try (have i_t8 := Imp.go t8 (by omega))); (try (have i_t8 := Imp.go t8 (by omega))); (try (have i_t152 := Imp.go t152 (by omega))); omega)), (show (V184 0 50).toInt = (V 0 50).toInt from by first | omega | ((try (have i_t152 := Imp.go t152 (by omega))); (try (have i_t8 := Imp.go t8 (by omega))); (try (have i_t8 := Imp.go t8 (by omega))); (try (have i_t152 := Imp.go t152 (by omega))); omega)), (show (V 0 48).toInt ≤ (V184 0 48).toInt from by first | omega | ((try (have i_t152 := Imp.go t152 (by omega))); (try (have i_t8 := Imp.go t8 (by omega))); (try (have i_t8 := Imp.go t8 (by omega))); (try (have i_t152 := Imp.go t152 (by omega))); omega)), (Or.inl ⟨W0 rl192, sx167, hr171, rl192, keepS.le (keepS.tr (keepS.tr (keepS.tr (keepS.rf : keepS gs 0 gs) kp26) (keepS.n1 1)) kp170) (by decide)⟩), rw193, rw194, rw195, rw196⟩, by rw [ht]; exact hP, va_K.moved hW.alike hK, hD⟩, hS.F ht⟩) hS.2.2 dX12_expression_56
              · skip
                have f197 : z31.toInt ≠ 0 := b_neq rfl (by decide) c174
                exfalso; first | omega | ((try (have i_t152 := Imp.go t152 (by omega))); (try (have i_t8 := Imp.go t8 (by omega))); (try (have i_t8 := Imp.go t8 (by omega))); (try (have i_t152 := Imp.go t152 (by omega))); omega)
            · skip
              have hb198 : ∀ k, Rc gT (Crun gs (Iexpr gd :: k)) (Cbad (V161 0 8).toInt) := fun k => (hr141 k).tr (h168 (k))
              refine lv_aload_n hx hb dX12_expression_38 rfl (lv_at hl 1 rfl) ?_
              refine lv_iload_n hx hb dX12_expression_39 rfl (lv_at hl 0 rfl) ?_
              refine lv_if_eq (tgt := 48) hx hb dX12_expression_40 (by decide) (fun c199 => ?_) (fun c199 => ?_)
              · skip
                have f200 : z31.toInt = 0 := b_eq rfl (by decide) c199
                refine lv_bipush (v := 9) hx hb dX12_expression_48 (by decide) ?_
                refine lv_iconst (v := 0) hx hb dX12_expression_50 (by decide) ?_
                refine lv_iconst (v := 0) hx hb dX12_expression_51 (by decide) ?_
                have r201 : Int32.toInt 9 = 9 := by decide
                have r202 : Int32.toInt 0 = 0 := by decide
                refine gA_int (gA_runV (As := [.int 9, .int 0, .int 0]) (rest := []) (ci := 12) (q0 := 0) hx hb hml hown hg hP hD hK hS hA hnw hgk (s_emit3 l D ks H.size ad kk V161 L162 9 0 0 hMV161 (show (V161 0 48).toInt ≤ 9999 from by first | omega | ((try (have i_t152 := Imp.go t152 (by omega))); (try (have i_t8 := Imp.go t8 (by omega))); (try (have i_t8 := Imp.go t8 (by omega))); (try (have i_t152 := Imp.go t152 (by omega))); omega))) w2140 w2142 w111 w172 w2143 rfl rfl hdV_yX12_emit ⟨(by show 0 + 1 ≤ 10 * dd + 13; omega), (by show 8 + (4 + 11) + (0) ≤ 300 * dd + 420; omega)⟩ rfl hl.1 rfl (Nat.le_of_ble_eq_true rfl) dX12_expression_52 ⟨Nat.le_of_ble_eq_true rfl, Nat.le_of_ble_eq_true rfl⟩) hP hD hK hS hA (fun z203 u204 H locs w205 hP hD hK hS => ?_)
                obtain ⟨V209, L210⟩ := u204
                obtain ⟨hMV209, ajV209, axL210, rgz203, t206, t207, t208⟩ := w205
                have axL210 : L162 = L210 := Eq.symm axL210
                subst axL210
                have hP : va_P D vwCl (mw ad kk ks.1 V209 L162) H := hP
                have hD : va_D A (mw ad kk ks.1 V209 L162) := hD
                have hMV209 : rgd bM V209 := hMV209
                have ajV209 : agr [(0, 48)] [45, 46, 47] V161 V209 := ajV209
                have agV209 : agr [(0, 7), (0, 8), (0, 48), (0, 50)] [35, 36, 37, 38, 45, 46, 47] V V209 := agV161.tr ajV209 (by decide) (by decide)
                have rgz203 : 0 ≤ z203.toInt ∧ z203.toInt ≤ 20000 := rgz203
                have t206 : (V209 0 48).toInt = (V161 0 48).toInt + 1 := t206
                have t207 : z203.toInt = (V161 0 49).toInt + (V161 0 48).toInt := t207
                have t208 : emitted V161 V209 (pA V161) 9 0 0 := t208
                have r211 : 0 ≤ ((V209 0 48)).toInt ∧ ((V209 0 48)).toInt ≤ 10000 := hMV209 0 48
                have pq212 : (V161 0 49).toInt = ((V 0 49)).toInt := congrArg Int32.toInt ((ajV161 0 49 rfl).trans ((up2_k hV140 (by decide)).trans (ajV17 0 49 rfl)))
                have r213 : 0 ≤ ((V 0 49)).toInt ∧ ((V 0 49)).toInt ≤ 10000 := hMV 0 49
                refine lv_istore_n (lv' := [(2, .int z203), (1, .int z31), (0, .ref (ad 0))]) hx hb dX12_expression_55 rfl hl (by decide) rfl (fun ls hl => ?_)
                have pq214 : (V209 0 7).toInt = ((V161 0 7)).toInt := congrArg Int32.toInt (ajV209 0 7 rfl)
                have pq215 : (V209 0 8).toInt = ((V161 0 8)).toInt := congrArg Int32.toInt (ajV209 0 8 rfl)
                have pq216 : (V209 0 50).toInt = ((V161 0 50)).toInt := congrArg Int32.toInt (ajV209 0 50 rfl)
                have rw217 : RoV 35 bq V V209 := (fun k hk => ((ajV209 35 k rfl).trans ((t157 k hk).trans ((up2_o hV140 (by decide)).trans ((t13 k hk).trans rfl)))))
                have rw218 : RoV 37 bq V V209 := (fun k hk => ((ajV209 37 k rfl).trans ((t158 k hk).trans ((up2_o hV140 (by decide)).trans ((t14 k hk).trans rfl)))))
                have rw219 : RoL 36 20 bq L L162 := (fun k hk => ((t159 k hk).trans ((t15 k hk).trans rfl)))
                have rw220 : RoL 38 20 bq L L162 := (fun k hk => ((t160 k hk).trans ((t16 k hk).trans rfl)))
                exact W.vret hx hb hr (fun t ht hW => ⟨⟨(V209, L162), rfl, ⟨hMV209, agV209, alL162, (Imp.mk (fun hp => have hp : (V209 0 8).toInt = 0 := hp; (show (V209 0 48).toInt - (V 0 48).toInt ≤ 2 * ((V209 0 7).toInt - (V 0 7).toInt) from by first | omega | ((try (have i_t152 := Imp.go t152 (by omega))); (try (have i_t8 := Imp.go t8 (by omega))); (try (have i_t8 := Imp.go t8 (by omega))); (try (have i_t152 := Imp.go t152 (by omega))); omega)))), (show (V209 0 48).toInt ≤ 8051 - 6 * (V 0 50).toInt from by first | omega | ((try (have i_t152 := Imp.go t152 (by omega))); (try (have i_t8 := Imp.go t8 (by omega))); (try (have i_t8 := Imp.go t8 (by omega))); (try (have i_t152 := Imp.go t152 (by omega))); omega)), (show (V209 0 50).toInt = (V 0 50).toInt from by first | omega | ((try (have i_t152 := Imp.go t152 (by omega))); (try (have i_t8 := Imp.go t8 (by omega))); (try (have i_t8 := Imp.go t8 (by omega))); (try (have i_t152 := Imp.go t152 (by omega))); omega)), (show (V 0 48).toInt ≤ (V209 0 48).toInt from by first | omega | ((try (have i_t152 := Imp.go t152 (by omega))); (try (have i_t8 := Imp.go t8 (by omega))); (try (have i_t8 := Imp.go t8 (by omega))); (try (have i_t152 := Imp.go t152 (by omega))); omega)), (Or.inr ⟨(show 1 ≤ (V209 0 8).toInt from by omega), (fun k => by rw [show (V209 0 8).toInt = (V161 0 8).toInt from by omega]; exact hb198 k)⟩), rw217, rw218, rw219, rw220⟩, by rw [ht]; exact hP, va_K.moved hW.alike hK, hD⟩, hS.F ht⟩) hS.2.2 dX12_expression_56
              · skip
                have f221 : z31.toInt ≠ 0 := b_neq rfl (by decide) c199
                exfalso; first | omega | ((try (have i_t152 := Imp.go t152 (by omega))); (try (have i_t8 := Imp.go t8 (by omega))); (try (have i_t8 := Imp.go t8 (by omega))); (try (have i_t152 := Imp.go t152 (by omega))); omega)
        · skip
          have kd222 : gT.1 (sx23.1 0) ≠ 61 := fun h9 => h134 (h9.trans (by decide))
          refine lv_if_eq (tgt := 56) hx hb dX12_expression_21 (by decide) (fun c223 => ?_) (fun c223 => ?_)
          · skip
            have f224 : z129.toInt = 0 := b_eq rfl (by decide) c223
            have hr225 : ∀ k, Rc gT (Crun gs (Iexpr gd :: k)) (Crun sx23 (k)) := fun k => Rc.go1 (hr27 k) (cmp_n gd kd124 kd222)
            have rw226 : RoV 35 bq V V17 := (fun k hk => ((t13 k hk).trans rfl))
            have rw227 : RoV 37 bq V V17 := (fun k hk => ((t14 k hk).trans rfl))
            have rw228 : RoL 36 20 bq L L18 := (fun k hk => ((t15 k hk).trans rfl))
            have rw229 : RoL 38 20 bq L L18 := (fun k hk => ((t16 k hk).trans rfl))
            exact W.vret hx hb hr (fun t ht hW => ⟨⟨(V17, L18), rfl, ⟨hMV17, agV17, alL18, (Imp.mk (fun hp => have hp : (V17 0 8).toInt = 0 := hp; (show (V17 0 48).toInt - (V 0 48).toInt ≤ 2 * ((V17 0 7).toInt - (V 0 7).toInt) from by first | omega | ((try (have i_t8 := Imp.go t8 (by omega))); omega)))), (show (V17 0 48).toInt ≤ 8051 - 6 * (V 0 50).toInt from by first | omega | ((try (have i_t8 := Imp.go t8 (by omega))); omega)), (show (V17 0 50).toInt = (V 0 50).toInt from by first | omega | ((try (have i_t8 := Imp.go t8 (by omega))); omega)), (show (V 0 48).toInt ≤ (V17 0 48).toInt from by first | omega | ((try (have i_t8 := Imp.go t8 (by omega))); omega)), (Or.inl ⟨W0 rl25, sx23, hr225, rl25, keepS.le (keepS.tr (keepS.rf : keepS gs 0 gs) kp26) (by decide)⟩), rw226, rw227, rw228, rw229⟩, by rw [ht]; exact hP, va_K.moved hW.alike hK, hD⟩, hS.F ht⟩) hS.2.2 dX12_expression_56
          · skip
            have f230 : z129.toInt ≠ 0 := b_neq rfl (by decide) c223
            exfalso; first | omega | ((try (have i_t8 := Imp.go t8 (by omega))); omega)
  · skip
    have hb231 : ∀ k, Rc gT (Crun gs (Iexpr gd :: k)) (Cbad (V17 0 8).toInt) := fun k => (hr4 k).tr (h24 (Icmp gd :: k))
    refine lv_aload_n hx hb dX12_expression_4 rfl (lv_at hl 0 rfl) ?_
    refine lv_bipush (v := 60) hx hb dX12_expression_5 (by decide) ?_
    have r232 : Int32.toInt 60 = 60 := by decide
    refine gA_int (gA_runV (As := [.int 60]) (rest := []) (ci := 12) (q0 := 0) hx hb hml hown hg hP hD hK hS hA hnw hgk (s_isSignB l D ks H.size ad kk V17 L18 60 hMV17 (show 1 ≤ (V17 0 8).toInt from by first | omega | ((try (have i_t8 := Imp.go t8 (by omega))); omega))) w2075 w2077 w95 w172 w2078 rfl rfl hdV_yX12_isSign ⟨(by show 0 + 1 ≤ 10 * dd + 13; omega), (by show 8 + (2 + 11) + (0) ≤ 300 * dd + 420; omega)⟩ rfl hl.1 rfl (Nat.le_of_ble_eq_true rfl) dX12_expression_7 ⟨Nat.le_of_ble_eq_true rfl, Nat.le_of_ble_eq_true rfl⟩) hP hD hK hS hA (fun z233 u234 H locs w235 hP hD hK hS => ?_)
    have rgz233 := w235
    have rgz233 : 0 ≤ z233.toInt ∧ z233.toInt ≤ 0 := rgz233
    refine lv_istore_n (lv' := [(1, .int z233), (0, .ref (ad 0))]) hx hb dX12_expression_10 rfl hl (by decide) rfl (fun ls hl => ?_)
    refine lv_iload_n hx hb dX12_expression_11 rfl (lv_at hl 0 rfl) ?_
    refine lv_if_ne (tgt := 24) hx hb dX12_expression_12 (by decide) (fun c236 => ?_) (fun c236 => ?_)
    · skip
      have f237 : z233.toInt ≠ 0 := b_neq rfl (by decide) c236
      exfalso; first | omega | ((try (have i_t8 := Imp.go t8 (by omega))); omega)
    · skip
      have f238 : z233.toInt = 0 := b_eq rfl (by decide) c236
      refine lv_aload_n hx hb dX12_expression_15 rfl (lv_at hl 1 rfl) ?_
      refine lv_bipush (v := 61) hx hb dX12_expression_16 (by decide) ?_
      have r239 : Int32.toInt 61 = 61 := by decide
      refine gA_int (gA_runV (As := [.int 61]) (rest := []) (ci := 12) (q0 := 0) hx hb hml hown hg hP hD hK hS hA hnw hgk (s_isSignB l D ks H.size ad kk V17 L18 61 hMV17 (show 1 ≤ (V17 0 8).toInt from by first | omega | ((try (have i_t8 := Imp.go t8 (by omega))); omega))) w2075 w2077 w95 w172 w2078 rfl rfl hdV_yX12_isSign ⟨(by show 0 + 1 ≤ 10 * dd + 13; omega), (by show 8 + (2 + 11) + (0) ≤ 300 * dd + 420; omega)⟩ rfl hl.1 rfl (Nat.le_of_ble_eq_true rfl) dX12_expression_18 ⟨Nat.le_of_ble_eq_true rfl, Nat.le_of_ble_eq_true rfl⟩) hP hD hK hS hA (fun z240 u241 H locs w242 hP hD hK hS => ?_)
      have rgz240 := w242
      have rgz240 : 0 ≤ z240.toInt ∧ z240.toInt ≤ 0 := rgz240
      refine lv_if_eq (tgt := 56) hx hb dX12_expression_21 (by decide) (fun c243 => ?_) (fun c243 => ?_)
      · skip
        have f244 : z240.toInt = 0 := b_eq rfl (by decide) c243
        have rw245 : RoV 35 bq V V17 := (fun k hk => ((t13 k hk).trans rfl))
        have rw246 : RoV 37 bq V V17 := (fun k hk => ((t14 k hk).trans rfl))
        have rw247 : RoL 36 20 bq L L18 := (fun k hk => ((t15 k hk).trans rfl))
        have rw248 : RoL 38 20 bq L L18 := (fun k hk => ((t16 k hk).trans rfl))
        exact W.vret hx hb hr (fun t ht hW => ⟨⟨(V17, L18), rfl, ⟨hMV17, agV17, alL18, (Imp.mk (fun hp => have hp : (V17 0 8).toInt = 0 := hp; (show (V17 0 48).toInt - (V 0 48).toInt ≤ 2 * ((V17 0 7).toInt - (V 0 7).toInt) from by first | omega | ((try (have i_t8 := Imp.go t8 (by omega))); omega)))), (show (V17 0 48).toInt ≤ 8051 - 6 * (V 0 50).toInt from by first | omega | ((try (have i_t8 := Imp.go t8 (by omega))); omega)), (show (V17 0 50).toInt = (V 0 50).toInt from by first | omega | ((try (have i_t8 := Imp.go t8 (by omega))); omega)), (show (V 0 48).toInt ≤ (V17 0 48).toInt from by first | omega | ((try (have i_t8 := Imp.go t8 (by omega))); omega)), (Or.inr ⟨(show 1 ≤ (V17 0 8).toInt from by omega), hb231⟩), rw245, rw246, rw247, rw248⟩, by rw [ht]; exact hP, va_K.moved hW.alike hK, hD⟩, hS.F ht⟩) hS.2.2 dX12_expression_56
      · skip
        have f249 : z240.toInt ≠ 0 := b_neq rfl (by decide) c243
        exfalso; first | omega | ((try (have i_t8 := Imp.go t8 (by omega))); omega)
set_option maxHeartbeats 4000000 in
set_option maxRecDepth 100000 in
theorem s_sumA {l : Launch} {D : va_G} {ks : KS} {dd : Nat} (hk_s_productA : K_s_productA l D ks dd) : K_s_sumA l D ks dd := by
  intro sz ad kk V L  bq gn gT gs gl gd hMV rel c1 yd c4 em
  refine g_met (q_s_sumA D ks ad kk V L  bq gn gT gs gl gd) (by decide) (Nat.le_of_ble_eq_true rfl) ?_
  intro p e s m below meth c A ls H locs hx hb hr hml hown hg hlocks hin hnw hgk hP hK hD hS hA hl
  have hown : s.vm.findClass RX12 = some m.cls := hown
  have hl : lv_has ls 3 [(0, .ref (ad 0))] := hl
  have hP : va_P D vwCl (mw ad kk ks.1 V L) H := hP
  have hD : va_D A (mw ad kk ks.1 V L) := hD
  have hK : va_K D vwCl (mty kk) s := hK
  have agV : agr [(0, 7), (0, 8), (0, 48), (0, 50)] [35, 36, 37, 38, 45, 46, 47] V V := agr.rf
  have alL : agL [35, 36, 37, 38, 45, 46, 47] L L := agL.rf
  have r1 : 0 ≤ ((V 0 48)).toInt ∧ ((V 0 48)).toInt ≤ 10000 := hMV 0 48
  have r2 : 0 ≤ ((V 0 50)).toInt ∧ ((V 0 50)).toInt ≤ 9 := hMV 0 50
  have rg0 := RelM.rg rel
  have cl0 := RelM.cl rel
  have cq0 := RelM.cq rel
  refine lv_aload_n hx hb dX12_sum_0 rfl (lv_at hl 0 rfl) ?_
  have hr3 : ∀ k, Rc gT (Crun gs (Isum gd :: k)) (Crun gs (Isum gd :: k)) := fun k => Rc.rf
  have hr4 : ∀ k, Rc gT (Crun gs (Isum gd :: k)) (Crun gs (Iprod gd :: IsumR gd :: k)) := fun k => Rc.go1 (hr3 k) (m_sum gd)
  refine gA_void (gA_runV (As := []) (rest := []) (ci := 12) (q0 := 0) hx hb hml hown hg hP hD hK hS hA hnw hgk (hk_s_productA H.size ad kk V L (bq) (gn) (gT) (gs) (gl) (gd) hMV rel (show (V 0 48).toInt ≤ 2 * (V 0 7).toInt from by omega) (show (V 0 50).toInt = ((gd) : Int) from by omega) (show (V 0 50).toInt + (dd : Int) = 8 from by omega) em) w2128 w2130 w108 w172 w2131 rfl rfl hdV_yX12_product ⟨(by show 10 * dd + 11 + 1 ≤ 10 * dd + 12; omega), (by show 8 + (2 + 11) + (300 * dd + 340) ≤ 300 * dd + 380; omega)⟩ rfl hl.1 rfl (Nat.le_of_ble_eq_true rfl) dX12_sum_1 ⟨Nat.le_of_ble_eq_true rfl, Nat.le_of_ble_eq_true rfl⟩) hP hD hK hS hA (fun u6 H locs w7 hP hD hK hS => ?_)
  obtain ⟨V17, L18⟩ := u6
  obtain ⟨hMV17, ajV17, axL18, t8, t9, t10, t11, t12, t13, t14, t15, t16⟩ := w7
  have alL18 : agL [35, 36, 37, 38, 45, 46, 47] L L18 := agL.tr alL axL18 (by decide)
  have hP : va_P D vwCl (mw ad kk ks.1 V17 L18) H := hP
  have hD : va_D A (mw ad kk ks.1 V17 L18) := hD
  have hMV17 : rgd bM V17 := hMV17
  have ajV17 : agr [(0, 7), (0, 8), (0, 48), (0, 50)] [35, 36, 37, 38, 45, 46, 47] V V17 := ajV17
  have agV17 : agr [(0, 7), (0, 8), (0, 48), (0, 50)] [35, 36, 37, 38, 45, 46, 47] V V17 := agV.tr ajV17 (by decide) (by decide)
  have t8 : Imp ((V17 0 8).toInt = 0) ((V17 0 48).toInt - (V 0 48).toInt ≤ 2 * ((V17 0 7).toInt - (V 0 7).toInt)) := t8
  have t9 : (V17 0 48).toInt ≤ 8049 - 6 * (V 0 50).toInt := t9
  have t10 : (V17 0 50).toInt = (V 0 50).toInt := t10
  have t11 : (V 0 48).toInt ≤ (V17 0 48).toInt := t11
  have t12 : RdM (gT) (gs) (fun k => Iprod (gd) :: k) (fun k => k) (V17 0 8).toInt (fun s9 => RelM V17 L18 (bq) (gn) (gT) s9 (gl) ∧ keepS (gs) 1 s9) := t12
  have t13 : RoV 35 (bq) V V17 := t13
  have t14 : RoV 37 (bq) V V17 := t14
  have t15 : RoL 36 20 (bq) L L18 := t15
  have t16 : RoL 38 20 (bq) L L18 := t16
  have r19 : 0 ≤ ((V17 0 48)).toInt ∧ ((V17 0 48)).toInt ≤ 10000 := hMV17 0 48
  have r20 : 0 ≤ ((V17 0 8)).toInt ∧ ((V17 0 8)).toInt ≤ 70000 := hMV17 0 8
  have r21 : 0 ≤ ((V17 0 50)).toInt ∧ ((V17 0 50)).toInt ≤ 9 := hMV17 0 50
  rcases t12 with ⟨q22, sx23, h24, rl25, kp26⟩ | ⟨q22, h24⟩
  · skip
    have hr27 : ∀ k, Rc gT (Crun gs (Isum gd :: k)) (Crun sx23 (IsumR gd :: k)) := fun k => (hr4 k).tr (h24 (IsumR gd :: k))
    have fz28 := RelM.rg rl25
    have ps29 := (kp26).1
    have lp33 : ∀ (fulp33 : Nat) (g32 : Int) (V30 : Vf) (L31 : Lf) (H : Heap) (locs : List Loc) (ls : Array Slot), (((V30 0 8).toInt = 0 ∧ ∃ s1 : St, (∀ k, Rc gT (Crun gs (Isum gd :: k)) (Crun s1 (IsumR gd :: k))) ∧ RelM V30 L31 bq gn gT s1 gl ∧ keepS gs 1 s1) ∨ (1 ≤ (V30 0 8).toInt ∧ ∀ k, Rc gT (Crun gs (Isum gd :: k)) (Cbad (V30 0 8).toInt))) → 0 ≤ g32 → Imp ((V30 0 8).toInt = 0) ((gn : Int) - (V30 0 7).toInt < g32) → Imp ((V30 0 8).toInt = 0) ((V30 0 48).toInt - (V 0 48).toInt ≤ 2 * ((V30 0 7).toInt - (V 0 7).toInt)) → (V30 0 48).toInt ≤ 8050 - 6 * (V 0 50).toInt → (V30 0 50).toInt = (V 0 50).toInt → (V 0 48).toInt ≤ (V30 0 48).toInt → (RoV 35 bq V V30) → (RoV 37 bq V V30) → (RoL 36 20 bq L L31) → (RoL 38 20 bq L L31) → g32 < (fulp33 : Int) → agL [35, 36, 37, 38, 45, 46, 47] L L31 → agr [(0, 7), (0, 8), (0, 48), (0, 50)] [35, 36, 37, 38, 45, 46, 47] V17 V30 → rgd bM V30 → va_P D vwCl (mw ad kk ks.1 V30 L31) H → va_D A (mw ad kk ks.1 V30 L31) → va_S A s.heap H locs → lv_has ls 3 [(0, .ref (ad 0))] → W p l e (rK 12 380 dd) s m ([.ref (ad 0)] : List Value).toArray below meth c H locs 0 0 (MQ below (q_s_sumA D ks ad kk V L  bq gn gT gs gl gd A) ([.ref (ad 0)] : List Value).toArray s 0 0 A) (F0 m 4 ls []) := by
      intro fulp33
      induction fulp33 with
      | zero =>
        intro g32 V30 L31 H locs ls xlp33_0 xlp33_1 xlp33_2 xlp33_3 xlp33_4 xlp33_5 xlp33_6 xlp33_7 xlp33_8 xlp33_9 xlp33_10 hn alL31 ajV30 hMV30 hP hD hS hl
        exfalso; omega
      | succ fulp33 ihlp33 =>
        intro g32 V30 L31 H locs ls xlp33_0 xlp33_1 xlp33_2 xlp33_3 xlp33_4 xlp33_5 xlp33_6 xlp33_7 xlp33_8 xlp33_9 xlp33_10 hn alL31 ajV30 hMV30 hP hD hS hl
        have agV30 : agr [(0, 7), (0, 8), (0, 48), (0, 50)] [35, 36, 37, 38, 45, 46, 47] V V30 := agV17.tr ajV30 (by decide) (by decide)
        have r34 : 0 ≤ ((V30 0 8)).toInt ∧ ((V30 0 8)).toInt ≤ 70000 := hMV30 0 8
        have r35 : 0 ≤ ((V30 0 48)).toInt ∧ ((V30 0 48)).toInt ≤ 10000 := hMV30 0 48
        have r36 : 0 ≤ ((V30 0 50)).toInt ∧ ((V30 0 50)).toInt ≤ 9 := hMV30 0 50
        refine lv_aload_n hx hb dX12_sum_4 rfl (lv_at hl 0 rfl) ?_
        rcases xlp33_0 with ⟨f8, s1, hq, rq, kq⟩ | ⟨f8, hq⟩
        · skip
          have fz37 := RelM.rg rq
          refine lv_bipush (v := 43) hx hb dX12_sum_5 (by decide) ?_
          have r38 : Int32.toInt 43 = 43 := by decide
          refine gA_int (gA_runV (As := [.int 43]) (rest := []) (ci := 12) (q0 := 0) hx hb hml hown hg hP hD hK hS hA hnw hgk (s_isSignA l D ks H.size ad kk V30 L31 43 (bq) (gn) (gT) (s1) (gl) hMV30 rq (sg_yes (j := 43) (by decide) (by decide) (by decide))) w2075 w2077 w95 w172 w2078 rfl rfl hdV_yX12_isSign ⟨(by show 0 + 1 ≤ 10 * dd + 12; omega), (by show 8 + (2 + 11) + (0) ≤ 300 * dd + 380; omega)⟩ rfl hl.1 rfl (Nat.le_of_ble_eq_true rfl) dX12_sum_7 ⟨Nat.le_of_ble_eq_true rfl, Nat.le_of_ble_eq_true rfl⟩) hP hD hK hS hA (fun z39 u40 H locs w41 hP hD hK hS => ?_)
          obtain ⟨rgz39, t42⟩ := w41
          have rgz39 : 0 ≤ z39.toInt ∧ z39.toInt ≤ 1 := rgz39
          have t42 : (z39.toInt = 1 ∧ (gT).1 ((s1).1 0) = (Int32.toInt 43)) ∨ (z39.toInt = 0 ∧ (gT).1 ((s1).1 0) ≠ (Int32.toInt 43)) := t42
          rcases t42 with ⟨q43, h44⟩ | ⟨q43, h44⟩
          · skip
            have kd45 : gT.1 (s1.1 0) = 43 := h44.trans (by decide)
            refine lv_if_ne (tgt := 22) hx hb dX12_sum_10 (by decide) (fun c46 => ?_) (fun c46 => ?_)
            · skip
              have f47 : z39.toInt ≠ 0 := b_neq rfl (by decide) c46
              refine lv_aload_n hx hb dX12_sum_22 rfl (lv_at hl 0 rfl) ?_
              refine lv_bipush (v := 43) hx hb dX12_sum_23 (by decide) ?_
              refine gA_int (gA_runV (As := [.int 43]) (rest := []) (ci := 12) (q0 := 0) hx hb hml hown hg hP hD hK hS hA hnw hgk (s_isSignA l D ks H.size ad kk V30 L31 43 (bq) (gn) (gT) (s1) (gl) hMV30 rq (sg_yes (j := 43) (by decide) (by decide) (by decide))) w2075 w2077 w95 w172 w2078 rfl rfl hdV_yX12_isSign ⟨(by show 0 + 1 ≤ 10 * dd + 12; omega), (by show 8 + (2 + 11) + (0) ≤ 300 * dd + 380; omega)⟩ rfl hl.1 rfl (Nat.le_of_ble_eq_true rfl) dX12_sum_25 ⟨Nat.le_of_ble_eq_true rfl, Nat.le_of_ble_eq_true rfl⟩) hP hD hK hS hA (fun z48 u49 H locs w50 hP hD hK hS => ?_)
              obtain ⟨rgz48, t51⟩ := w50
              have rgz48 : 0 ≤ z48.toInt ∧ z48.toInt ≤ 1 := rgz48
              have t51 : (z48.toInt = 1 ∧ (gT).1 ((s1).1 0) = (Int32.toInt 43)) ∨ (z48.toInt = 0 ∧ (gT).1 ((s1).1 0) ≠ (Int32.toInt 43)) := t51
              rcases t51 with ⟨q52, h53⟩ | ⟨q52, h53⟩
              · skip
                have kd54 : gT.1 (s1.1 0) = 43 := h53.trans (by decide)
                refine lv_if_eq (tgt := 36) hx hb dX12_sum_28 (by decide) (fun c55 => ?_) (fun c55 => ?_)
                · skip
                  have f56 : z48.toInt = 0 := b_eq rfl (by decide) c55
                  exfalso; first | omega | ((try (have i_xlp33_3 := Imp.go xlp33_3 (by omega))); (try (have i_xlp33_2 := Imp.go xlp33_2 (by omega))); (try (have i_t8 := Imp.go t8 (by omega))); (try (have i_t8 := Imp.go t8 (by omega))); (try (have i_xlp33_2 := Imp.go xlp33_2 (by omega))); (try (have i_xlp33_3 := Imp.go xlp33_3 (by omega))); omega)
                · skip
                  have f57 : z48.toInt ≠ 0 := b_neq rfl (by decide) c55
                  refine lv_bipush (v := 6) hx hb dX12_sum_31 (by decide) ?_
                  refine lv_goto (tgt := 38) hx hb dX12_sum_33 (by decide) ?_
                  refine lv_istore_n (lv' := [(1, .int 6), (0, .ref (ad 0))]) hx hb dX12_sum_38 rfl hl (by decide) rfl (fun ls hl => ?_)
                  refine lv_aload_n hx hb dX12_sum_39 rfl (lv_at hl 1 rfl) ?_
                  refine lv_dup hx hb dX12_sum_40 rfl ?_
                  refine va_get (D := D) (ci := 12) (v := .int (V30 0 7)) (C := RX12) (T := TX12) (N := 100) hx hb hg inX12 hown hK hP 0 rfl rfl 7 (by decide) (hg _ w1717) (fun _ h9 => h9) rfl dX12_sum_41 ?_
                  refine lv_iconst (v := 1) hx hb dX12_sum_44 (by decide) ?_
                  refine lv_iadd hx hb dX12_sum_45 ?_
                  refine lv_topi (fun z58 ez58 => ?_)
                  have hz58 : z58.toInt = ((V30 0 7)).toInt + 1 := i_add ez58 rfl (by decide) (by omega)
                  refine va_put (D := D) (ci := 12) (v := .int z58) (ty := tyX12 7) (C := RX12) (T := TX12) (N := 100) hx hb hg inX12 tyX12 tyX12_ok nmX12 hown hK hP hD hS 0 rfl rfl 7 (by decide) (hg _ w1717) (fun _ h9 => h9) rfl (tyX12_ok 7 (by decide)) rfl rfl (Nat.le_of_ble_eq_true rfl) dX12_sum_46 (fun H locs hP hD hS => ?_)
                  obtain ⟨V59, hV59⟩ : ∃ z, z = up2 V30 0 7 z58 := ⟨_, rfl⟩
                  have hP : va_P D vwCl (mw ad kk ks.1 V59 L31) H := by rw [hV59]; exact hP
                  have hD : va_D A (mw ad kk ks.1 V59 L31) := by rw [hV59]; exact hD
                  have hMV59 : rgd bM V59 := hMV30.put hV59 (i_full _)
                  have agV59 : agr [(0, 7), (0, 8), (0, 48), (0, 50)] [35, 36, 37, 38, 45, 46, 47] V V59 := agV30.up hV59 rfl
                  have hr60 : ∀ k, Rc gT (Crun gs (Isum gd :: k)) (Crun (nx s1 1) (Iprod gd :: IsumR gd :: k)) := fun k => Rc.go1 (hq k) (sumR_y gd (Or.inl kd54))
                  have rl61 : RelM V59 L31 bq gn gT (nx s1 1) gl := RelM.n1 rq hV59 (by omega) (by rw [kd54]; decide)
                  have ps62 : (nx s1 1).1 0 = s1.1 0 + 1 := rfl
                  have fz63 := RelM.rg rl61
                  have pq64 : (V59 0 8).toInt = ((V30 0 8)).toInt := congrArg Int32.toInt (up2_k hV59 (by decide))
                  have pq65 : (V59 0 7).toInt = z58.toInt := congrArg Int32.toInt (up2_s hV59)
                  refine lv_aload_n hx hb dX12_sum_49 rfl (lv_at hl 1 rfl) ?_
                  have pq66 : (V59 0 48).toInt = ((V30 0 48)).toInt := congrArg Int32.toInt (up2_k hV59 (by decide))
                  have pq67 : (V59 0 50).toInt = ((V30 0 50)).toInt := congrArg Int32.toInt (up2_k hV59 (by decide))
                  refine gA_void (gA_runV (As := []) (rest := []) (ci := 12) (q0 := 0) hx hb hml hown hg hP hD hK hS hA hnw hgk (hk_s_productA H.size ad kk V59 L31 (bq) (gn) (gT) ((nx s1 1)) (gl) (gd) hMV59 rl61 (show (V59 0 48).toInt ≤ 2 * (V59 0 7).toInt from by first | omega | ((try (have i_xlp33_3 := Imp.go xlp33_3 (by omega))); (try (have i_xlp33_2 := Imp.go xlp33_2 (by omega))); (try (have i_t8 := Imp.go t8 (by omega))); (try (have i_t8 := Imp.go t8 (by omega))); (try (have i_xlp33_2 := Imp.go xlp33_2 (by omega))); (try (have i_xlp33_3 := Imp.go xlp33_3 (by omega))); omega)) (show (V59 0 50).toInt = ((gd) : Int) from by first | omega | ((try (have i_xlp33_3 := Imp.go xlp33_3 (by omega))); (try (have i_xlp33_2 := Imp.go xlp33_2 (by omega))); (try (have i_t8 := Imp.go t8 (by omega))); (try (have i_t8 := Imp.go t8 (by omega))); (try (have i_xlp33_2 := Imp.go xlp33_2 (by omega))); (try (have i_xlp33_3 := Imp.go xlp33_3 (by omega))); omega)) (show (V59 0 50).toInt + (dd : Int) = 8 from by first | omega | ((try (have i_xlp33_3 := Imp.go xlp33_3 (by omega))); (try (have i_xlp33_2 := Imp.go xlp33_2 (by omega))); (try (have i_t8 := Imp.go t8 (by omega))); (try (have i_t8 := Imp.go t8 (by omega))); (try (have i_xlp33_2 := Imp.go xlp33_2 (by omega))); (try (have i_xlp33_3 := Imp.go xlp33_3 (by omega))); omega)) (EM.mv em ((up2_k hV59 (by decide)).trans ((ajV30 0 51 rfl).trans (ajV17 0 51 rfl))) ((up2_k hV59 (by decide)).trans ((ajV30 0 52 rfl).trans (ajV17 0 52 rfl))) (by rw [(up2_fo hV59 (by decide) : V59 27 = V30 27), (funext (fun q => ajV30 27 q rfl) : V30 27 = V17 27), (funext (fun q => ajV17 27 q rfl) : V17 27 = V 27)] : V59 27 = V 27) ((keepS.tr (keepS.tr (keepS.rf : keepS gs 0 gs) kq) (keepS.n1 1))).2.1)) w2128 w2130 w108 w172 w2131 rfl rfl hdV_yX12_product ⟨(by show 10 * dd + 11 + 1 ≤ 10 * dd + 12; omega), (by show 8 + (2 + 11) + (300 * dd + 340) ≤ 300 * dd + 380; omega)⟩ rfl hl.1 rfl (Nat.le_of_ble_eq_true rfl) dX12_sum_50 ⟨Nat.le_of_ble_eq_true rfl, Nat.le_of_ble_eq_true rfl⟩) hP hD hK hS hA (fun u69 H locs w70 hP hD hK hS => ?_)
                  obtain ⟨V80, L81⟩ := u69
                  obtain ⟨hMV80, ajV80, axL81, t71, t72, t73, t74, t75, t76, t77, t78, t79⟩ := w70
                  have alL81 : agL [35, 36, 37, 38, 45, 46, 47] L L81 := agL.tr alL31 axL81 (by decide)
                  have hP : va_P D vwCl (mw ad kk ks.1 V80 L81) H := hP
                  have hD : va_D A (mw ad kk ks.1 V80 L81) := hD
                  have hMV80 : rgd bM V80 := hMV80
                  have ajV80 : agr [(0, 7), (0, 8), (0, 48), (0, 50)] [35, 36, 37, 38, 45, 46, 47] V59 V80 := ajV80
                  have agV80 : agr [(0, 7), (0, 8), (0, 48), (0, 50)] [35, 36, 37, 38, 45, 46, 47] V V80 := agV59.tr ajV80 (by decide) (by decide)
                  have t71 : Imp ((V80 0 8).toInt = 0) ((V80 0 48).toInt - (V59 0 48).toInt ≤ 2 * ((V80 0 7).toInt - (V59 0 7).toInt)) := t71
                  have t72 : (V80 0 48).toInt ≤ 8049 - 6 * (V59 0 50).toInt := t72
                  have t73 : (V80 0 50).toInt = (V59 0 50).toInt := t73
                  have t74 : (V59 0 48).toInt ≤ (V80 0 48).toInt := t74
                  have t75 : RdM (gT) ((nx s1 1)) (fun k => Iprod (gd) :: k) (fun k => k) (V80 0 8).toInt (fun s9 => RelM V80 L81 (bq) (gn) (gT) s9 (gl) ∧ keepS ((nx s1 1)) 1 s9) := t75
                  have t76 : RoV 35 (bq) V59 V80 := t76
                  have t77 : RoV 37 (bq) V59 V80 := t77
                  have t78 : RoL 36 20 (bq) L31 L81 := t78
                  have t79 : RoL 38 20 (bq) L31 L81 := t79
                  have r82 : 0 ≤ ((V80 0 48)).toInt ∧ ((V80 0 48)).toInt ≤ 10000 := hMV80 0 48
                  have r83 : 0 ≤ ((V80 0 8)).toInt ∧ ((V80 0 8)).toInt ≤ 70000 := hMV80 0 8
                  have r84 : 0 ≤ ((V80 0 50)).toInt ∧ ((V80 0 50)).toInt ≤ 9 := hMV80 0 50
                  rcases t75 with ⟨q85, sx86, h87, rl88, kp89⟩ | ⟨q85, h87⟩
                  · skip
                    have hr90 : ∀ k, Rc gT (Crun gs (Isum gd :: k)) (Crun sx86 (IsumR gd :: k)) := fun k => (hr60 k).tr (h87 (IsumR gd :: k))
                    have fz91 := RelM.rg rl88
                    have ps92 := (kp89).1
                    refine lv_aload_n hx hb dX12_sum_53 rfl (lv_at hl 1 rfl) ?_
                    refine lv_iload_n hx hb dX12_sum_54 rfl (lv_at hl 0 rfl) ?_
                    refine lv_iconst (v := 0) hx hb dX12_sum_55 (by decide) ?_
                    refine lv_iconst (v := 0) hx hb dX12_sum_56 (by decide) ?_
                    have r93 : Int32.toInt 6 = 6 := by decide
                    have r94 : Int32.toInt 0 = 0 := by decide
                    refine gA_int (gA_runV (As := [.int 6, .int 0, .int 0]) (rest := []) (ci := 12) (q0 := 0) hx hb hml hown hg hP hD hK hS hA hnw hgk (s_emit3 l D ks H.size ad kk V80 L81 6 0 0 hMV80 (show (V80 0 48).toInt ≤ 9999 from by first | omega | ((try (have i_t71 := Imp.go t71 (by omega))); (try (have i_xlp33_3 := Imp.go xlp33_3 (by omega))); (try (have i_xlp33_2 := Imp.go xlp33_2 (by omega))); (try (have i_t8 := Imp.go t8 (by omega))); (try (have i_t8 := Imp.go t8 (by omega))); (try (have i_xlp33_2 := Imp.go xlp33_2 (by omega))); (try (have i_xlp33_3 := Imp.go xlp33_3 (by omega))); (try (have i_t71 := Imp.go t71 (by omega))); omega))) w2140 w2142 w111 w172 w2143 rfl rfl hdV_yX12_emit ⟨(by show 0 + 1 ≤ 10 * dd + 12; omega), (by show 8 + (4 + 11) + (0) ≤ 300 * dd + 380; omega)⟩ rfl hl.1 rfl (Nat.le_of_ble_eq_true rfl) dX12_sum_57 ⟨Nat.le_of_ble_eq_true rfl, Nat.le_of_ble_eq_true rfl⟩) hP hD hK hS hA (fun z95 u96 H locs w97 hP hD hK hS => ?_)
                    obtain ⟨V101, L102⟩ := u96
                    obtain ⟨hMV101, ajV101, axL102, rgz95, t98, t99, t100⟩ := w97
                    have axL102 : L81 = L102 := Eq.symm axL102
                    subst axL102
                    have hP : va_P D vwCl (mw ad kk ks.1 V101 L81) H := hP
                    have hD : va_D A (mw ad kk ks.1 V101 L81) := hD
                    have hMV101 : rgd bM V101 := hMV101
                    have ajV101 : agr [(0, 48)] [45, 46, 47] V80 V101 := ajV101
                    have agV101 : agr [(0, 7), (0, 8), (0, 48), (0, 50)] [35, 36, 37, 38, 45, 46, 47] V V101 := agV80.tr ajV101 (by decide) (by decide)
                    have rgz95 : 0 ≤ z95.toInt ∧ z95.toInt ≤ 20000 := rgz95
                    have t98 : (V101 0 48).toInt = (V80 0 48).toInt + 1 := t98
                    have t99 : z95.toInt = (V80 0 49).toInt + (V80 0 48).toInt := t99
                    have t100 : emitted V80 V101 (pA V80) 6 0 0 := t100
                    have r103 : 0 ≤ ((V101 0 48)).toInt ∧ ((V101 0 48)).toInt ≤ 10000 := hMV101 0 48
                    have pq104 : (V80 0 49).toInt = ((V 0 49)).toInt := congrArg Int32.toInt ((ajV80 0 49 rfl).trans ((up2_k hV59 (by decide)).trans ((ajV30 0 49 rfl).trans (ajV17 0 49 rfl))))
                    have r105 : 0 ≤ ((V 0 49)).toInt ∧ ((V 0 49)).toInt ≤ 10000 := hMV 0 49
                    refine lv_istore_n (lv' := [(2, .int z95), (1, .int 6), (0, .ref (ad 0))]) hx hb dX12_sum_60 rfl hl (by decide) rfl (fun ls hl => ?_)
                    refine lv_goto (tgt := 4) hx hb dX12_sum_61 (by decide) ?_
                    have pq106 : (V101 0 7).toInt = ((V80 0 7)).toInt := congrArg Int32.toInt (ajV101 0 7 rfl)
                    have pq107 : (V101 0 8).toInt = ((V80 0 8)).toInt := congrArg Int32.toInt (ajV101 0 8 rfl)
                    have pq108 : (V101 0 50).toInt = ((V80 0 50)).toInt := congrArg Int32.toInt (ajV101 0 50 rfl)
                    have rl109 : RelM V101 L81 bq gn gT sx86 gl := RelM.ag rl88 (show agr [(0, 48)] [45, 46, 47] V80 V101 from (agr.tr agr.rf ajV101 (by decide) (by decide))) (by decide) (show agL [] L81 L81 from agL.rf) (by decide)
                    have rw110 : RoV 35 bq V V101 := (fun k hk => ((ajV101 35 k rfl).trans ((t76 k hk).trans ((up2_o hV59 (by decide)).trans (xlp33_7 k hk)))))
                    have rw111 : RoV 37 bq V V101 := (fun k hk => ((ajV101 37 k rfl).trans ((t77 k hk).trans ((up2_o hV59 (by decide)).trans (xlp33_8 k hk)))))
                    have rw112 : RoL 36 20 bq L L81 := (fun k hk => ((t78 k hk).trans (xlp33_9 k hk)))
                    have rw113 : RoL 38 20 bq L L81 := (fun k hk => ((t79 k hk).trans (xlp33_10 k hk)))
                    exact ihlp33 (g32 - 1) V101 L81 H locs ls (Or.inl ⟨W0 rl109, sx86, hr90, rl109, keepS.le (keepS.tr (keepS.tr (keepS.tr (keepS.rf : keepS gs 0 gs) kq) (keepS.n1 1)) kp89) (by decide)⟩) (show 0 ≤ (g32 - 1) from by first | omega | ((try (have i_t71 := Imp.go t71 (by omega))); (try (have i_xlp33_3 := Imp.go xlp33_3 (by omega))); (try (have i_xlp33_2 := Imp.go xlp33_2 (by omega))); (try (have i_t8 := Imp.go t8 (by omega))); (try (have i_t8 := Imp.go t8 (by omega))); (try (have i_xlp33_2 := Imp.go xlp33_2 (by omega))); (try (have i_xlp33_3 := Imp.go xlp33_3 (by omega))); (try (have i_t71 := Imp.go t71 (by omega))); omega)) (Imp.mk (fun hp => have hp : (V101 0 8).toInt = 0 := hp; (show (gn : Int) - (V101 0 7).toInt < (g32 - 1) from by first | omega | ((try (have i_t71 := Imp.go t71 (by omega))); (try (have i_xlp33_3 := Imp.go xlp33_3 (by omega))); (try (have i_xlp33_2 := Imp.go xlp33_2 (by omega))); (try (have i_t8 := Imp.go t8 (by omega))); (try (have i_t8 := Imp.go t8 (by omega))); (try (have i_xlp33_2 := Imp.go xlp33_2 (by omega))); (try (have i_xlp33_3 := Imp.go xlp33_3 (by omega))); (try (have i_t71 := Imp.go t71 (by omega))); omega)))) (Imp.mk (fun hp => have hp : (V101 0 8).toInt = 0 := hp; (show (V101 0 48).toInt - (V 0 48).toInt ≤ 2 * ((V101 0 7).toInt - (V 0 7).toInt) from by first | omega | ((try (have i_t71 := Imp.go t71 (by omega))); (try (have i_xlp33_3 := Imp.go xlp33_3 (by omega))); (try (have i_xlp33_2 := Imp.go xlp33_2 (by omega))); (try (have i_t8 := Imp.go t8 (by omega))); (try (have i_t8 := Imp.go t8 (by omega))); (try (have i_xlp33_2 := Imp.go xlp33_2 (by omega))); (try (have i_xlp33_3 := Imp.go xlp33_3 (by omega))); (try (have i_t71 := Imp.go t71 (by omega))); omega)))) (show (V101 0 48).toInt ≤ 8050 - 6 * (V 0 50).toInt from by first | omega | ((try (have i_t71 := Imp.go t71 (by omega))); (try (have i_xlp33_3 := Imp.go xlp33_3 (by omega))); (try (have i_xlp33_2 := Imp.go xlp33_2 (by omega))); (try (have i_t8 := Imp.go t8 (by omega))); (try (have i_t8 := Imp.go t8 (by omega))); (try (have i_xlp33_2 := Imp.go xlp33_2 (by omega))); (try (have i_xlp33_3 := Imp.go xlp33_3 (by omega))); (try (have i_t71 := Imp.go t71 (by omega))); omega)) (show (V101 0 50).toInt = (V 0 50).toInt from by first | omega | ((try (have i_t71 := Imp.go t71 (by omega))); (try (have i_xlp33_3 := Imp.go xlp33_3 (by omega))); (try (have i_xlp33_2 := Imp.go xlp33_2 (by omega))); (try (have i_t8 := Imp.go t8 (by omega))); (try (have i_t8 := Imp.go t8 (by omega))); (try (have i_xlp33_2 := Imp.go xlp33_2 (by omega))); (try (have i_xlp33_3 := Imp.go xlp33_3 (by omega))); (try (have i_t71 := Imp.go t71 (by omega))); omega)) (show (V 0 48).toInt ≤ (V101 0 48).toInt from by first | omega | ((try (have i_t71 := Imp.go t71 (by omega))); (try (have i_xlp33_3 := Imp.go xlp33_3 (by omega))); (try (have i_xlp33_2 := Imp.go xlp33_2 (by omega))); (try (have i_t8 := Imp.go t8 (by omega))); (try (have i_t8 := Imp.go t8 (by omega))); (try (have i_xlp33_2 := Imp.go xlp33_2 (by omega))); (try (have i_xlp33_3 := Imp.go xlp33_3 (by omega))); (try (have i_t71 := Imp.go t71 (by omega))); omega)) rw110 rw111 rw112 rw113 (by first | omega | ((try (have i_t71 := Imp.go t71 (by omega))); (try (have i_xlp33_3 := Imp.go xlp33_3 (by omega))); (try (have i_xlp33_2 := Imp.go xlp33_2 (by omega))); (try (have i_t8 := Imp.go t8 (by omega))); (try (have i_t8 := Imp.go t8 (by omega))); (try (have i_xlp33_2 := Imp.go xlp33_2 (by omega))); (try (have i_xlp33_3 := Imp.go xlp33_3 (by omega))); (try (have i_t71 := Imp.go t71 (by omega))); omega)) alL81 (agr.tr (agr.tr (agr.up (agr.tr agr.rf ajV30 (by decide) (by decide)) hV59 rfl) ajV80 (by decide) (by decide)) ajV101 (by decide) (by decide)) hMV101 hP hD hS (lv_sub hl [2] rfl)
                  · skip
                    have hb114 : ∀ k, Rc gT (Crun gs (Isum gd :: k)) (Cbad (V80 0 8).toInt) := fun k => (hr60 k).tr (h87 (IsumR gd :: k))
                    refine lv_aload_n hx hb dX12_sum_53 rfl (lv_at hl 1 rfl) ?_
                    refine lv_iload_n hx hb dX12_sum_54 rfl (lv_at hl 0 rfl) ?_
                    refine lv_iconst (v := 0) hx hb dX12_sum_55 (by decide) ?_
                    refine lv_iconst (v := 0) hx hb dX12_sum_56 (by decide) ?_
                    have r115 : Int32.toInt 6 = 6 := by decide
                    have r116 : Int32.toInt 0 = 0 := by decide
                    refine gA_int (gA_runV (As := [.int 6, .int 0, .int 0]) (rest := []) (ci := 12) (q0 := 0) hx hb hml hown hg hP hD hK hS hA hnw hgk (s_emit3 l D ks H.size ad kk V80 L81 6 0 0 hMV80 (show (V80 0 48).toInt ≤ 9999 from by first | omega | ((try (have i_t71 := Imp.go t71 (by omega))); (try (have i_xlp33_3 := Imp.go xlp33_3 (by omega))); (try (have i_xlp33_2 := Imp.go xlp33_2 (by omega))); (try (have i_t8 := Imp.go t8 (by omega))); (try (have i_t8 := Imp.go t8 (by omega))); (try (have i_xlp33_2 := Imp.go xlp33_2 (by omega))); (try (have i_xlp33_3 := Imp.go xlp33_3 (by omega))); (try (have i_t71 := Imp.go t71 (by omega))); omega))) w2140 w2142 w111 w172 w2143 rfl rfl hdV_yX12_emit ⟨(by show 0 + 1 ≤ 10 * dd + 12; omega), (by show 8 + (4 + 11) + (0) ≤ 300 * dd + 380; omega)⟩ rfl hl.1 rfl (Nat.le_of_ble_eq_true rfl) dX12_sum_57 ⟨Nat.le_of_ble_eq_true rfl, Nat.le_of_ble_eq_true rfl⟩) hP hD hK hS hA (fun z117 u118 H locs w119 hP hD hK hS => ?_)
                    obtain ⟨V123, L124⟩ := u118
                    obtain ⟨hMV123, ajV123, axL124, rgz117, t120, t121, t122⟩ := w119
                    have axL124 : L81 = L124 := Eq.symm axL124
                    subst axL124
                    have hP : va_P D vwCl (mw ad kk ks.1 V123 L81) H := hP
                    have hD : va_D A (mw ad kk ks.1 V123 L81) := hD
                    have hMV123 : rgd bM V123 := hMV123
                    have ajV123 : agr [(0, 48)] [45, 46, 47] V80 V123 := ajV123
                    have agV123 : agr [(0, 7), (0, 8), (0, 48), (0, 50)] [35, 36, 37, 38, 45, 46, 47] V V123 := agV80.tr ajV123 (by decide) (by decide)
                    have rgz117 : 0 ≤ z117.toInt ∧ z117.toInt ≤ 20000 := rgz117
                    have t120 : (V123 0 48).toInt = (V80 0 48).toInt + 1 := t120
                    have t121 : z117.toInt = (V80 0 49).toInt + (V80 0 48).toInt := t121
                    have t122 : emitted V80 V123 (pA V80) 6 0 0 := t122
                    have r125 : 0 ≤ ((V123 0 48)).toInt ∧ ((V123 0 48)).toInt ≤ 10000 := hMV123 0 48
                    have pq126 : (V80 0 49).toInt = ((V 0 49)).toInt := congrArg Int32.toInt ((ajV80 0 49 rfl).trans ((up2_k hV59 (by decide)).trans ((ajV30 0 49 rfl).trans (ajV17 0 49 rfl))))
                    have r127 : 0 ≤ ((V 0 49)).toInt ∧ ((V 0 49)).toInt ≤ 10000 := hMV 0 49
                    refine lv_istore_n (lv' := [(2, .int z117), (1, .int 6), (0, .ref (ad 0))]) hx hb dX12_sum_60 rfl hl (by decide) rfl (fun ls hl => ?_)
                    refine lv_goto (tgt := 4) hx hb dX12_sum_61 (by decide) ?_
                    have pq128 : (V123 0 7).toInt = ((V80 0 7)).toInt := congrArg Int32.toInt (ajV123 0 7 rfl)
                    have pq129 : (V123 0 8).toInt = ((V80 0 8)).toInt := congrArg Int32.toInt (ajV123 0 8 rfl)
                    have pq130 : (V123 0 50).toInt = ((V80 0 50)).toInt := congrArg Int32.toInt (ajV123 0 50 rfl)
                    have rw131 : RoV 35 bq V V123 := (fun k hk => ((ajV123 35 k rfl).trans ((t76 k hk).trans ((up2_o hV59 (by decide)).trans (xlp33_7 k hk)))))
                    have rw132 : RoV 37 bq V V123 := (fun k hk => ((ajV123 37 k rfl).trans ((t77 k hk).trans ((up2_o hV59 (by decide)).trans (xlp33_8 k hk)))))
                    have rw133 : RoL 36 20 bq L L81 := (fun k hk => ((t78 k hk).trans (xlp33_9 k hk)))
                    have rw134 : RoL 38 20 bq L L81 := (fun k hk => ((t79 k hk).trans (xlp33_10 k hk)))
                    exact ihlp33 (g32 - 1) V123 L81 H locs ls (Or.inr ⟨(show 1 ≤ (V123 0 8).toInt from by omega), (fun k => by rw [show (V123 0 8).toInt = (V80 0 8).toInt from by omega]; exact hb114 k)⟩) (show 0 ≤ (g32 - 1) from by first | omega | ((try (have i_t71 := Imp.go t71 (by omega))); (try (have i_xlp33_3 := Imp.go xlp33_3 (by omega))); (try (have i_xlp33_2 := Imp.go xlp33_2 (by omega))); (try (have i_t8 := Imp.go t8 (by omega))); (try (have i_t8 := Imp.go t8 (by omega))); (try (have i_xlp33_2 := Imp.go xlp33_2 (by omega))); (try (have i_xlp33_3 := Imp.go xlp33_3 (by omega))); (try (have i_t71 := Imp.go t71 (by omega))); omega)) (Imp.mk (fun hp => have hp : (V123 0 8).toInt = 0 := hp; (show (gn : Int) - (V123 0 7).toInt < (g32 - 1) from by first | omega | ((try (have i_t71 := Imp.go t71 (by omega))); (try (have i_xlp33_3 := Imp.go xlp33_3 (by omega))); (try (have i_xlp33_2 := Imp.go xlp33_2 (by omega))); (try (have i_t8 := Imp.go t8 (by omega))); (try (have i_t8 := Imp.go t8 (by omega))); (try (have i_xlp33_2 := Imp.go xlp33_2 (by omega))); (try (have i_xlp33_3 := Imp.go xlp33_3 (by omega))); (try (have i_t71 := Imp.go t71 (by omega))); omega)))) (Imp.mk (fun hp => have hp : (V123 0 8).toInt = 0 := hp; (show (V123 0 48).toInt - (V 0 48).toInt ≤ 2 * ((V123 0 7).toInt - (V 0 7).toInt) from by first | omega | ((try (have i_t71 := Imp.go t71 (by omega))); (try (have i_xlp33_3 := Imp.go xlp33_3 (by omega))); (try (have i_xlp33_2 := Imp.go xlp33_2 (by omega))); (try (have i_t8 := Imp.go t8 (by omega))); (try (have i_t8 := Imp.go t8 (by omega))); (try (have i_xlp33_2 := Imp.go xlp33_2 (by omega))); (try (have i_xlp33_3 := Imp.go xlp33_3 (by omega))); (try (have i_t71 := Imp.go t71 (by omega))); omega)))) (show (V123 0 48).toInt ≤ 8050 - 6 * (V 0 50).toInt from by first | omega | ((try (have i_t71 := Imp.go t71 (by omega))); (try (have i_xlp33_3 := Imp.go xlp33_3 (by omega))); (try (have i_xlp33_2 := Imp.go xlp33_2 (by omega))); (try (have i_t8 := Imp.go t8 (by omega))); (try (have i_t8 := Imp.go t8 (by omega))); (try (have i_xlp33_2 := Imp.go xlp33_2 (by omega))); (try (have i_xlp33_3 := Imp.go xlp33_3 (by omega))); (try (have i_t71 := Imp.go t71 (by omega))); omega)) (show (V123 0 50).toInt = (V 0 50).toInt from by first | omega | ((try (have i_t71 := Imp.go t71 (by omega))); (try (have i_xlp33_3 := Imp.go xlp33_3 (by omega))); (try (have i_xlp33_2 := Imp.go xlp33_2 (by omega))); (try (have i_t8 := Imp.go t8 (by omega))); (try (have i_t8 := Imp.go t8 (by omega))); (try (have i_xlp33_2 := Imp.go xlp33_2 (by omega))); (try (have i_xlp33_3 := Imp.go xlp33_3 (by omega))); (try (have i_t71 := Imp.go t71 (by omega))); omega)) (show (V 0 48).toInt ≤ (V123 0 48).toInt from by first | omega | ((try (have i_t71 := Imp.go t71 (by omega))); (try (have i_xlp33_3 := Imp.go xlp33_3 (by omega))); (try (have i_xlp33_2 := Imp.go xlp33_2 (by omega))); (try (have i_t8 := Imp.go t8 (by omega))); (try (have i_t8 := Imp.go t8 (by omega))); (try (have i_xlp33_2 := Imp.go xlp33_2 (by omega))); (try (have i_xlp33_3 := Imp.go xlp33_3 (by omega))); (try (have i_t71 := Imp.go t71 (by omega))); omega)) rw131 rw132 rw133 rw134 (by first | omega | ((try (have i_t71 := Imp.go t71 (by omega))); (try (have i_xlp33_3 := Imp.go xlp33_3 (by omega))); (try (have i_xlp33_2 := Imp.go xlp33_2 (by omega))); (try (have i_t8 := Imp.go t8 (by omega))); (try (have i_t8 := Imp.go t8 (by omega))); (try (have i_xlp33_2 := Imp.go xlp33_2 (by omega))); (try (have i_xlp33_3 := Imp.go xlp33_3 (by omega))); (try (have i_t71 := Imp.go t71 (by omega))); omega)) alL81 (agr.tr (agr.tr (agr.up (agr.tr agr.rf ajV30 (by decide) (by decide)) hV59 rfl) ajV80 (by decide) (by decide)) ajV123 (by decide) (by decide)) hMV123 hP hD hS (lv_sub hl [2] rfl)
              · skip
                have kd135 : gT.1 (s1.1 0) ≠ 43 := fun h9 => h53 (h9.trans (by decide))
                exact absurd kd45 kd135
            · skip
              have f136 : z39.toInt = 0 := b_eq rfl (by decide) c46
              exfalso; first | omega | ((try (have i_xlp33_3 := Imp.go xlp33_3 (by omega))); (try (have i_xlp33_2 := Imp.go xlp33_2 (by omega))); (try (have i_t8 := Imp.go t8 (by omega))); (try (have i_t8 := Imp.go t8 (by omega))); (try (have i_xlp33_2 := Imp.go xlp33_2 (by omega))); (try (have i_xlp33_3 := Imp.go xlp33_3 (by omega))); omega)
          · skip
            have kd137 : gT.1 (s1.1 0) ≠ 43 := fun h9 => h44 (h9.trans (by decide))
            refine lv_if_ne (tgt := 22) hx hb dX12_sum_10 (by decide) (fun c138 => ?_) (fun c138 => ?_)
            · skip
              have f139 : z39.toInt ≠ 0 := b_neq rfl (by decide) c138
              exfalso; first | omega | ((try (have i_xlp33_3 := Imp.go xlp33_3 (by omega))); (try (have i_xlp33_2 := Imp.go xlp33_2 (by omega))); (try (have i_t8 := Imp.go t8 (by omega))); (try (have i_t8 := Imp.go t8 (by omega))); (try (have i_xlp33_2 := Imp.go xlp33_2 (by omega))); (try (have i_xlp33_3 := Imp.go xlp33_3 (by omega))); omega)
            · skip
              have f140 : z39.toInt = 0 := b_eq rfl (by decide) c138
              refine lv_aload_n hx hb dX12_sum_13 rfl (lv_at hl 0 rfl) ?_
              refine lv_bipush (v := 45) hx hb dX12_sum_14 (by decide) ?_
              have r141 : Int32.toInt 45 = 45 := by decide
              refine gA_int (gA_runV (As := [.int 45]) (rest := []) (ci := 12) (q0 := 0) hx hb hml hown hg hP hD hK hS hA hnw hgk (s_isSignA l D ks H.size ad kk V30 L31 45 (bq) (gn) (gT) (s1) (gl) hMV30 rq (sg_yes (j := 45) (by decide) (by decide) (by decide))) w2075 w2077 w95 w172 w2078 rfl rfl hdV_yX12_isSign ⟨(by show 0 + 1 ≤ 10 * dd + 12; omega), (by show 8 + (2 + 11) + (0) ≤ 300 * dd + 380; omega)⟩ rfl hl.1 rfl (Nat.le_of_ble_eq_true rfl) dX12_sum_16 ⟨Nat.le_of_ble_eq_true rfl, Nat.le_of_ble_eq_true rfl⟩) hP hD hK hS hA (fun z142 u143 H locs w144 hP hD hK hS => ?_)
              obtain ⟨rgz142, t145⟩ := w144
              have rgz142 : 0 ≤ z142.toInt ∧ z142.toInt ≤ 1 := rgz142
              have t145 : (z142.toInt = 1 ∧ (gT).1 ((s1).1 0) = (Int32.toInt 45)) ∨ (z142.toInt = 0 ∧ (gT).1 ((s1).1 0) ≠ (Int32.toInt 45)) := t145
              rcases t145 with ⟨q146, h147⟩ | ⟨q146, h147⟩
              · skip
                have kd148 : gT.1 (s1.1 0) = 45 := h147.trans (by decide)
                refine lv_if_eq (tgt := 64) hx hb dX12_sum_19 (by decide) (fun c149 => ?_) (fun c149 => ?_)
                · skip
                  have f150 : z142.toInt = 0 := b_eq rfl (by decide) c149
                  exfalso; first | omega | ((try (have i_xlp33_3 := Imp.go xlp33_3 (by omega))); (try (have i_xlp33_2 := Imp.go xlp33_2 (by omega))); (try (have i_t8 := Imp.go t8 (by omega))); (try (have i_t8 := Imp.go t8 (by omega))); (try (have i_xlp33_2 := Imp.go xlp33_2 (by omega))); (try (have i_xlp33_3 := Imp.go xlp33_3 (by omega))); omega)
                · skip
                  have f151 : z142.toInt ≠ 0 := b_neq rfl (by decide) c149
                  refine lv_aload_n hx hb dX12_sum_22 rfl (lv_at hl 0 rfl) ?_
                  refine lv_bipush (v := 43) hx hb dX12_sum_23 (by decide) ?_
                  refine gA_int (gA_runV (As := [.int 43]) (rest := []) (ci := 12) (q0 := 0) hx hb hml hown hg hP hD hK hS hA hnw hgk (s_isSignA l D ks H.size ad kk V30 L31 43 (bq) (gn) (gT) (s1) (gl) hMV30 rq (sg_yes (j := 43) (by decide) (by decide) (by decide))) w2075 w2077 w95 w172 w2078 rfl rfl hdV_yX12_isSign ⟨(by show 0 + 1 ≤ 10 * dd + 12; omega), (by show 8 + (2 + 11) + (0) ≤ 300 * dd + 380; omega)⟩ rfl hl.1 rfl (Nat.le_of_ble_eq_true rfl) dX12_sum_25 ⟨Nat.le_of_ble_eq_true rfl, Nat.le_of_ble_eq_true rfl⟩) hP hD hK hS hA (fun z152 u153 H locs w154 hP hD hK hS => ?_)
                  obtain ⟨rgz152, t155⟩ := w154
                  have rgz152 : 0 ≤ z152.toInt ∧ z152.toInt ≤ 1 := rgz152
                  have t155 : (z152.toInt = 1 ∧ (gT).1 ((s1).1 0) = (Int32.toInt 43)) ∨ (z152.toInt = 0 ∧ (gT).1 ((s1).1 0) ≠ (Int32.toInt 43)) := t155
                  rcases t155 with ⟨q156, h157⟩ | ⟨q156, h157⟩
                  · skip
                    have kd158 : gT.1 (s1.1 0) = 43 := h157.trans (by decide)
                    exact absurd (kd148.symm.trans kd158) (by decide)
                  · skip
                    have kd159 : gT.1 (s1.1 0) ≠ 43 := fun h9 => h157 (h9.trans (by decide))
                    refine lv_if_eq (tgt := 36) hx hb dX12_sum_28 (by decide) (fun c160 => ?_) (fun c160 => ?_)
                    · skip
                      have f161 : z152.toInt = 0 := b_eq rfl (by decide) c160
                      refine lv_bipush (v := 7) hx hb dX12_sum_36 (by decide) ?_
                      refine lv_istore_n (lv' := [(1, .int 7), (0, .ref (ad 0))]) hx hb dX12_sum_38 rfl hl (by decide) rfl (fun ls hl => ?_)
                      refine lv_aload_n hx hb dX12_sum_39 rfl (lv_at hl 1 rfl) ?_
                      refine lv_dup hx hb dX12_sum_40 rfl ?_
                      refine va_get (D := D) (ci := 12) (v := .int (V30 0 7)) (C := RX12) (T := TX12) (N := 100) hx hb hg inX12 hown hK hP 0 rfl rfl 7 (by decide) (hg _ w1717) (fun _ h9 => h9) rfl dX12_sum_41 ?_
                      refine lv_iconst (v := 1) hx hb dX12_sum_44 (by decide) ?_
                      refine lv_iadd hx hb dX12_sum_45 ?_
                      refine lv_topi (fun z162 ez162 => ?_)
                      have hz162 : z162.toInt = ((V30 0 7)).toInt + 1 := i_add ez162 rfl (by decide) (by omega)
                      refine va_put (D := D) (ci := 12) (v := .int z162) (ty := tyX12 7) (C := RX12) (T := TX12) (N := 100) hx hb hg inX12 tyX12 tyX12_ok nmX12 hown hK hP hD hS 0 rfl rfl 7 (by decide) (hg _ w1717) (fun _ h9 => h9) rfl (tyX12_ok 7 (by decide)) rfl rfl (Nat.le_of_ble_eq_true rfl) dX12_sum_46 (fun H locs hP hD hS => ?_)
                      obtain ⟨V163, hV163⟩ : ∃ z, z = up2 V30 0 7 z162 := ⟨_, rfl⟩
                      have hP : va_P D vwCl (mw ad kk ks.1 V163 L31) H := by rw [hV163]; exact hP
                      have hD : va_D A (mw ad kk ks.1 V163 L31) := by rw [hV163]; exact hD
                      have hMV163 : rgd bM V163 := hMV30.put hV163 (i_full _)
                      have agV163 : agr [(0, 7), (0, 8), (0, 48), (0, 50)] [35, 36, 37, 38, 45, 46, 47] V V163 := agV30.up hV163 rfl
                      have hr164 : ∀ k, Rc gT (Crun gs (Isum gd :: k)) (Crun (nx s1 1) (Iprod gd :: IsumR gd :: k)) := fun k => Rc.go1 (hq k) (sumR_y gd (Or.inr kd148))
                      have rl165 : RelM V163 L31 bq gn gT (nx s1 1) gl := RelM.n1 rq hV163 (by omega) (by rw [kd148]; decide)
                      have ps166 : (nx s1 1).1 0 = s1.1 0 + 1 := rfl
                      have fz167 := RelM.rg rl165
                      have pq168 : (V163 0 8).toInt = ((V30 0 8)).toInt := congrArg Int32.toInt (up2_k hV163 (by decide))
                      have pq169 : (V163 0 7).toInt = z162.toInt := congrArg Int32.toInt (up2_s hV163)
                      refine lv_aload_n hx hb dX12_sum_49 rfl (lv_at hl 1 rfl) ?_
                      have pq170 : (V163 0 48).toInt = ((V30 0 48)).toInt := congrArg Int32.toInt (up2_k hV163 (by decide))
                      have pq171 : (V163 0 50).toInt = ((V30 0 50)).toInt := congrArg Int32.toInt (up2_k hV163 (by decide))
                      refine gA_void (gA_runV (As := []) (rest := []) (ci := 12) (q0 := 0) hx hb hml hown hg hP hD hK hS hA hnw hgk (hk_s_productA H.size ad kk V163 L31 (bq) (gn) (gT) ((nx s1 1)) (gl) (gd) hMV163 rl165 (show (V163 0 48).toInt ≤ 2 * (V163 0 7).toInt from by first | omega | ((try (have i_xlp33_3 := Imp.go xlp33_3 (by omega))); (try (have i_xlp33_2 := Imp.go xlp33_2 (by omega))); (try (have i_t8 := Imp.go t8 (by omega))); (try (have i_t8 := Imp.go t8 (by omega))); (try (have i_xlp33_2 := Imp.go xlp33_2 (by omega))); (try (have i_xlp33_3 := Imp.go xlp33_3 (by omega))); omega)) (show (V163 0 50).toInt = ((gd) : Int) from by first | omega | ((try (have i_xlp33_3 := Imp.go xlp33_3 (by omega))); (try (have i_xlp33_2 := Imp.go xlp33_2 (by omega))); (try (have i_t8 := Imp.go t8 (by omega))); (try (have i_t8 := Imp.go t8 (by omega))); (try (have i_xlp33_2 := Imp.go xlp33_2 (by omega))); (try (have i_xlp33_3 := Imp.go xlp33_3 (by omega))); omega)) (show (V163 0 50).toInt + (dd : Int) = 8 from by first | omega | ((try (have i_xlp33_3 := Imp.go xlp33_3 (by omega))); (try (have i_xlp33_2 := Imp.go xlp33_2 (by omega))); (try (have i_t8 := Imp.go t8 (by omega))); (try (have i_t8 := Imp.go t8 (by omega))); (try (have i_xlp33_2 := Imp.go xlp33_2 (by omega))); (try (have i_xlp33_3 := Imp.go xlp33_3 (by omega))); omega)) (EM.mv em ((up2_k hV163 (by decide)).trans ((ajV30 0 51 rfl).trans (ajV17 0 51 rfl))) ((up2_k hV163 (by decide)).trans ((ajV30 0 52 rfl).trans (ajV17 0 52 rfl))) (by rw [(up2_fo hV163 (by decide) : V163 27 = V30 27), (funext (fun q => ajV30 27 q rfl) : V30 27 = V17 27), (funext (fun q => ajV17 27 q rfl) : V17 27 = V 27)] : V163 27 = V 27) ((keepS.tr (keepS.tr (keepS.rf : keepS gs 0 gs) kq) (keepS.n1 1))).2.1)) w2128 w2130 w108 w172 w2131 rfl rfl hdV_yX12_product ⟨(by show 10 * dd + 11 + 1 ≤ 10 * dd + 12; omega), (by show 8 + (2 + 11) + (300 * dd + 340) ≤ 300 * dd + 380; omega)⟩ rfl hl.1 rfl (Nat.le_of_ble_eq_true rfl) dX12_sum_50 ⟨Nat.le_of_ble_eq_true rfl, Nat.le_of_ble_eq_true rfl⟩) hP hD hK hS hA (fun u173 H locs w174 hP hD hK hS => ?_)
                      obtain ⟨V184, L185⟩ := u173
                      obtain ⟨hMV184, ajV184, axL185, t175, t176, t177, t178, t179, t180, t181, t182, t183⟩ := w174
                      have alL185 : agL [35, 36, 37, 38, 45, 46, 47] L L185 := agL.tr alL31 axL185 (by decide)
                      have hP : va_P D vwCl (mw ad kk ks.1 V184 L185) H := hP
                      have hD : va_D A (mw ad kk ks.1 V184 L185) := hD
                      have hMV184 : rgd bM V184 := hMV184
                      have ajV184 : agr [(0, 7), (0, 8), (0, 48), (0, 50)] [35, 36, 37, 38, 45, 46, 47] V163 V184 := ajV184
                      have agV184 : agr [(0, 7), (0, 8), (0, 48), (0, 50)] [35, 36, 37, 38, 45, 46, 47] V V184 := agV163.tr ajV184 (by decide) (by decide)
                      have t175 : Imp ((V184 0 8).toInt = 0) ((V184 0 48).toInt - (V163 0 48).toInt ≤ 2 * ((V184 0 7).toInt - (V163 0 7).toInt)) := t175
                      have t176 : (V184 0 48).toInt ≤ 8049 - 6 * (V163 0 50).toInt := t176
                      have t177 : (V184 0 50).toInt = (V163 0 50).toInt := t177
                      have t178 : (V163 0 48).toInt ≤ (V184 0 48).toInt := t178
                      have t179 : RdM (gT) ((nx s1 1)) (fun k => Iprod (gd) :: k) (fun k => k) (V184 0 8).toInt (fun s9 => RelM V184 L185 (bq) (gn) (gT) s9 (gl) ∧ keepS ((nx s1 1)) 1 s9) := t179
                      have t180 : RoV 35 (bq) V163 V184 := t180
                      have t181 : RoV 37 (bq) V163 V184 := t181
                      have t182 : RoL 36 20 (bq) L31 L185 := t182
                      have t183 : RoL 38 20 (bq) L31 L185 := t183
                      have r186 : 0 ≤ ((V184 0 48)).toInt ∧ ((V184 0 48)).toInt ≤ 10000 := hMV184 0 48
                      have r187 : 0 ≤ ((V184 0 8)).toInt ∧ ((V184 0 8)).toInt ≤ 70000 := hMV184 0 8
                      have r188 : 0 ≤ ((V184 0 50)).toInt ∧ ((V184 0 50)).toInt ≤ 9 := hMV184 0 50
                      rcases t179 with ⟨q189, sx190, h191, rl192, kp193⟩ | ⟨q189, h191⟩
                      · skip
                        have hr194 : ∀ k, Rc gT (Crun gs (Isum gd :: k)) (Crun sx190 (IsumR gd :: k)) := fun k => (hr164 k).tr (h191 (IsumR gd :: k))
                        have fz195 := RelM.rg rl192
                        have ps196 := (kp193).1
                        refine lv_aload_n hx hb dX12_sum_53 rfl (lv_at hl 1 rfl) ?_
                        refine lv_iload_n hx hb dX12_sum_54 rfl (lv_at hl 0 rfl) ?_
                        refine lv_iconst (v := 0) hx hb dX12_sum_55 (by decide) ?_
                        refine lv_iconst (v := 0) hx hb dX12_sum_56 (by decide) ?_
                        have r197 : Int32.toInt 7 = 7 := by decide
                        have r198 : Int32.toInt 0 = 0 := by decide
                        refine gA_int (gA_runV (As := [.int 7, .int 0, .int 0]) (rest := []) (ci := 12) (q0 := 0) hx hb hml hown hg hP hD hK hS hA hnw hgk (s_emit3 l D ks H.size ad kk V184 L185 7 0 0 hMV184 (show (V184 0 48).toInt ≤ 9999 from by first | omega | ((try (have i_t175 := Imp.go t175 (by omega))); (try (have i_xlp33_3 := Imp.go xlp33_3 (by omega))); (try (have i_xlp33_2 := Imp.go xlp33_2 (by omega))); (try (have i_t8 := Imp.go t8 (by omega))); (try (have i_t8 := Imp.go t8 (by omega))); (try (have i_xlp33_2 := Imp.go xlp33_2 (by omega))); (try (have i_xlp33_3 := Imp.go xlp33_3 (by omega))); (try (have i_t175 := Imp.go t175 (by omega))); omega))) w2140 w2142 w111 w172 w2143 rfl rfl hdV_yX12_emit ⟨(by show 0 + 1 ≤ 10 * dd + 12; omega), (by show 8 + (4 + 11) + (0) ≤ 300 * dd + 380; omega)⟩ rfl hl.1 rfl (Nat.le_of_ble_eq_true rfl) dX12_sum_57 ⟨Nat.le_of_ble_eq_true rfl, Nat.le_of_ble_eq_true rfl⟩) hP hD hK hS hA (fun z199 u200 H locs w201 hP hD hK hS => ?_)
                        obtain ⟨V205, L206⟩ := u200
                        obtain ⟨hMV205, ajV205, axL206, rgz199, t202, t203, t204⟩ := w201
                        have axL206 : L185 = L206 := Eq.symm axL206
                        subst axL206
                        have hP : va_P D vwCl (mw ad kk ks.1 V205 L185) H := hP
                        have hD : va_D A (mw ad kk ks.1 V205 L185) := hD
                        have hMV205 : rgd bM V205 := hMV205
                        have ajV205 : agr [(0, 48)] [45, 46, 47] V184 V205 := ajV205
                        have agV205 : agr [(0, 7), (0, 8), (0, 48), (0, 50)] [35, 36, 37, 38, 45, 46, 47] V V205 := agV184.tr ajV205 (by decide) (by decide)
                        have rgz199 : 0 ≤ z199.toInt ∧ z199.toInt ≤ 20000 := rgz199
                        have t202 : (V205 0 48).toInt = (V184 0 48).toInt + 1 := t202
                        have t203 : z199.toInt = (V184 0 49).toInt + (V184 0 48).toInt := t203
                        have t204 : emitted V184 V205 (pA V184) 7 0 0 := t204
                        have r207 : 0 ≤ ((V205 0 48)).toInt ∧ ((V205 0 48)).toInt ≤ 10000 := hMV205 0 48
                        have pq208 : (V184 0 49).toInt = ((V 0 49)).toInt := congrArg Int32.toInt ((ajV184 0 49 rfl).trans ((up2_k hV163 (by decide)).trans ((ajV30 0 49 rfl).trans (ajV17 0 49 rfl))))
                        have r209 : 0 ≤ ((V 0 49)).toInt ∧ ((V 0 49)).toInt ≤ 10000 := hMV 0 49
                        refine lv_istore_n (lv' := [(2, .int z199), (1, .int 7), (0, .ref (ad 0))]) hx hb dX12_sum_60 rfl hl (by decide) rfl (fun ls hl => ?_)
                        refine lv_goto (tgt := 4) hx hb dX12_sum_61 (by decide) ?_
                        have pq210 : (V205 0 7).toInt = ((V184 0 7)).toInt := congrArg Int32.toInt (ajV205 0 7 rfl)
                        have pq211 : (V205 0 8).toInt = ((V184 0 8)).toInt := congrArg Int32.toInt (ajV205 0 8 rfl)
                        have pq212 : (V205 0 50).toInt = ((V184 0 50)).toInt := congrArg Int32.toInt (ajV205 0 50 rfl)
                        have rl213 : RelM V205 L185 bq gn gT sx190 gl := RelM.ag rl192 (show agr [(0, 48)] [45, 46, 47] V184 V205 from (agr.tr agr.rf ajV205 (by decide) (by decide))) (by decide) (show agL [] L185 L185 from agL.rf) (by decide)
                        have rw214 : RoV 35 bq V V205 := (fun k hk => ((ajV205 35 k rfl).trans ((t180 k hk).trans ((up2_o hV163 (by decide)).trans (xlp33_7 k hk)))))
                        have rw215 : RoV 37 bq V V205 := (fun k hk => ((ajV205 37 k rfl).trans ((t181 k hk).trans ((up2_o hV163 (by decide)).trans (xlp33_8 k hk)))))
                        have rw216 : RoL 36 20 bq L L185 := (fun k hk => ((t182 k hk).trans (xlp33_9 k hk)))
                        have rw217 : RoL 38 20 bq L L185 := (fun k hk => ((t183 k hk).trans (xlp33_10 k hk)))
                        exact ihlp33 (g32 - 1) V205 L185 H locs ls (Or.inl ⟨W0 rl213, sx190, hr194, rl213, keepS.le (keepS.tr (keepS.tr (keepS.tr (keepS.rf : keepS gs 0 gs) kq) (keepS.n1 1)) kp193) (by decide)⟩) (show 0 ≤ (g32 - 1) from by first | omega | ((try (have i_t175 := Imp.go t175 (by omega))); (try (have i_xlp33_3 := Imp.go xlp33_3 (by omega))); (try (have i_xlp33_2 := Imp.go xlp33_2 (by omega))); (try (have i_t8 := Imp.go t8 (by omega))); (try (have i_t8 := Imp.go t8 (by omega))); (try (have i_xlp33_2 := Imp.go xlp33_2 (by omega))); (try (have i_xlp33_3 := Imp.go xlp33_3 (by omega))); (try (have i_t175 := Imp.go t175 (by omega))); omega)) (Imp.mk (fun hp => have hp : (V205 0 8).toInt = 0 := hp; (show (gn : Int) - (V205 0 7).toInt < (g32 - 1) from by first | omega | ((try (have i_t175 := Imp.go t175 (by omega))); (try (have i_xlp33_3 := Imp.go xlp33_3 (by omega))); (try (have i_xlp33_2 := Imp.go xlp33_2 (by omega))); (try (have i_t8 := Imp.go t8 (by omega))); (try (have i_t8 := Imp.go t8 (by omega))); (try (have i_xlp33_2 := Imp.go xlp33_2 (by omega))); (try (have i_xlp33_3 := Imp.go xlp33_3 (by omega))); (try (have i_t175 := Imp.go t175 (by omega))); omega)))) (Imp.mk (fun hp => have hp : (V205 0 8).toInt = 0 := hp; (show (V205 0 48).toInt - (V 0 48).toInt ≤ 2 * ((V205 0 7).toInt - (V 0 7).toInt) from by first | omega | ((try (have i_t175 := Imp.go t175 (by omega))); (try (have i_xlp33_3 := Imp.go xlp33_3 (by omega))); (try (have i_xlp33_2 := Imp.go xlp33_2 (by omega))); (try (have i_t8 := Imp.go t8 (by omega))); (try (have i_t8 := Imp.go t8 (by omega))); (try (have i_xlp33_2 := Imp.go xlp33_2 (by omega))); (try (have i_xlp33_3 := Imp.go xlp33_3 (by omega))); (try (have i_t175 := Imp.go t175 (by omega))); omega)))) (show (V205 0 48).toInt ≤ 8050 - 6 * (V 0 50).toInt from by first | omega | ((try (have i_t175 := Imp.go t175 (by omega))); (try (have i_xlp33_3 := Imp.go xlp33_3 (by omega))); (try (have i_xlp33_2 := Imp.go xlp33_2 (by omega))); (try (have i_t8 := Imp.go t8 (by omega))); (try (have i_t8 := Imp.go t8 (by omega))); (try (have i_xlp33_2 := Imp.go xlp33_2 (by omega))); (try (have i_xlp33_3 := Imp.go xlp33_3 (by omega))); (try (have i_t175 := Imp.go t175 (by omega))); omega)) (show (V205 0 50).toInt = (V 0 50).toInt from by first | omega | ((try (have i_t175 := Imp.go t175 (by omega))); (try (have i_xlp33_3 := Imp.go xlp33_3 (by omega))); (try (have i_xlp33_2 := Imp.go xlp33_2 (by omega))); (try (have i_t8 := Imp.go t8 (by omega))); (try (have i_t8 := Imp.go t8 (by omega))); (try (have i_xlp33_2 := Imp.go xlp33_2 (by omega))); (try (have i_xlp33_3 := Imp.go xlp33_3 (by omega))); (try (have i_t175 := Imp.go t175 (by omega))); omega)) (show (V 0 48).toInt ≤ (V205 0 48).toInt from by first | omega | ((try (have i_t175 := Imp.go t175 (by omega))); (try (have i_xlp33_3 := Imp.go xlp33_3 (by omega))); (try (have i_xlp33_2 := Imp.go xlp33_2 (by omega))); (try (have i_t8 := Imp.go t8 (by omega))); (try (have i_t8 := Imp.go t8 (by omega))); (try (have i_xlp33_2 := Imp.go xlp33_2 (by omega))); (try (have i_xlp33_3 := Imp.go xlp33_3 (by omega))); (try (have i_t175 := Imp.go t175 (by omega))); omega)) rw214 rw215 rw216 rw217 (by first | omega | ((try (have i_t175 := Imp.go t175 (by omega))); (try (have i_xlp33_3 := Imp.go xlp33_3 (by omega))); (try (have i_xlp33_2 := Imp.go xlp33_2 (by omega))); (try (have i_t8 := Imp.go t8 (by omega))); (try (have i_t8 := Imp.go t8 (by omega))); (try (have i_xlp33_2 := Imp.go xlp33_2 (by omega))); (try (have i_xlp33_3 := Imp.go xlp33_3 (by omega))); (try (have i_t175 := Imp.go t175 (by omega))); omega)) alL185 (agr.tr (agr.tr (agr.up (agr.tr agr.rf ajV30 (by decide) (by decide)) hV163 rfl) ajV184 (by decide) (by decide)) ajV205 (by decide) (by decide)) hMV205 hP hD hS (lv_sub hl [2] rfl)
                      · skip
                        have hb218 : ∀ k, Rc gT (Crun gs (Isum gd :: k)) (Cbad (V184 0 8).toInt) := fun k => (hr164 k).tr (h191 (IsumR gd :: k))
                        refine lv_aload_n hx hb dX12_sum_53 rfl (lv_at hl 1 rfl) ?_
                        refine lv_iload_n hx hb dX12_sum_54 rfl (lv_at hl 0 rfl) ?_
                        refine lv_iconst (v := 0) hx hb dX12_sum_55 (by decide) ?_
                        refine lv_iconst (v := 0) hx hb dX12_sum_56 (by decide) ?_
                        have r219 : Int32.toInt 7 = 7 := by decide
                        have r220 : Int32.toInt 0 = 0 := by decide
                        refine gA_int (gA_runV (As := [.int 7, .int 0, .int 0]) (rest := []) (ci := 12) (q0 := 0) hx hb hml hown hg hP hD hK hS hA hnw hgk (s_emit3 l D ks H.size ad kk V184 L185 7 0 0 hMV184 (show (V184 0 48).toInt ≤ 9999 from by first | omega | ((try (have i_t175 := Imp.go t175 (by omega))); (try (have i_xlp33_3 := Imp.go xlp33_3 (by omega))); (try (have i_xlp33_2 := Imp.go xlp33_2 (by omega))); (try (have i_t8 := Imp.go t8 (by omega))); (try (have i_t8 := Imp.go t8 (by omega))); (try (have i_xlp33_2 := Imp.go xlp33_2 (by omega))); (try (have i_xlp33_3 := Imp.go xlp33_3 (by omega))); (try (have i_t175 := Imp.go t175 (by omega))); omega))) w2140 w2142 w111 w172 w2143 rfl rfl hdV_yX12_emit ⟨(by show 0 + 1 ≤ 10 * dd + 12; omega), (by show 8 + (4 + 11) + (0) ≤ 300 * dd + 380; omega)⟩ rfl hl.1 rfl (Nat.le_of_ble_eq_true rfl) dX12_sum_57 ⟨Nat.le_of_ble_eq_true rfl, Nat.le_of_ble_eq_true rfl⟩) hP hD hK hS hA (fun z221 u222 H locs w223 hP hD hK hS => ?_)
                        obtain ⟨V227, L228⟩ := u222
                        obtain ⟨hMV227, ajV227, axL228, rgz221, t224, t225, t226⟩ := w223
                        have axL228 : L185 = L228 := Eq.symm axL228
                        subst axL228
                        have hP : va_P D vwCl (mw ad kk ks.1 V227 L185) H := hP
                        have hD : va_D A (mw ad kk ks.1 V227 L185) := hD
                        have hMV227 : rgd bM V227 := hMV227
                        have ajV227 : agr [(0, 48)] [45, 46, 47] V184 V227 := ajV227
                        have agV227 : agr [(0, 7), (0, 8), (0, 48), (0, 50)] [35, 36, 37, 38, 45, 46, 47] V V227 := agV184.tr ajV227 (by decide) (by decide)
                        have rgz221 : 0 ≤ z221.toInt ∧ z221.toInt ≤ 20000 := rgz221
                        have t224 : (V227 0 48).toInt = (V184 0 48).toInt + 1 := t224
                        have t225 : z221.toInt = (V184 0 49).toInt + (V184 0 48).toInt := t225
                        have t226 : emitted V184 V227 (pA V184) 7 0 0 := t226
                        have r229 : 0 ≤ ((V227 0 48)).toInt ∧ ((V227 0 48)).toInt ≤ 10000 := hMV227 0 48
                        have pq230 : (V184 0 49).toInt = ((V 0 49)).toInt := congrArg Int32.toInt ((ajV184 0 49 rfl).trans ((up2_k hV163 (by decide)).trans ((ajV30 0 49 rfl).trans (ajV17 0 49 rfl))))
                        have r231 : 0 ≤ ((V 0 49)).toInt ∧ ((V 0 49)).toInt ≤ 10000 := hMV 0 49
                        refine lv_istore_n (lv' := [(2, .int z221), (1, .int 7), (0, .ref (ad 0))]) hx hb dX12_sum_60 rfl hl (by decide) rfl (fun ls hl => ?_)
                        refine lv_goto (tgt := 4) hx hb dX12_sum_61 (by decide) ?_
                        have pq232 : (V227 0 7).toInt = ((V184 0 7)).toInt := congrArg Int32.toInt (ajV227 0 7 rfl)
                        have pq233 : (V227 0 8).toInt = ((V184 0 8)).toInt := congrArg Int32.toInt (ajV227 0 8 rfl)
                        have pq234 : (V227 0 50).toInt = ((V184 0 50)).toInt := congrArg Int32.toInt (ajV227 0 50 rfl)
                        have rw235 : RoV 35 bq V V227 := (fun k hk => ((ajV227 35 k rfl).trans ((t180 k hk).trans ((up2_o hV163 (by decide)).trans (xlp33_7 k hk)))))
                        have rw236 : RoV 37 bq V V227 := (fun k hk => ((ajV227 37 k rfl).trans ((t181 k hk).trans ((up2_o hV163 (by decide)).trans (xlp33_8 k hk)))))
                        have rw237 : RoL 36 20 bq L L185 := (fun k hk => ((t182 k hk).trans (xlp33_9 k hk)))
                        have rw238 : RoL 38 20 bq L L185 := (fun k hk => ((t183 k hk).trans (xlp33_10 k hk)))
                        exact ihlp33 (g32 - 1) V227 L185 H locs ls (Or.inr ⟨(show 1 ≤ (V227 0 8).toInt from by omega), (fun k => by rw [show (V227 0 8).toInt = (V184 0 8).toInt from by omega]; exact hb218 k)⟩) (show 0 ≤ (g32 - 1) from by first | omega | ((try (have i_t175 := Imp.go t175 (by omega))); (try (have i_xlp33_3 := Imp.go xlp33_3 (by omega))); (try (have i_xlp33_2 := Imp.go xlp33_2 (by omega))); (try (have i_t8 := Imp.go t8 (by omega))); (try (have i_t8 := Imp.go t8 (by omega))); (try (have i_xlp33_2 := Imp.go xlp33_2 (by omega))); (try (have i_xlp33_3 := Imp.go xlp33_3 (by omega))); (try (have i_t175 := Imp.go t175 (by omega))); omega)) (Imp.mk (fun hp => have hp : (V227 0 8).toInt = 0 := hp; (show (gn : Int) - (V227 0 7).toInt < (g32 - 1) from by first | omega | ((try (have i_t175 := Imp.go t175 (by omega))); (try (have i_xlp33_3 := Imp.go xlp33_3 (by omega))); (try (have i_xlp33_2 := Imp.go xlp33_2 (by omega))); (try (have i_t8 := Imp.go t8 (by omega))); (try (have i_t8 := Imp.go t8 (by omega))); (try (have i_xlp33_2 := Imp.go xlp33_2 (by omega))); (try (have i_xlp33_3 := Imp.go xlp33_3 (by omega))); (try (have i_t175 := Imp.go t175 (by omega))); omega)))) (Imp.mk (fun hp => have hp : (V227 0 8).toInt = 0 := hp; (show (V227 0 48).toInt - (V 0 48).toInt ≤ 2 * ((V227 0 7).toInt - (V 0 7).toInt) from by first | omega | ((try (have i_t175 := Imp.go t175 (by omega))); (try (have i_xlp33_3 := Imp.go xlp33_3 (by omega))); (try (have i_xlp33_2 := Imp.go xlp33_2 (by omega))); (try (have i_t8 := Imp.go t8 (by omega))); (try (have i_t8 := Imp.go t8 (by omega))); (try (have i_xlp33_2 := Imp.go xlp33_2 (by omega))); (try (have i_xlp33_3 := Imp.go xlp33_3 (by omega))); (try (have i_t175 := Imp.go t175 (by omega))); omega)))) (show (V227 0 48).toInt ≤ 8050 - 6 * (V 0 50).toInt from by first | omega | ((try (have i_t175 := Imp.go t175 (by omega))); (try (have i_xlp33_3 := Imp.go xlp33_3 (by omega))); (try (have i_xlp33_2 := Imp.go xlp33_2 (by omega))); (try (have i_t8 := Imp.go t8 (by omega))); (try (have i_t8 := Imp.go t8 (by omega))); (try (have i_xlp33_2 := Imp.go xlp33_2 (by omega))); (try (have i_xlp33_3 := Imp.go xlp33_3 (by omega))); (try (have i_t175 := Imp.go t175 (by omega))); omega)) (show (V227 0 50).toInt = (V 0 50).toInt from by first | omega | ((try (have i_t175 := Imp.go t175 (by omega))); (try (have i_xlp33_3 := Imp.go xlp33_3 (by omega))); (try (have i_xlp33_2 := Imp.go xlp33_2 (by omega))); (try (have i_t8 := Imp.go t8 (by omega))); (try (have i_t8 := Imp.go t8 (by omega))); (try (have i_xlp33_2 := Imp.go xlp33_2 (by omega))); (try (have i_xlp33_3 := Imp.go xlp33_3 (by omega))); (try (have i_t175 := Imp.go t175 (by omega))); omega)) (show (V 0 48).toInt ≤ (V227 0 48).toInt from by first | omega | ((try (have i_t175 := Imp.go t175 (by omega))); (try (have i_xlp33_3 := Imp.go xlp33_3 (by omega))); (try (have i_xlp33_2 := Imp.go xlp33_2 (by omega))); (try (have i_t8 := Imp.go t8 (by omega))); (try (have i_t8 := Imp.go t8 (by omega))); (try (have i_xlp33_2 := Imp.go xlp33_2 (by omega))); (try (have i_xlp33_3 := Imp.go xlp33_3 (by omega))); (try (have i_t175 := Imp.go t175 (by omega))); omega)) rw235 rw236 rw237 rw238 (by first | omega | ((try (have i_t175 := Imp.go t175 (by omega))); (try (have i_xlp33_3 := Imp.go xlp33_3 (by omega))); (try (have i_xlp33_2 := Imp.go xlp33_2 (by omega))); (try (have i_t8 := Imp.go t8 (by omega))); (try (have i_t8 := Imp.go t8 (by omega))); (try (have i_xlp33_2 := Imp.go xlp33_2 (by omega))); (try (have i_xlp33_3 := Imp.go xlp33_3 (by omega))); (try (have i_t175 := Imp.go t175 (by omega))); omega)) alL185 (agr.tr (agr.tr (agr.up (agr.tr agr.rf ajV30 (by decide) (by decide)) hV163 rfl) ajV184 (by decide) (by decide)) ajV227 (by decide) (by decide)) hMV227 hP hD hS (lv_sub hl [2] rfl)
                    · skip
                      have f239 : z152.toInt ≠ 0 := b_neq rfl (by decide) c160
                      exfalso; first | omega | ((try (have i_xlp33_3 := Imp.go xlp33_3 (by omega))); (try (have i_xlp33_2 := Imp.go xlp33_2 (by omega))); (try (have i_t8 := Imp.go t8 (by omega))); (try (have i_t8 := Imp.go t8 (by omega))); (try (have i_xlp33_2 := Imp.go xlp33_2 (by omega))); (try (have i_xlp33_3 := Imp.go xlp33_3 (by omega))); omega)
              · skip
                have kd240 : gT.1 (s1.1 0) ≠ 45 := fun h9 => h147 (h9.trans (by decide))
                refine lv_if_eq (tgt := 64) hx hb dX12_sum_19 (by decide) (fun c241 => ?_) (fun c241 => ?_)
                · skip
                  have f242 : z142.toInt = 0 := b_eq rfl (by decide) c241
                  have hr243 : ∀ k, Rc gT (Crun gs (Isum gd :: k)) (Crun s1 (k)) := fun k => Rc.go1 (hq k) (sumR_n gd kd137 kd240)
                  have rw244 : RoV 35 bq V V30 := (fun k hk => (xlp33_7 k hk))
                  have rw245 : RoV 37 bq V V30 := (fun k hk => (xlp33_8 k hk))
                  have rw246 : RoL 36 20 bq L L31 := (fun k hk => (xlp33_9 k hk))
                  have rw247 : RoL 38 20 bq L L31 := (fun k hk => (xlp33_10 k hk))
                  exact W.vret hx hb hr (fun t ht hW => ⟨⟨(V30, L31), rfl, ⟨hMV30, agV30, alL31, (Imp.mk (fun hp => have hp : (V30 0 8).toInt = 0 := hp; (show (V30 0 48).toInt - (V 0 48).toInt ≤ 2 * ((V30 0 7).toInt - (V 0 7).toInt) from by first | omega | ((try (have i_xlp33_3 := Imp.go xlp33_3 (by omega))); (try (have i_xlp33_2 := Imp.go xlp33_2 (by omega))); (try (have i_t8 := Imp.go t8 (by omega))); (try (have i_t8 := Imp.go t8 (by omega))); (try (have i_xlp33_2 := Imp.go xlp33_2 (by omega))); (try (have i_xlp33_3 := Imp.go xlp33_3 (by omega))); omega)))), (show (V30 0 48).toInt ≤ 8050 - 6 * (V 0 50).toInt from by first | omega | ((try (have i_xlp33_3 := Imp.go xlp33_3 (by omega))); (try (have i_xlp33_2 := Imp.go xlp33_2 (by omega))); (try (have i_t8 := Imp.go t8 (by omega))); (try (have i_t8 := Imp.go t8 (by omega))); (try (have i_xlp33_2 := Imp.go xlp33_2 (by omega))); (try (have i_xlp33_3 := Imp.go xlp33_3 (by omega))); omega)), (show (V30 0 50).toInt = (V 0 50).toInt from by first | omega | ((try (have i_xlp33_3 := Imp.go xlp33_3 (by omega))); (try (have i_xlp33_2 := Imp.go xlp33_2 (by omega))); (try (have i_t8 := Imp.go t8 (by omega))); (try (have i_t8 := Imp.go t8 (by omega))); (try (have i_xlp33_2 := Imp.go xlp33_2 (by omega))); (try (have i_xlp33_3 := Imp.go xlp33_3 (by omega))); omega)), (show (V 0 48).toInt ≤ (V30 0 48).toInt from by first | omega | ((try (have i_xlp33_3 := Imp.go xlp33_3 (by omega))); (try (have i_xlp33_2 := Imp.go xlp33_2 (by omega))); (try (have i_t8 := Imp.go t8 (by omega))); (try (have i_t8 := Imp.go t8 (by omega))); (try (have i_xlp33_2 := Imp.go xlp33_2 (by omega))); (try (have i_xlp33_3 := Imp.go xlp33_3 (by omega))); omega)), (Or.inl ⟨W0 rq, s1, hr243, rq, keepS.le (keepS.tr (keepS.rf : keepS gs 0 gs) kq) (by decide)⟩), rw244, rw245, rw246, rw247⟩, by rw [ht]; exact hP, va_K.moved hW.alike hK, hD⟩, hS.F ht⟩) hS.2.2 dX12_sum_64
                · skip
                  have f248 : z142.toInt ≠ 0 := b_neq rfl (by decide) c241
                  exfalso; first | omega | ((try (have i_xlp33_3 := Imp.go xlp33_3 (by omega))); (try (have i_xlp33_2 := Imp.go xlp33_2 (by omega))); (try (have i_t8 := Imp.go t8 (by omega))); (try (have i_t8 := Imp.go t8 (by omega))); (try (have i_xlp33_2 := Imp.go xlp33_2 (by omega))); (try (have i_xlp33_3 := Imp.go xlp33_3 (by omega))); omega)
        · skip
          refine lv_bipush (v := 43) hx hb dX12_sum_5 (by decide) ?_
          have r249 : Int32.toInt 43 = 43 := by decide
          refine gA_int (gA_runV (As := [.int 43]) (rest := []) (ci := 12) (q0 := 0) hx hb hml hown hg hP hD hK hS hA hnw hgk (s_isSignB l D ks H.size ad kk V30 L31 43 hMV30 (show 1 ≤ (V30 0 8).toInt from by first | omega | ((try (have i_xlp33_3 := Imp.go xlp33_3 (by omega))); (try (have i_xlp33_2 := Imp.go xlp33_2 (by omega))); (try (have i_t8 := Imp.go t8 (by omega))); (try (have i_t8 := Imp.go t8 (by omega))); (try (have i_xlp33_2 := Imp.go xlp33_2 (by omega))); (try (have i_xlp33_3 := Imp.go xlp33_3 (by omega))); omega))) w2075 w2077 w95 w172 w2078 rfl rfl hdV_yX12_isSign ⟨(by show 0 + 1 ≤ 10 * dd + 12; omega), (by show 8 + (2 + 11) + (0) ≤ 300 * dd + 380; omega)⟩ rfl hl.1 rfl (Nat.le_of_ble_eq_true rfl) dX12_sum_7 ⟨Nat.le_of_ble_eq_true rfl, Nat.le_of_ble_eq_true rfl⟩) hP hD hK hS hA (fun z250 u251 H locs w252 hP hD hK hS => ?_)
          have rgz250 := w252
          have rgz250 : 0 ≤ z250.toInt ∧ z250.toInt ≤ 0 := rgz250
          refine lv_if_ne (tgt := 22) hx hb dX12_sum_10 (by decide) (fun c253 => ?_) (fun c253 => ?_)
          · skip
            have f254 : z250.toInt ≠ 0 := b_neq rfl (by decide) c253
            exfalso; first | omega | ((try (have i_xlp33_3 := Imp.go xlp33_3 (by omega))); (try (have i_xlp33_2 := Imp.go xlp33_2 (by omega))); (try (have i_t8 := Imp.go t8 (by omega))); (try (have i_t8 := Imp.go t8 (by omega))); (try (have i_xlp33_2 := Imp.go xlp33_2 (by omega))); (try (have i_xlp33_3 := Imp.go xlp33_3 (by omega))); omega)
          · skip
            have f255 : z250.toInt = 0 := b_eq rfl (by decide) c253
            refine lv_aload_n hx hb dX12_sum_13 rfl (lv_at hl 0 rfl) ?_
            refine lv_bipush (v := 45) hx hb dX12_sum_14 (by decide) ?_
            have r256 : Int32.toInt 45 = 45 := by decide
            refine gA_int (gA_runV (As := [.int 45]) (rest := []) (ci := 12) (q0 := 0) hx hb hml hown hg hP hD hK hS hA hnw hgk (s_isSignB l D ks H.size ad kk V30 L31 45 hMV30 (show 1 ≤ (V30 0 8).toInt from by first | omega | ((try (have i_xlp33_3 := Imp.go xlp33_3 (by omega))); (try (have i_xlp33_2 := Imp.go xlp33_2 (by omega))); (try (have i_t8 := Imp.go t8 (by omega))); (try (have i_t8 := Imp.go t8 (by omega))); (try (have i_xlp33_2 := Imp.go xlp33_2 (by omega))); (try (have i_xlp33_3 := Imp.go xlp33_3 (by omega))); omega))) w2075 w2077 w95 w172 w2078 rfl rfl hdV_yX12_isSign ⟨(by show 0 + 1 ≤ 10 * dd + 12; omega), (by show 8 + (2 + 11) + (0) ≤ 300 * dd + 380; omega)⟩ rfl hl.1 rfl (Nat.le_of_ble_eq_true rfl) dX12_sum_16 ⟨Nat.le_of_ble_eq_true rfl, Nat.le_of_ble_eq_true rfl⟩) hP hD hK hS hA (fun z257 u258 H locs w259 hP hD hK hS => ?_)
            have rgz257 := w259
            have rgz257 : 0 ≤ z257.toInt ∧ z257.toInt ≤ 0 := rgz257
            refine lv_if_eq (tgt := 64) hx hb dX12_sum_19 (by decide) (fun c260 => ?_) (fun c260 => ?_)
            · skip
              have f261 : z257.toInt = 0 := b_eq rfl (by decide) c260
              have rw262 : RoV 35 bq V V30 := (fun k hk => (xlp33_7 k hk))
              have rw263 : RoV 37 bq V V30 := (fun k hk => (xlp33_8 k hk))
              have rw264 : RoL 36 20 bq L L31 := (fun k hk => (xlp33_9 k hk))
              have rw265 : RoL 38 20 bq L L31 := (fun k hk => (xlp33_10 k hk))
              exact W.vret hx hb hr (fun t ht hW => ⟨⟨(V30, L31), rfl, ⟨hMV30, agV30, alL31, (Imp.mk (fun hp => have hp : (V30 0 8).toInt = 0 := hp; (show (V30 0 48).toInt - (V 0 48).toInt ≤ 2 * ((V30 0 7).toInt - (V 0 7).toInt) from by first | omega | ((try (have i_xlp33_3 := Imp.go xlp33_3 (by omega))); (try (have i_xlp33_2 := Imp.go xlp33_2 (by omega))); (try (have i_t8 := Imp.go t8 (by omega))); (try (have i_t8 := Imp.go t8 (by omega))); (try (have i_xlp33_2 := Imp.go xlp33_2 (by omega))); (try (have i_xlp33_3 := Imp.go xlp33_3 (by omega))); omega)))), (show (V30 0 48).toInt ≤ 8050 - 6 * (V 0 50).toInt from by first | omega | ((try (have i_xlp33_3 := Imp.go xlp33_3 (by omega))); (try (have i_xlp33_2 := Imp.go xlp33_2 (by omega))); (try (have i_t8 := Imp.go t8 (by omega))); (try (have i_t8 := Imp.go t8 (by omega))); (try (have i_xlp33_2 := Imp.go xlp33_2 (by omega))); (try (have i_xlp33_3 := Imp.go xlp33_3 (by omega))); omega)), (show (V30 0 50).toInt = (V 0 50).toInt from by first | omega | ((try (have i_xlp33_3 := Imp.go xlp33_3 (by omega))); (try (have i_xlp33_2 := Imp.go xlp33_2 (by omega))); (try (have i_t8 := Imp.go t8 (by omega))); (try (have i_t8 := Imp.go t8 (by omega))); (try (have i_xlp33_2 := Imp.go xlp33_2 (by omega))); (try (have i_xlp33_3 := Imp.go xlp33_3 (by omega))); omega)), (show (V 0 48).toInt ≤ (V30 0 48).toInt from by first | omega | ((try (have i_xlp33_3 := Imp.go xlp33_3 (by omega))); (try (have i_xlp33_2 := Imp.go xlp33_2 (by omega))); (try (have i_t8 := Imp.go t8 (by omega))); (try (have i_t8 := Imp.go t8 (by omega))); (try (have i_xlp33_2 := Imp.go xlp33_2 (by omega))); (try (have i_xlp33_3 := Imp.go xlp33_3 (by omega))); omega)), (Or.inr ⟨(show 1 ≤ (V30 0 8).toInt from by omega), hq⟩), rw262, rw263, rw264, rw265⟩, by rw [ht]; exact hP, va_K.moved hW.alike hK, hD⟩, hS.F ht⟩) hS.2.2 dX12_sum_64
            · skip
              have f266 : z257.toInt ≠ 0 := b_neq rfl (by decide) c260
              exfalso; first | omega | ((try (have i_xlp33_3 := Imp.go xlp33_3 (by omega))); (try (have i_xlp33_2 := Imp.go xlp33_2 (by omega))); (try (have i_t8 := Imp.go t8 (by omega))); (try (have i_t8 := Imp.go t8 (by omega))); (try (have i_xlp33_2 := Imp.go xlp33_2 (by omega))); (try (have i_xlp33_3 := Imp.go xlp33_3 (by omega))); omega)
    have rw267 : RoV 35 bq V V17 := (fun k hk => ((t13 k hk).trans rfl))
    have rw268 : RoV 37 bq V V17 := (fun k hk => ((t14 k hk).trans rfl))
    have rw269 : RoL 36 20 bq L L18 := (fun k hk => ((t15 k hk).trans rfl))
    have rw270 : RoL 38 20 bq L L18 := (fun k hk => ((t16 k hk).trans rfl))
    exact lp33 ((((gn : Int) + 1) + 1 : Int).toNat) ((gn : Int) + 1) V17 L18 H locs ls (Or.inl ⟨W0 rl25, sx23, hr27, rl25, keepS.le (keepS.tr (keepS.rf : keepS gs 0 gs) kp26) (by decide)⟩) (show 0 ≤ ((gn : Int) + 1) from by first | omega | ((try (have i_t8 := Imp.go t8 (by omega))); omega)) (Imp.mk (fun hp => have hp : (V17 0 8).toInt = 0 := hp; (show (gn : Int) - (V17 0 7).toInt < ((gn : Int) + 1) from by first | omega | ((try (have i_t8 := Imp.go t8 (by omega))); omega)))) (Imp.mk (fun hp => have hp : (V17 0 8).toInt = 0 := hp; (show (V17 0 48).toInt - (V 0 48).toInt ≤ 2 * ((V17 0 7).toInt - (V 0 7).toInt) from by first | omega | ((try (have i_t8 := Imp.go t8 (by omega))); omega)))) (show (V17 0 48).toInt ≤ 8050 - 6 * (V 0 50).toInt from by first | omega | ((try (have i_t8 := Imp.go t8 (by omega))); omega)) (show (V17 0 50).toInt = (V 0 50).toInt from by first | omega | ((try (have i_t8 := Imp.go t8 (by omega))); omega)) (show (V 0 48).toInt ≤ (V17 0 48).toInt from by first | omega | ((try (have i_t8 := Imp.go t8 (by omega))); omega)) rw267 rw268 rw269 rw270 (by first | omega | ((try (have i_t8 := Imp.go t8 (by omega))); omega)) alL18 agr.rf hMV17 hP hD hS (lv_sub hl [0] rfl)
  · skip
    have hb271 : ∀ k, Rc gT (Crun gs (Isum gd :: k)) (Cbad (V17 0 8).toInt) := fun k => (hr4 k).tr (h24 (IsumR gd :: k))
    have lp275 : ∀ (fulp275 : Nat) (g274 : Int) (V272 : Vf) (L273 : Lf) (H : Heap) (locs : List Loc) (ls : Array Slot), (((V272 0 8).toInt = 0 ∧ ∃ s1 : St, (∀ k, Rc gT (Crun gs (Isum gd :: k)) (Crun s1 (IsumR gd :: k))) ∧ RelM V272 L273 bq gn gT s1 gl ∧ keepS gs 1 s1) ∨ (1 ≤ (V272 0 8).toInt ∧ ∀ k, Rc gT (Crun gs (Isum gd :: k)) (Cbad (V272 0 8).toInt))) → 0 ≤ g274 → Imp ((V272 0 8).toInt = 0) ((gn : Int) - (V272 0 7).toInt < g274) → Imp ((V272 0 8).toInt = 0) ((V272 0 48).toInt - (V 0 48).toInt ≤ 2 * ((V272 0 7).toInt - (V 0 7).toInt)) → (V272 0 48).toInt ≤ 8050 - 6 * (V 0 50).toInt → (V272 0 50).toInt = (V 0 50).toInt → (V 0 48).toInt ≤ (V272 0 48).toInt → (RoV 35 bq V V272) → (RoV 37 bq V V272) → (RoL 36 20 bq L L273) → (RoL 38 20 bq L L273) → g274 < (fulp275 : Int) → agL [35, 36, 37, 38, 45, 46, 47] L L273 → agr [(0, 7), (0, 8), (0, 48), (0, 50)] [35, 36, 37, 38, 45, 46, 47] V17 V272 → rgd bM V272 → va_P D vwCl (mw ad kk ks.1 V272 L273) H → va_D A (mw ad kk ks.1 V272 L273) → va_S A s.heap H locs → lv_has ls 3 [(0, .ref (ad 0))] → W p l e (rK 12 380 dd) s m ([.ref (ad 0)] : List Value).toArray below meth c H locs 0 0 (MQ below (q_s_sumA D ks ad kk V L  bq gn gT gs gl gd A) ([.ref (ad 0)] : List Value).toArray s 0 0 A) (F0 m 4 ls []) := by
      intro fulp275
      induction fulp275 with
      | zero =>
        intro g274 V272 L273 H locs ls xlp275_0 xlp275_1 xlp275_2 xlp275_3 xlp275_4 xlp275_5 xlp275_6 xlp275_7 xlp275_8 xlp275_9 xlp275_10 hn alL273 ajV272 hMV272 hP hD hS hl
        exfalso; omega
      | succ fulp275 ihlp275 =>
        intro g274 V272 L273 H locs ls xlp275_0 xlp275_1 xlp275_2 xlp275_3 xlp275_4 xlp275_5 xlp275_6 xlp275_7 xlp275_8 xlp275_9 xlp275_10 hn alL273 ajV272 hMV272 hP hD hS hl
        have agV272 : agr [(0, 7), (0, 8), (0, 48), (0, 50)] [35, 36, 37, 38, 45, 46, 47] V V272 := agV17.tr ajV272 (by decide) (by decide)
        have r276 : 0 ≤ ((V272 0 8)).toInt ∧ ((V272 0 8)).toInt ≤ 70000 := hMV272 0 8
        have r277 : 0 ≤ ((V272 0 48)).toInt ∧ ((V272 0 48)).toInt ≤ 10000 := hMV272 0 48
        have r278 : 0 ≤ ((V272 0 50)).toInt ∧ ((V272 0 50)).toInt ≤ 9 := hMV272 0 50
        refine lv_aload_n hx hb dX12_sum_4 rfl (lv_at hl 0 rfl) ?_
        rcases xlp275_0 with ⟨f8, s1, hq, rq, kq⟩ | ⟨f8, hq⟩
        · skip
          have fz279 := RelM.rg rq
          refine lv_bipush (v := 43) hx hb dX12_sum_5 (by decide) ?_
          have r280 : Int32.toInt 43 = 43 := by decide
          refine gA_int (gA_runV (As := [.int 43]) (rest := []) (ci := 12) (q0 := 0) hx hb hml hown hg hP hD hK hS hA hnw hgk (s_isSignA l D ks H.size ad kk V272 L273 43 (bq) (gn) (gT) (s1) (gl) hMV272 rq (sg_yes (j := 43) (by decide) (by decide) (by decide))) w2075 w2077 w95 w172 w2078 rfl rfl hdV_yX12_isSign ⟨(by show 0 + 1 ≤ 10 * dd + 12; omega), (by show 8 + (2 + 11) + (0) ≤ 300 * dd + 380; omega)⟩ rfl hl.1 rfl (Nat.le_of_ble_eq_true rfl) dX12_sum_7 ⟨Nat.le_of_ble_eq_true rfl, Nat.le_of_ble_eq_true rfl⟩) hP hD hK hS hA (fun z281 u282 H locs w283 hP hD hK hS => ?_)
          obtain ⟨rgz281, t284⟩ := w283
          have rgz281 : 0 ≤ z281.toInt ∧ z281.toInt ≤ 1 := rgz281
          have t284 : (z281.toInt = 1 ∧ (gT).1 ((s1).1 0) = (Int32.toInt 43)) ∨ (z281.toInt = 0 ∧ (gT).1 ((s1).1 0) ≠ (Int32.toInt 43)) := t284
          rcases t284 with ⟨q285, h286⟩ | ⟨q285, h286⟩
          · skip
            have kd287 : gT.1 (s1.1 0) = 43 := h286.trans (by decide)
            refine lv_if_ne (tgt := 22) hx hb dX12_sum_10 (by decide) (fun c288 => ?_) (fun c288 => ?_)
            · skip
              have f289 : z281.toInt ≠ 0 := b_neq rfl (by decide) c288
              refine lv_aload_n hx hb dX12_sum_22 rfl (lv_at hl 0 rfl) ?_
              refine lv_bipush (v := 43) hx hb dX12_sum_23 (by decide) ?_
              refine gA_int (gA_runV (As := [.int 43]) (rest := []) (ci := 12) (q0 := 0) hx hb hml hown hg hP hD hK hS hA hnw hgk (s_isSignA l D ks H.size ad kk V272 L273 43 (bq) (gn) (gT) (s1) (gl) hMV272 rq (sg_yes (j := 43) (by decide) (by decide) (by decide))) w2075 w2077 w95 w172 w2078 rfl rfl hdV_yX12_isSign ⟨(by show 0 + 1 ≤ 10 * dd + 12; omega), (by show 8 + (2 + 11) + (0) ≤ 300 * dd + 380; omega)⟩ rfl hl.1 rfl (Nat.le_of_ble_eq_true rfl) dX12_sum_25 ⟨Nat.le_of_ble_eq_true rfl, Nat.le_of_ble_eq_true rfl⟩) hP hD hK hS hA (fun z290 u291 H locs w292 hP hD hK hS => ?_)
              obtain ⟨rgz290, t293⟩ := w292
              have rgz290 : 0 ≤ z290.toInt ∧ z290.toInt ≤ 1 := rgz290
              have t293 : (z290.toInt = 1 ∧ (gT).1 ((s1).1 0) = (Int32.toInt 43)) ∨ (z290.toInt = 0 ∧ (gT).1 ((s1).1 0) ≠ (Int32.toInt 43)) := t293
              rcases t293 with ⟨q294, h295⟩ | ⟨q294, h295⟩
              · skip
                have kd296 : gT.1 (s1.1 0) = 43 := h295.trans (by decide)
                refine lv_if_eq (tgt := 36) hx hb dX12_sum_28 (by decide) (fun c297 => ?_) (fun c297 => ?_)
                · skip
                  have f298 : z290.toInt = 0 := b_eq rfl (by decide) c297
                  exfalso; first | omega | ((try (have i_xlp275_3 := Imp.go xlp275_3 (by omega))); (try (have i_xlp275_2 := Imp.go xlp275_2 (by omega))); (try (have i_t8 := Imp.go t8 (by omega))); (try (have i_t8 := Imp.go t8 (by omega))); (try (have i_xlp275_2 := Imp.go xlp275_2 (by omega))); (try (have i_xlp275_3 := Imp.go xlp275_3 (by omega))); omega)
                · skip
                  have f299 : z290.toInt ≠ 0 := b_neq rfl (by decide) c297
                  refine lv_bipush (v := 6) hx hb dX12_sum_31 (by decide) ?_
                  refine lv_goto (tgt := 38) hx hb dX12_sum_33 (by decide) ?_
                  refine lv_istore_n (lv' := [(1, .int 6), (0, .ref (ad 0))]) hx hb dX12_sum_38 rfl hl (by decide) rfl (fun ls hl => ?_)
                  refine lv_aload_n hx hb dX12_sum_39 rfl (lv_at hl 1 rfl) ?_
                  refine lv_dup hx hb dX12_sum_40 rfl ?_
                  refine va_get (D := D) (ci := 12) (v := .int (V272 0 7)) (C := RX12) (T := TX12) (N := 100) hx hb hg inX12 hown hK hP 0 rfl rfl 7 (by decide) (hg _ w1717) (fun _ h9 => h9) rfl dX12_sum_41 ?_
                  refine lv_iconst (v := 1) hx hb dX12_sum_44 (by decide) ?_
                  refine lv_iadd hx hb dX12_sum_45 ?_
                  refine lv_topi (fun z300 ez300 => ?_)
                  have hz300 : z300.toInt = ((V272 0 7)).toInt + 1 := i_add ez300 rfl (by decide) (by omega)
                  refine va_put (D := D) (ci := 12) (v := .int z300) (ty := tyX12 7) (C := RX12) (T := TX12) (N := 100) hx hb hg inX12 tyX12 tyX12_ok nmX12 hown hK hP hD hS 0 rfl rfl 7 (by decide) (hg _ w1717) (fun _ h9 => h9) rfl (tyX12_ok 7 (by decide)) rfl rfl (Nat.le_of_ble_eq_true rfl) dX12_sum_46 (fun H locs hP hD hS => ?_)
                  obtain ⟨V301, hV301⟩ : ∃ z, z = up2 V272 0 7 z300 := ⟨_, rfl⟩
                  have hP : va_P D vwCl (mw ad kk ks.1 V301 L273) H := by rw [hV301]; exact hP
                  have hD : va_D A (mw ad kk ks.1 V301 L273) := by rw [hV301]; exact hD
                  have hMV301 : rgd bM V301 := hMV272.put hV301 (i_full _)
                  have agV301 : agr [(0, 7), (0, 8), (0, 48), (0, 50)] [35, 36, 37, 38, 45, 46, 47] V V301 := agV272.up hV301 rfl
                  have hr302 : ∀ k, Rc gT (Crun gs (Isum gd :: k)) (Crun (nx s1 1) (Iprod gd :: IsumR gd :: k)) := fun k => Rc.go1 (hq k) (sumR_y gd (Or.inl kd296))
                  have rl303 : RelM V301 L273 bq gn gT (nx s1 1) gl := RelM.n1 rq hV301 (by omega) (by rw [kd296]; decide)
                  have ps304 : (nx s1 1).1 0 = s1.1 0 + 1 := rfl
                  have fz305 := RelM.rg rl303
                  have pq306 : (V301 0 8).toInt = ((V272 0 8)).toInt := congrArg Int32.toInt (up2_k hV301 (by decide))
                  have pq307 : (V301 0 7).toInt = z300.toInt := congrArg Int32.toInt (up2_s hV301)
                  refine lv_aload_n hx hb dX12_sum_49 rfl (lv_at hl 1 rfl) ?_
                  have pq308 : (V301 0 48).toInt = ((V272 0 48)).toInt := congrArg Int32.toInt (up2_k hV301 (by decide))
                  have pq309 : (V301 0 50).toInt = ((V272 0 50)).toInt := congrArg Int32.toInt (up2_k hV301 (by decide))
                  refine gA_void (gA_runV (As := []) (rest := []) (ci := 12) (q0 := 0) hx hb hml hown hg hP hD hK hS hA hnw hgk (hk_s_productA H.size ad kk V301 L273 (bq) (gn) (gT) ((nx s1 1)) (gl) (gd) hMV301 rl303 (show (V301 0 48).toInt ≤ 2 * (V301 0 7).toInt from by first | omega | ((try (have i_xlp275_3 := Imp.go xlp275_3 (by omega))); (try (have i_xlp275_2 := Imp.go xlp275_2 (by omega))); (try (have i_t8 := Imp.go t8 (by omega))); (try (have i_t8 := Imp.go t8 (by omega))); (try (have i_xlp275_2 := Imp.go xlp275_2 (by omega))); (try (have i_xlp275_3 := Imp.go xlp275_3 (by omega))); omega)) (show (V301 0 50).toInt = ((gd) : Int) from by first | omega | ((try (have i_xlp275_3 := Imp.go xlp275_3 (by omega))); (try (have i_xlp275_2 := Imp.go xlp275_2 (by omega))); (try (have i_t8 := Imp.go t8 (by omega))); (try (have i_t8 := Imp.go t8 (by omega))); (try (have i_xlp275_2 := Imp.go xlp275_2 (by omega))); (try (have i_xlp275_3 := Imp.go xlp275_3 (by omega))); omega)) (show (V301 0 50).toInt + (dd : Int) = 8 from by first | omega | ((try (have i_xlp275_3 := Imp.go xlp275_3 (by omega))); (try (have i_xlp275_2 := Imp.go xlp275_2 (by omega))); (try (have i_t8 := Imp.go t8 (by omega))); (try (have i_t8 := Imp.go t8 (by omega))); (try (have i_xlp275_2 := Imp.go xlp275_2 (by omega))); (try (have i_xlp275_3 := Imp.go xlp275_3 (by omega))); omega)) (EM.mv em ((up2_k hV301 (by decide)).trans ((ajV272 0 51 rfl).trans (ajV17 0 51 rfl))) ((up2_k hV301 (by decide)).trans ((ajV272 0 52 rfl).trans (ajV17 0 52 rfl))) (by rw [(up2_fo hV301 (by decide) : V301 27 = V272 27), (funext (fun q => ajV272 27 q rfl) : V272 27 = V17 27), (funext (fun q => ajV17 27 q rfl) : V17 27 = V 27)] : V301 27 = V 27) ((keepS.tr (keepS.tr (keepS.rf : keepS gs 0 gs) kq) (keepS.n1 1))).2.1)) w2128 w2130 w108 w172 w2131 rfl rfl hdV_yX12_product ⟨(by show 10 * dd + 11 + 1 ≤ 10 * dd + 12; omega), (by show 8 + (2 + 11) + (300 * dd + 340) ≤ 300 * dd + 380; omega)⟩ rfl hl.1 rfl (Nat.le_of_ble_eq_true rfl) dX12_sum_50 ⟨Nat.le_of_ble_eq_true rfl, Nat.le_of_ble_eq_true rfl⟩) hP hD hK hS hA (fun u311 H locs w312 hP hD hK hS => ?_)
                  obtain ⟨V322, L323⟩ := u311
                  obtain ⟨hMV322, ajV322, axL323, t313, t314, t315, t316, t317, t318, t319, t320, t321⟩ := w312
                  have alL323 : agL [35, 36, 37, 38, 45, 46, 47] L L323 := agL.tr alL273 axL323 (by decide)
                  have hP : va_P D vwCl (mw ad kk ks.1 V322 L323) H := hP
                  have hD : va_D A (mw ad kk ks.1 V322 L323) := hD
                  have hMV322 : rgd bM V322 := hMV322
                  have ajV322 : agr [(0, 7), (0, 8), (0, 48), (0, 50)] [35, 36, 37, 38, 45, 46, 47] V301 V322 := ajV322
                  have agV322 : agr [(0, 7), (0, 8), (0, 48), (0, 50)] [35, 36, 37, 38, 45, 46, 47] V V322 := agV301.tr ajV322 (by decide) (by decide)
                  have t313 : Imp ((V322 0 8).toInt = 0) ((V322 0 48).toInt - (V301 0 48).toInt ≤ 2 * ((V322 0 7).toInt - (V301 0 7).toInt)) := t313
                  have t314 : (V322 0 48).toInt ≤ 8049 - 6 * (V301 0 50).toInt := t314
                  have t315 : (V322 0 50).toInt = (V301 0 50).toInt := t315
                  have t316 : (V301 0 48).toInt ≤ (V322 0 48).toInt := t316
                  have t317 : RdM (gT) ((nx s1 1)) (fun k => Iprod (gd) :: k) (fun k => k) (V322 0 8).toInt (fun s9 => RelM V322 L323 (bq) (gn) (gT) s9 (gl) ∧ keepS ((nx s1 1)) 1 s9) := t317
                  have t318 : RoV 35 (bq) V301 V322 := t318
                  have t319 : RoV 37 (bq) V301 V322 := t319
                  have t320 : RoL 36 20 (bq) L273 L323 := t320
                  have t321 : RoL 38 20 (bq) L273 L323 := t321
                  have r324 : 0 ≤ ((V322 0 48)).toInt ∧ ((V322 0 48)).toInt ≤ 10000 := hMV322 0 48
                  have r325 : 0 ≤ ((V322 0 8)).toInt ∧ ((V322 0 8)).toInt ≤ 70000 := hMV322 0 8
                  have r326 : 0 ≤ ((V322 0 50)).toInt ∧ ((V322 0 50)).toInt ≤ 9 := hMV322 0 50
                  rcases t317 with ⟨q327, sx328, h329, rl330, kp331⟩ | ⟨q327, h329⟩
                  · skip
                    have hr332 : ∀ k, Rc gT (Crun gs (Isum gd :: k)) (Crun sx328 (IsumR gd :: k)) := fun k => (hr302 k).tr (h329 (IsumR gd :: k))
                    have fz333 := RelM.rg rl330
                    have ps334 := (kp331).1
                    refine lv_aload_n hx hb dX12_sum_53 rfl (lv_at hl 1 rfl) ?_
                    refine lv_iload_n hx hb dX12_sum_54 rfl (lv_at hl 0 rfl) ?_
                    refine lv_iconst (v := 0) hx hb dX12_sum_55 (by decide) ?_
                    refine lv_iconst (v := 0) hx hb dX12_sum_56 (by decide) ?_
                    have r335 : Int32.toInt 6 = 6 := by decide
                    have r336 : Int32.toInt 0 = 0 := by decide
                    refine gA_int (gA_runV (As := [.int 6, .int 0, .int 0]) (rest := []) (ci := 12) (q0 := 0) hx hb hml hown hg hP hD hK hS hA hnw hgk (s_emit3 l D ks H.size ad kk V322 L323 6 0 0 hMV322 (show (V322 0 48).toInt ≤ 9999 from by first | omega | ((try (have i_t313 := Imp.go t313 (by omega))); (try (have i_xlp275_3 := Imp.go xlp275_3 (by omega))); (try (have i_xlp275_2 := Imp.go xlp275_2 (by omega))); (try (have i_t8 := Imp.go t8 (by omega))); (try (have i_t8 := Imp.go t8 (by omega))); (try (have i_xlp275_2 := Imp.go xlp275_2 (by omega))); (try (have i_xlp275_3 := Imp.go xlp275_3 (by omega))); (try (have i_t313 := Imp.go t313 (by omega))); omega))) w2140 w2142 w111 w172 w2143 rfl rfl hdV_yX12_emit ⟨(by show 0 + 1 ≤ 10 * dd + 12; omega), (by show 8 + (4 + 11) + (0) ≤ 300 * dd + 380; omega)⟩ rfl hl.1 rfl (Nat.le_of_ble_eq_true rfl) dX12_sum_57 ⟨Nat.le_of_ble_eq_true rfl, Nat.le_of_ble_eq_true rfl⟩) hP hD hK hS hA (fun z337 u338 H locs w339 hP hD hK hS => ?_)
                    obtain ⟨V343, L344⟩ := u338
                    obtain ⟨hMV343, ajV343, axL344, rgz337, t340, t341, t342⟩ := w339
                    have axL344 : L323 = L344 := Eq.symm axL344
                    subst axL344
                    have hP : va_P D vwCl (mw ad kk ks.1 V343 L323) H := hP
                    have hD : va_D A (mw ad kk ks.1 V343 L323) := hD
                    have hMV343 : rgd bM V343 := hMV343
                    have ajV343 : agr [(0, 48)] [45, 46, 47] V322 V343 := ajV343
                    have agV343 : agr [(0, 7), (0, 8), (0, 48), (0, 50)] [35, 36, 37, 38, 45, 46, 47] V V343 := agV322.tr ajV343 (by decide) (by decide)
                    have rgz337 : 0 ≤ z337.toInt ∧ z337.toInt ≤ 20000 := rgz337
                    have t340 : (V343 0 48).toInt = (V322 0 48).toInt + 1 := t340
                    have t341 : z337.toInt = (V322 0 49).toInt + (V322 0 48).toInt := t341
                    have t342 : emitted V322 V343 (pA V322) 6 0 0 := t342
                    have r345 : 0 ≤ ((V343 0 48)).toInt ∧ ((V343 0 48)).toInt ≤ 10000 := hMV343 0 48
                    have pq346 : (V322 0 49).toInt = ((V 0 49)).toInt := congrArg Int32.toInt ((ajV322 0 49 rfl).trans ((up2_k hV301 (by decide)).trans ((ajV272 0 49 rfl).trans (ajV17 0 49 rfl))))
                    have r347 : 0 ≤ ((V 0 49)).toInt ∧ ((V 0 49)).toInt ≤ 10000 := hMV 0 49
                    refine lv_istore_n (lv' := [(2, .int z337), (1, .int 6), (0, .ref (ad 0))]) hx hb dX12_sum_60 rfl hl (by decide) rfl (fun ls hl => ?_)
                    refine lv_goto (tgt := 4) hx hb dX12_sum_61 (by decide) ?_
                    have pq348 : (V343 0 7).toInt = ((V322 0 7)).toInt := congrArg Int32.toInt (ajV343 0 7 rfl)
                    have pq349 : (V343 0 8).toInt = ((V322 0 8)).toInt := congrArg Int32.toInt (ajV343 0 8 rfl)
                    have pq350 : (V343 0 50).toInt = ((V322 0 50)).toInt := congrArg Int32.toInt (ajV343 0 50 rfl)
                    have rl351 : RelM V343 L323 bq gn gT sx328 gl := RelM.ag rl330 (show agr [(0, 48)] [45, 46, 47] V322 V343 from (agr.tr agr.rf ajV343 (by decide) (by decide))) (by decide) (show agL [] L323 L323 from agL.rf) (by decide)
                    have rw352 : RoV 35 bq V V343 := (fun k hk => ((ajV343 35 k rfl).trans ((t318 k hk).trans ((up2_o hV301 (by decide)).trans (xlp275_7 k hk)))))
                    have rw353 : RoV 37 bq V V343 := (fun k hk => ((ajV343 37 k rfl).trans ((t319 k hk).trans ((up2_o hV301 (by decide)).trans (xlp275_8 k hk)))))
                    have rw354 : RoL 36 20 bq L L323 := (fun k hk => ((t320 k hk).trans (xlp275_9 k hk)))
                    have rw355 : RoL 38 20 bq L L323 := (fun k hk => ((t321 k hk).trans (xlp275_10 k hk)))
                    exact ihlp275 (g274 - 1) V343 L323 H locs ls (Or.inl ⟨W0 rl351, sx328, hr332, rl351, keepS.le (keepS.tr (keepS.tr (keepS.tr (keepS.rf : keepS gs 0 gs) kq) (keepS.n1 1)) kp331) (by decide)⟩) (show 0 ≤ (g274 - 1) from by first | omega | ((try (have i_t313 := Imp.go t313 (by omega))); (try (have i_xlp275_3 := Imp.go xlp275_3 (by omega))); (try (have i_xlp275_2 := Imp.go xlp275_2 (by omega))); (try (have i_t8 := Imp.go t8 (by omega))); (try (have i_t8 := Imp.go t8 (by omega))); (try (have i_xlp275_2 := Imp.go xlp275_2 (by omega))); (try (have i_xlp275_3 := Imp.go xlp275_3 (by omega))); (try (have i_t313 := Imp.go t313 (by omega))); omega)) (Imp.mk (fun hp => have hp : (V343 0 8).toInt = 0 := hp; (show (gn : Int) - (V343 0 7).toInt < (g274 - 1) from by first | omega | ((try (have i_t313 := Imp.go t313 (by omega))); (try (have i_xlp275_3 := Imp.go xlp275_3 (by omega))); (try (have i_xlp275_2 := Imp.go xlp275_2 (by omega))); (try (have i_t8 := Imp.go t8 (by omega))); (try (have i_t8 := Imp.go t8 (by omega))); (try (have i_xlp275_2 := Imp.go xlp275_2 (by omega))); (try (have i_xlp275_3 := Imp.go xlp275_3 (by omega))); (try (have i_t313 := Imp.go t313 (by omega))); omega)))) (Imp.mk (fun hp => have hp : (V343 0 8).toInt = 0 := hp; (show (V343 0 48).toInt - (V 0 48).toInt ≤ 2 * ((V343 0 7).toInt - (V 0 7).toInt) from by first | omega | ((try (have i_t313 := Imp.go t313 (by omega))); (try (have i_xlp275_3 := Imp.go xlp275_3 (by omega))); (try (have i_xlp275_2 := Imp.go xlp275_2 (by omega))); (try (have i_t8 := Imp.go t8 (by omega))); (try (have i_t8 := Imp.go t8 (by omega))); (try (have i_xlp275_2 := Imp.go xlp275_2 (by omega))); (try (have i_xlp275_3 := Imp.go xlp275_3 (by omega))); (try (have i_t313 := Imp.go t313 (by omega))); omega)))) (show (V343 0 48).toInt ≤ 8050 - 6 * (V 0 50).toInt from by first | omega | ((try (have i_t313 := Imp.go t313 (by omega))); (try (have i_xlp275_3 := Imp.go xlp275_3 (by omega))); (try (have i_xlp275_2 := Imp.go xlp275_2 (by omega))); (try (have i_t8 := Imp.go t8 (by omega))); (try (have i_t8 := Imp.go t8 (by omega))); (try (have i_xlp275_2 := Imp.go xlp275_2 (by omega))); (try (have i_xlp275_3 := Imp.go xlp275_3 (by omega))); (try (have i_t313 := Imp.go t313 (by omega))); omega)) (show (V343 0 50).toInt = (V 0 50).toInt from by first | omega | ((try (have i_t313 := Imp.go t313 (by omega))); (try (have i_xlp275_3 := Imp.go xlp275_3 (by omega))); (try (have i_xlp275_2 := Imp.go xlp275_2 (by omega))); (try (have i_t8 := Imp.go t8 (by omega))); (try (have i_t8 := Imp.go t8 (by omega))); (try (have i_xlp275_2 := Imp.go xlp275_2 (by omega))); (try (have i_xlp275_3 := Imp.go xlp275_3 (by omega))); (try (have i_t313 := Imp.go t313 (by omega))); omega)) (show (V 0 48).toInt ≤ (V343 0 48).toInt from by first | omega | ((try (have i_t313 := Imp.go t313 (by omega))); (try (have i_xlp275_3 := Imp.go xlp275_3 (by omega))); (try (have i_xlp275_2 := Imp.go xlp275_2 (by omega))); (try (have i_t8 := Imp.go t8 (by omega))); (try (have i_t8 := Imp.go t8 (by omega))); (try (have i_xlp275_2 := Imp.go xlp275_2 (by omega))); (try (have i_xlp275_3 := Imp.go xlp275_3 (by omega))); (try (have i_t313 := Imp.go t313 (by omega))); omega)) rw352 rw353 rw354 rw355 (by first | omega | ((try (have i_t313 := Imp.go t313 (by omega))); (try (have i_xlp275_3 := Imp.go xlp275_3 (by omega))); (try (have i_xlp275_2 := Imp.go xlp275_2 (by omega))); (try (have i_t8 := Imp.go t8 (by omega))); (try (have i_t8 := Imp.go t8 (by omega))); (try (have i_xlp275_2 := Imp.go xlp275_2 (by omega))); (try (have i_xlp275_3 := Imp.go xlp275_3 (by omega))); (try (have i_t313 := Imp.go t313 (by omega))); omega)) alL323 (agr.tr (agr.tr (agr.up (agr.tr agr.rf ajV272 (by decide) (by decide)) hV301 rfl) ajV322 (by decide) (by decide)) ajV343 (by decide) (by decide)) hMV343 hP hD hS (lv_sub hl [2] rfl)
                  · skip
                    have hb356 : ∀ k, Rc gT (Crun gs (Isum gd :: k)) (Cbad (V322 0 8).toInt) := fun k => (hr302 k).tr (h329 (IsumR gd :: k))
                    refine lv_aload_n hx hb dX12_sum_53 rfl (lv_at hl 1 rfl) ?_
                    refine lv_iload_n hx hb dX12_sum_54 rfl (lv_at hl 0 rfl) ?_
                    refine lv_iconst (v := 0) hx hb dX12_sum_55 (by decide) ?_
                    refine lv_iconst (v := 0) hx hb dX12_sum_56 (by decide) ?_
                    have r357 : Int32.toInt 6 = 6 := by decide
                    have r358 : Int32.toInt 0 = 0 := by decide
                    refine gA_int (gA_runV (As := [.int 6, .int 0, .int 0]) (rest := []) (ci := 12) (q0 := 0) hx hb hml hown hg hP hD hK hS hA hnw hgk (s_emit3 l D ks H.size ad kk V322 L323 6 0 0 hMV322 (show (V322 0 48).toInt ≤ 9999 from by first | omega | ((try (have i_t313 := Imp.go t313 (by omega))); (try (have i_xlp275_3 := Imp.go xlp275_3 (by omega))); (try (have i_xlp275_2 := Imp.go xlp275_2 (by omega))); (try (have i_t8 := Imp.go t8 (by omega))); (try (have i_t8 := Imp.go t8 (by omega))); (try (have i_xlp275_2 := Imp.go xlp275_2 (by omega))); (try (have i_xlp275_3 := Imp.go xlp275_3 (by omega))); (try (have i_t313 := Imp.go t313 (by omega))); omega))) w2140 w2142 w111 w172 w2143 rfl rfl hdV_yX12_emit ⟨(by show 0 + 1 ≤ 10 * dd + 12; omega), (by show 8 + (4 + 11) + (0) ≤ 300 * dd + 380; omega)⟩ rfl hl.1 rfl (Nat.le_of_ble_eq_true rfl) dX12_sum_57 ⟨Nat.le_of_ble_eq_true rfl, Nat.le_of_ble_eq_true rfl⟩) hP hD hK hS hA (fun z359 u360 H locs w361 hP hD hK hS => ?_)
                    obtain ⟨V365, L366⟩ := u360
                    obtain ⟨hMV365, ajV365, axL366, rgz359, t362, t363, t364⟩ := w361
                    have axL366 : L323 = L366 := Eq.symm axL366
                    subst axL366
                    have hP : va_P D vwCl (mw ad kk ks.1 V365 L323) H := hP
                    have hD : va_D A (mw ad kk ks.1 V365 L323) := hD
                    have hMV365 : rgd bM V365 := hMV365
                    have ajV365 : agr [(0, 48)] [45, 46, 47] V322 V365 := ajV365
                    have agV365 : agr [(0, 7), (0, 8), (0, 48), (0, 50)] [35, 36, 37, 38, 45, 46, 47] V V365 := agV322.tr ajV365 (by decide) (by decide)
                    have rgz359 : 0 ≤ z359.toInt ∧ z359.toInt ≤ 20000 := rgz359
                    have t362 : (V365 0 48).toInt = (V322 0 48).toInt + 1 := t362
                    have t363 : z359.toInt = (V322 0 49).toInt + (V322 0 48).toInt := t363
                    have t364 : emitted V322 V365 (pA V322) 6 0 0 := t364
                    have r367 : 0 ≤ ((V365 0 48)).toInt ∧ ((V365 0 48)).toInt ≤ 10000 := hMV365 0 48
                    have pq368 : (V322 0 49).toInt = ((V 0 49)).toInt := congrArg Int32.toInt ((ajV322 0 49 rfl).trans ((up2_k hV301 (by decide)).trans ((ajV272 0 49 rfl).trans (ajV17 0 49 rfl))))
                    have r369 : 0 ≤ ((V 0 49)).toInt ∧ ((V 0 49)).toInt ≤ 10000 := hMV 0 49
                    refine lv_istore_n (lv' := [(2, .int z359), (1, .int 6), (0, .ref (ad 0))]) hx hb dX12_sum_60 rfl hl (by decide) rfl (fun ls hl => ?_)
                    refine lv_goto (tgt := 4) hx hb dX12_sum_61 (by decide) ?_
                    have pq370 : (V365 0 7).toInt = ((V322 0 7)).toInt := congrArg Int32.toInt (ajV365 0 7 rfl)
                    have pq371 : (V365 0 8).toInt = ((V322 0 8)).toInt := congrArg Int32.toInt (ajV365 0 8 rfl)
                    have pq372 : (V365 0 50).toInt = ((V322 0 50)).toInt := congrArg Int32.toInt (ajV365 0 50 rfl)
                    have rw373 : RoV 35 bq V V365 := (fun k hk => ((ajV365 35 k rfl).trans ((t318 k hk).trans ((up2_o hV301 (by decide)).trans (xlp275_7 k hk)))))
                    have rw374 : RoV 37 bq V V365 := (fun k hk => ((ajV365 37 k rfl).trans ((t319 k hk).trans ((up2_o hV301 (by decide)).trans (xlp275_8 k hk)))))
                    have rw375 : RoL 36 20 bq L L323 := (fun k hk => ((t320 k hk).trans (xlp275_9 k hk)))
                    have rw376 : RoL 38 20 bq L L323 := (fun k hk => ((t321 k hk).trans (xlp275_10 k hk)))
                    exact ihlp275 (g274 - 1) V365 L323 H locs ls (Or.inr ⟨(show 1 ≤ (V365 0 8).toInt from by omega), (fun k => by rw [show (V365 0 8).toInt = (V322 0 8).toInt from by omega]; exact hb356 k)⟩) (show 0 ≤ (g274 - 1) from by first | omega | ((try (have i_t313 := Imp.go t313 (by omega))); (try (have i_xlp275_3 := Imp.go xlp275_3 (by omega))); (try (have i_xlp275_2 := Imp.go xlp275_2 (by omega))); (try (have i_t8 := Imp.go t8 (by omega))); (try (have i_t8 := Imp.go t8 (by omega))); (try (have i_xlp275_2 := Imp.go xlp275_2 (by omega))); (try (have i_xlp275_3 := Imp.go xlp275_3 (by omega))); (try (have i_t313 := Imp.go t313 (by omega))); omega)) (Imp.mk (fun hp => have hp : (V365 0 8).toInt = 0 := hp; (show (gn : Int) - (V365 0 7).toInt < (g274 - 1) from by first | omega | ((try (have i_t313 := Imp.go t313 (by omega))); (try (have i_xlp275_3 := Imp.go xlp275_3 (by omega))); (try (have i_xlp275_2 := Imp.go xlp275_2 (by omega))); (try (have i_t8 := Imp.go t8 (by omega))); (try (have i_t8 := Imp.go t8 (by omega))); (try (have i_xlp275_2 := Imp.go xlp275_2 (by omega))); (try (have i_xlp275_3 := Imp.go xlp275_3 (by omega))); (try (have i_t313 := Imp.go t313 (by omega))); omega)))) (Imp.mk (fun hp => have hp : (V365 0 8).toInt = 0 := hp; (show (V365 0 48).toInt - (V 0 48).toInt ≤ 2 * ((V365 0 7).toInt - (V 0 7).toInt) from by first | omega | ((try (have i_t313 := Imp.go t313 (by omega))); (try (have i_xlp275_3 := Imp.go xlp275_3 (by omega))); (try (have i_xlp275_2 := Imp.go xlp275_2 (by omega))); (try (have i_t8 := Imp.go t8 (by omega))); (try (have i_t8 := Imp.go t8 (by omega))); (try (have i_xlp275_2 := Imp.go xlp275_2 (by omega))); (try (have i_xlp275_3 := Imp.go xlp275_3 (by omega))); (try (have i_t313 := Imp.go t313 (by omega))); omega)))) (show (V365 0 48).toInt ≤ 8050 - 6 * (V 0 50).toInt from by first | omega | ((try (have i_t313 := Imp.go t313 (by omega))); (try (have i_xlp275_3 := Imp.go xlp275_3 (by omega))); (try (have i_xlp275_2 := Imp.go xlp275_2 (by omega))); (try (have i_t8 := Imp.go t8 (by omega))); (try (have i_t8 := Imp.go t8 (by omega))); (try (have i_xlp275_2 := Imp.go xlp275_2 (by omega))); (try (have i_xlp275_3 := Imp.go xlp275_3 (by omega))); (try (have i_t313 := Imp.go t313 (by omega))); omega)) (show (V365 0 50).toInt = (V 0 50).toInt from by first | omega | ((try (have i_t313 := Imp.go t313 (by omega))); (try (have i_xlp275_3 := Imp.go xlp275_3 (by omega))); (try (have i_xlp275_2 := Imp.go xlp275_2 (by omega))); (try (have i_t8 := Imp.go t8 (by omega))); (try (have i_t8 := Imp.go t8 (by omega))); (try (have i_xlp275_2 := Imp.go xlp275_2 (by omega))); (try (have i_xlp275_3 := Imp.go xlp275_3 (by omega))); (try (have i_t313 := Imp.go t313 (by omega))); omega)) (show (V 0 48).toInt ≤ (V365 0 48).toInt from by first | omega | ((try (have i_t313 := Imp.go t313 (by omega))); (try (have i_xlp275_3 := Imp.go xlp275_3 (by omega))); (try (have i_xlp275_2 := Imp.go xlp275_2 (by omega))); (try (have i_t8 := Imp.go t8 (by omega))); (try (have i_t8 := Imp.go t8 (by omega))); (try (have i_xlp275_2 := Imp.go xlp275_2 (by omega))); (try (have i_xlp275_3 := Imp.go xlp275_3 (by omega))); (try (have i_t313 := Imp.go t313 (by omega))); omega)) rw373 rw374 rw375 rw376 (by first | omega | ((try (have i_t313 := Imp.go t313 (by omega))); (try (have i_xlp275_3 := Imp.go xlp275_3 (by omega))); (try (have i_xlp275_2 := Imp.go xlp275_2 (by omega))); (try (have i_t8 := Imp.go t8 (by omega))); (try (have i_t8 := Imp.go t8 (by omega))); (try (have i_xlp275_2 := Imp.go xlp275_2 (by omega))); (try (have i_xlp275_3 := Imp.go xlp275_3 (by omega))); (try (have i_t313 := Imp.go t313 (by omega))); omega)) alL323 (agr.tr (agr.tr (agr.up (agr.tr agr.rf ajV272 (by decide) (by decide)) hV301 rfl) ajV322 (by decide) (by decide)) ajV365 (by decide) (by decide)) hMV365 hP hD hS (lv_sub hl [2] rfl)
              · skip
                have kd377 : gT.1 (s1.1 0) ≠ 43 := fun h9 => h295 (h9.trans (by decide))
                exact absurd kd287 kd377
            · skip
              have f378 : z281.toInt = 0 := b_eq rfl (by decide) c288
              exfalso; first | omega | ((try (have i_xlp275_3 := Imp.go xlp275_3 (by omega))); (try (have i_xlp275_2 := Imp.go xlp275_2 (by omega))); (try (have i_t8 := Imp.go t8 (by omega))); (try (have i_t8 := Imp.go t8 (by omega))); (try (have i_xlp275_2 := Imp.go xlp275_2 (by omega))); (try (have i_xlp275_3 := Imp.go xlp275_3 (by omega))); omega)
          · skip
            have kd379 : gT.1 (s1.1 0) ≠ 43 := fun h9 => h286 (h9.trans (by decide))
            refine lv_if_ne (tgt := 22) hx hb dX12_sum_10 (by decide) (fun c380 => ?_) (fun c380 => ?_)
            · skip
              have f381 : z281.toInt ≠ 0 := b_neq rfl (by decide) c380
              exfalso; first | omega | ((try (have i_xlp275_3 := Imp.go xlp275_3 (by omega))); (try (have i_xlp275_2 := Imp.go xlp275_2 (by omega))); (try (have i_t8 := Imp.go t8 (by omega))); (try (have i_t8 := Imp.go t8 (by omega))); (try (have i_xlp275_2 := Imp.go xlp275_2 (by omega))); (try (have i_xlp275_3 := Imp.go xlp275_3 (by omega))); omega)
            · skip
              have f382 : z281.toInt = 0 := b_eq rfl (by decide) c380
              refine lv_aload_n hx hb dX12_sum_13 rfl (lv_at hl 0 rfl) ?_
              refine lv_bipush (v := 45) hx hb dX12_sum_14 (by decide) ?_
              have r383 : Int32.toInt 45 = 45 := by decide
              refine gA_int (gA_runV (As := [.int 45]) (rest := []) (ci := 12) (q0 := 0) hx hb hml hown hg hP hD hK hS hA hnw hgk (s_isSignA l D ks H.size ad kk V272 L273 45 (bq) (gn) (gT) (s1) (gl) hMV272 rq (sg_yes (j := 45) (by decide) (by decide) (by decide))) w2075 w2077 w95 w172 w2078 rfl rfl hdV_yX12_isSign ⟨(by show 0 + 1 ≤ 10 * dd + 12; omega), (by show 8 + (2 + 11) + (0) ≤ 300 * dd + 380; omega)⟩ rfl hl.1 rfl (Nat.le_of_ble_eq_true rfl) dX12_sum_16 ⟨Nat.le_of_ble_eq_true rfl, Nat.le_of_ble_eq_true rfl⟩) hP hD hK hS hA (fun z384 u385 H locs w386 hP hD hK hS => ?_)
              obtain ⟨rgz384, t387⟩ := w386
              have rgz384 : 0 ≤ z384.toInt ∧ z384.toInt ≤ 1 := rgz384
              have t387 : (z384.toInt = 1 ∧ (gT).1 ((s1).1 0) = (Int32.toInt 45)) ∨ (z384.toInt = 0 ∧ (gT).1 ((s1).1 0) ≠ (Int32.toInt 45)) := t387
              rcases t387 with ⟨q388, h389⟩ | ⟨q388, h389⟩
              · skip
                have kd390 : gT.1 (s1.1 0) = 45 := h389.trans (by decide)
                refine lv_if_eq (tgt := 64) hx hb dX12_sum_19 (by decide) (fun c391 => ?_) (fun c391 => ?_)
                · skip
                  have f392 : z384.toInt = 0 := b_eq rfl (by decide) c391
                  exfalso; first | omega | ((try (have i_xlp275_3 := Imp.go xlp275_3 (by omega))); (try (have i_xlp275_2 := Imp.go xlp275_2 (by omega))); (try (have i_t8 := Imp.go t8 (by omega))); (try (have i_t8 := Imp.go t8 (by omega))); (try (have i_xlp275_2 := Imp.go xlp275_2 (by omega))); (try (have i_xlp275_3 := Imp.go xlp275_3 (by omega))); omega)
                · skip
                  have f393 : z384.toInt ≠ 0 := b_neq rfl (by decide) c391
                  refine lv_aload_n hx hb dX12_sum_22 rfl (lv_at hl 0 rfl) ?_
                  refine lv_bipush (v := 43) hx hb dX12_sum_23 (by decide) ?_
                  refine gA_int (gA_runV (As := [.int 43]) (rest := []) (ci := 12) (q0 := 0) hx hb hml hown hg hP hD hK hS hA hnw hgk (s_isSignA l D ks H.size ad kk V272 L273 43 (bq) (gn) (gT) (s1) (gl) hMV272 rq (sg_yes (j := 43) (by decide) (by decide) (by decide))) w2075 w2077 w95 w172 w2078 rfl rfl hdV_yX12_isSign ⟨(by show 0 + 1 ≤ 10 * dd + 12; omega), (by show 8 + (2 + 11) + (0) ≤ 300 * dd + 380; omega)⟩ rfl hl.1 rfl (Nat.le_of_ble_eq_true rfl) dX12_sum_25 ⟨Nat.le_of_ble_eq_true rfl, Nat.le_of_ble_eq_true rfl⟩) hP hD hK hS hA (fun z394 u395 H locs w396 hP hD hK hS => ?_)
                  obtain ⟨rgz394, t397⟩ := w396
                  have rgz394 : 0 ≤ z394.toInt ∧ z394.toInt ≤ 1 := rgz394
                  have t397 : (z394.toInt = 1 ∧ (gT).1 ((s1).1 0) = (Int32.toInt 43)) ∨ (z394.toInt = 0 ∧ (gT).1 ((s1).1 0) ≠ (Int32.toInt 43)) := t397
                  rcases t397 with ⟨q398, h399⟩ | ⟨q398, h399⟩
                  · skip
                    have kd400 : gT.1 (s1.1 0) = 43 := h399.trans (by decide)
                    exact absurd (kd390.symm.trans kd400) (by decide)
                  · skip
                    have kd401 : gT.1 (s1.1 0) ≠ 43 := fun h9 => h399 (h9.trans (by decide))
                    refine lv_if_eq (tgt := 36) hx hb dX12_sum_28 (by decide) (fun c402 => ?_) (fun c402 => ?_)
                    · skip
                      have f403 : z394.toInt = 0 := b_eq rfl (by decide) c402
                      refine lv_bipush (v := 7) hx hb dX12_sum_36 (by decide) ?_
                      refine lv_istore_n (lv' := [(1, .int 7), (0, .ref (ad 0))]) hx hb dX12_sum_38 rfl hl (by decide) rfl (fun ls hl => ?_)
                      refine lv_aload_n hx hb dX12_sum_39 rfl (lv_at hl 1 rfl) ?_
                      refine lv_dup hx hb dX12_sum_40 rfl ?_
                      refine va_get (D := D) (ci := 12) (v := .int (V272 0 7)) (C := RX12) (T := TX12) (N := 100) hx hb hg inX12 hown hK hP 0 rfl rfl 7 (by decide) (hg _ w1717) (fun _ h9 => h9) rfl dX12_sum_41 ?_
                      refine lv_iconst (v := 1) hx hb dX12_sum_44 (by decide) ?_
                      refine lv_iadd hx hb dX12_sum_45 ?_
                      refine lv_topi (fun z404 ez404 => ?_)
                      have hz404 : z404.toInt = ((V272 0 7)).toInt + 1 := i_add ez404 rfl (by decide) (by omega)
                      refine va_put (D := D) (ci := 12) (v := .int z404) (ty := tyX12 7) (C := RX12) (T := TX12) (N := 100) hx hb hg inX12 tyX12 tyX12_ok nmX12 hown hK hP hD hS 0 rfl rfl 7 (by decide) (hg _ w1717) (fun _ h9 => h9) rfl (tyX12_ok 7 (by decide)) rfl rfl (Nat.le_of_ble_eq_true rfl) dX12_sum_46 (fun H locs hP hD hS => ?_)
                      obtain ⟨V405, hV405⟩ : ∃ z, z = up2 V272 0 7 z404 := ⟨_, rfl⟩
                      have hP : va_P D vwCl (mw ad kk ks.1 V405 L273) H := by rw [hV405]; exact hP
                      have hD : va_D A (mw ad kk ks.1 V405 L273) := by rw [hV405]; exact hD
                      have hMV405 : rgd bM V405 := hMV272.put hV405 (i_full _)
                      have agV405 : agr [(0, 7), (0, 8), (0, 48), (0, 50)] [35, 36, 37, 38, 45, 46, 47] V V405 := agV272.up hV405 rfl
                      have hr406 : ∀ k, Rc gT (Crun gs (Isum gd :: k)) (Crun (nx s1 1) (Iprod gd :: IsumR gd :: k)) := fun k => Rc.go1 (hq k) (sumR_y gd (Or.inr kd390))
                      have rl407 : RelM V405 L273 bq gn gT (nx s1 1) gl := RelM.n1 rq hV405 (by omega) (by rw [kd390]; decide)
                      have ps408 : (nx s1 1).1 0 = s1.1 0 + 1 := rfl
                      have fz409 := RelM.rg rl407
                      have pq410 : (V405 0 8).toInt = ((V272 0 8)).toInt := congrArg Int32.toInt (up2_k hV405 (by decide))
                      have pq411 : (V405 0 7).toInt = z404.toInt := congrArg Int32.toInt (up2_s hV405)
                      refine lv_aload_n hx hb dX12_sum_49 rfl (lv_at hl 1 rfl) ?_
                      have pq412 : (V405 0 48).toInt = ((V272 0 48)).toInt := congrArg Int32.toInt (up2_k hV405 (by decide))
                      have pq413 : (V405 0 50).toInt = ((V272 0 50)).toInt := congrArg Int32.toInt (up2_k hV405 (by decide))
                      refine gA_void (gA_runV (As := []) (rest := []) (ci := 12) (q0 := 0) hx hb hml hown hg hP hD hK hS hA hnw hgk (hk_s_productA H.size ad kk V405 L273 (bq) (gn) (gT) ((nx s1 1)) (gl) (gd) hMV405 rl407 (show (V405 0 48).toInt ≤ 2 * (V405 0 7).toInt from by first | omega | ((try (have i_xlp275_3 := Imp.go xlp275_3 (by omega))); (try (have i_xlp275_2 := Imp.go xlp275_2 (by omega))); (try (have i_t8 := Imp.go t8 (by omega))); (try (have i_t8 := Imp.go t8 (by omega))); (try (have i_xlp275_2 := Imp.go xlp275_2 (by omega))); (try (have i_xlp275_3 := Imp.go xlp275_3 (by omega))); omega)) (show (V405 0 50).toInt = ((gd) : Int) from by first | omega | ((try (have i_xlp275_3 := Imp.go xlp275_3 (by omega))); (try (have i_xlp275_2 := Imp.go xlp275_2 (by omega))); (try (have i_t8 := Imp.go t8 (by omega))); (try (have i_t8 := Imp.go t8 (by omega))); (try (have i_xlp275_2 := Imp.go xlp275_2 (by omega))); (try (have i_xlp275_3 := Imp.go xlp275_3 (by omega))); omega)) (show (V405 0 50).toInt + (dd : Int) = 8 from by first | omega | ((try (have i_xlp275_3 := Imp.go xlp275_3 (by omega))); (try (have i_xlp275_2 := Imp.go xlp275_2 (by omega))); (try (have i_t8 := Imp.go t8 (by omega))); (try (have i_t8 := Imp.go t8 (by omega))); (try (have i_xlp275_2 := Imp.go xlp275_2 (by omega))); (try (have i_xlp275_3 := Imp.go xlp275_3 (by omega))); omega)) (EM.mv em ((up2_k hV405 (by decide)).trans ((ajV272 0 51 rfl).trans (ajV17 0 51 rfl))) ((up2_k hV405 (by decide)).trans ((ajV272 0 52 rfl).trans (ajV17 0 52 rfl))) (by rw [(up2_fo hV405 (by decide) : V405 27 = V272 27), (funext (fun q => ajV272 27 q rfl) : V272 27 = V17 27), (funext (fun q => ajV17 27 q rfl) : V17 27 = V 27)] : V405 27 = V 27) ((keepS.tr (keepS.tr (keepS.rf : keepS gs 0 gs) kq) (keepS.n1 1))).2.1)) w2128 w2130 w108 w172 w2131 rfl rfl hdV_yX12_product ⟨(by show 10 * dd + 11 + 1 ≤ 10 * dd + 12; omega), (by show 8 + (2 + 11) + (300 * dd + 340) ≤ 300 * dd + 380; omega)⟩ rfl hl.1 rfl (Nat.le_of_ble_eq_true rfl) dX12_sum_50 ⟨Nat.le_of_ble_eq_true rfl, Nat.le_of_ble_eq_true rfl⟩) hP hD hK hS hA (fun u415 H locs w416 hP hD hK hS => ?_)
                      obtain ⟨V426, L427⟩ := u415
                      obtain ⟨hMV426, ajV426, axL427, t417, t418, t419, t420, t421, t422, t423, t424, t425⟩ := w416
                      have alL427 : agL [35, 36, 37, 38, 45, 46, 47] L L427 := agL.tr alL273 axL427 (by decide)
                      have hP : va_P D vwCl (mw ad kk ks.1 V426 L427) H := hP
                      have hD : va_D A (mw ad kk ks.1 V426 L427) := hD
                      have hMV426 : rgd bM V426 := hMV426
                      have ajV426 : agr [(0, 7), (0, 8), (0, 48), (0, 50)] [35, 36, 37, 38, 45, 46, 47] V405 V426 := ajV426
                      have agV426 : agr [(0, 7), (0, 8), (0, 48), (0, 50)] [35, 36, 37, 38, 45, 46, 47] V V426 := agV405.tr ajV426 (by decide) (by decide)
                      have t417 : Imp ((V426 0 8).toInt = 0) ((V426 0 48).toInt - (V405 0 48).toInt ≤ 2 * ((V426 0 7).toInt - (V405 0 7).toInt)) := t417
                      have t418 : (V426 0 48).toInt ≤ 8049 - 6 * (V405 0 50).toInt := t418
                      have t419 : (V426 0 50).toInt = (V405 0 50).toInt := t419
                      have t420 : (V405 0 48).toInt ≤ (V426 0 48).toInt := t420
                      have t421 : RdM (gT) ((nx s1 1)) (fun k => Iprod (gd) :: k) (fun k => k) (V426 0 8).toInt (fun s9 => RelM V426 L427 (bq) (gn) (gT) s9 (gl) ∧ keepS ((nx s1 1)) 1 s9) := t421
                      have t422 : RoV 35 (bq) V405 V426 := t422
                      have t423 : RoV 37 (bq) V405 V426 := t423
                      have t424 : RoL 36 20 (bq) L273 L427 := t424
                      have t425 : RoL 38 20 (bq) L273 L427 := t425
                      have r428 : 0 ≤ ((V426 0 48)).toInt ∧ ((V426 0 48)).toInt ≤ 10000 := hMV426 0 48
                      have r429 : 0 ≤ ((V426 0 8)).toInt ∧ ((V426 0 8)).toInt ≤ 70000 := hMV426 0 8
                      have r430 : 0 ≤ ((V426 0 50)).toInt ∧ ((V426 0 50)).toInt ≤ 9 := hMV426 0 50
                      rcases t421 with ⟨q431, sx432, h433, rl434, kp435⟩ | ⟨q431, h433⟩
                      · skip
                        have hr436 : ∀ k, Rc gT (Crun gs (Isum gd :: k)) (Crun sx432 (IsumR gd :: k)) := fun k => (hr406 k).tr (h433 (IsumR gd :: k))
                        have fz437 := RelM.rg rl434
                        have ps438 := (kp435).1
                        refine lv_aload_n hx hb dX12_sum_53 rfl (lv_at hl 1 rfl) ?_
                        refine lv_iload_n hx hb dX12_sum_54 rfl (lv_at hl 0 rfl) ?_
                        refine lv_iconst (v := 0) hx hb dX12_sum_55 (by decide) ?_
                        refine lv_iconst (v := 0) hx hb dX12_sum_56 (by decide) ?_
                        have r439 : Int32.toInt 7 = 7 := by decide
                        have r440 : Int32.toInt 0 = 0 := by decide
                        refine gA_int (gA_runV (As := [.int 7, .int 0, .int 0]) (rest := []) (ci := 12) (q0 := 0) hx hb hml hown hg hP hD hK hS hA hnw hgk (s_emit3 l D ks H.size ad kk V426 L427 7 0 0 hMV426 (show (V426 0 48).toInt ≤ 9999 from by first | omega | ((try (have i_t417 := Imp.go t417 (by omega))); (try (have i_xlp275_3 := Imp.go xlp275_3 (by omega))); (try (have i_xlp275_2 := Imp.go xlp275_2 (by omega))); (try (have i_t8 := Imp.go t8 (by omega))); (try (have i_t8 := Imp.go t8 (by omega))); (try (have i_xlp275_2 := Imp.go xlp275_2 (by omega))); (try (have i_xlp275_3 := Imp.go xlp275_3 (by omega))); (try (have i_t417 := Imp.go t417 (by omega))); omega))) w2140 w2142 w111 w172 w2143 rfl rfl hdV_yX12_emit ⟨(by show 0 + 1 ≤ 10 * dd + 12; omega), (by show 8 + (4 + 11) + (0) ≤ 300 * dd + 380; omega)⟩ rfl hl.1 rfl (Nat.le_of_ble_eq_true rfl) dX12_sum_57 ⟨Nat.le_of_ble_eq_true rfl, Nat.le_of_ble_eq_true rfl⟩) hP hD hK hS hA (fun z441 u442 H locs w443 hP hD hK hS => ?_)
                        obtain ⟨V447, L448⟩ := u442
                        obtain ⟨hMV447, ajV447, axL448, rgz441, t444, t445, t446⟩ := w443
                        have axL448 : L427 = L448 := Eq.symm axL448
                        subst axL448
                        have hP : va_P D vwCl (mw ad kk ks.1 V447 L427) H := hP
                        have hD : va_D A (mw ad kk ks.1 V447 L427) := hD
                        have hMV447 : rgd bM V447 := hMV447
                        have ajV447 : agr [(0, 48)] [45, 46, 47] V426 V447 := ajV447
                        have agV447 : agr [(0, 7), (0, 8), (0, 48), (0, 50)] [35, 36, 37, 38, 45, 46, 47] V V447 := agV426.tr ajV447 (by decide) (by decide)
                        have rgz441 : 0 ≤ z441.toInt ∧ z441.toInt ≤ 20000 := rgz441
                        have t444 : (V447 0 48).toInt = (V426 0 48).toInt + 1 := t444
                        have t445 : z441.toInt = (V426 0 49).toInt + (V426 0 48).toInt := t445
                        have t446 : emitted V426 V447 (pA V426) 7 0 0 := t446
                        have r449 : 0 ≤ ((V447 0 48)).toInt ∧ ((V447 0 48)).toInt ≤ 10000 := hMV447 0 48
                        have pq450 : (V426 0 49).toInt = ((V 0 49)).toInt := congrArg Int32.toInt ((ajV426 0 49 rfl).trans ((up2_k hV405 (by decide)).trans ((ajV272 0 49 rfl).trans (ajV17 0 49 rfl))))
                        have r451 : 0 ≤ ((V 0 49)).toInt ∧ ((V 0 49)).toInt ≤ 10000 := hMV 0 49
                        refine lv_istore_n (lv' := [(2, .int z441), (1, .int 7), (0, .ref (ad 0))]) hx hb dX12_sum_60 rfl hl (by decide) rfl (fun ls hl => ?_)
                        refine lv_goto (tgt := 4) hx hb dX12_sum_61 (by decide) ?_
                        have pq452 : (V447 0 7).toInt = ((V426 0 7)).toInt := congrArg Int32.toInt (ajV447 0 7 rfl)
                        have pq453 : (V447 0 8).toInt = ((V426 0 8)).toInt := congrArg Int32.toInt (ajV447 0 8 rfl)
                        have pq454 : (V447 0 50).toInt = ((V426 0 50)).toInt := congrArg Int32.toInt (ajV447 0 50 rfl)
                        have rl455 : RelM V447 L427 bq gn gT sx432 gl := RelM.ag rl434 (show agr [(0, 48)] [45, 46, 47] V426 V447 from (agr.tr agr.rf ajV447 (by decide) (by decide))) (by decide) (show agL [] L427 L427 from agL.rf) (by decide)
                        have rw456 : RoV 35 bq V V447 := (fun k hk => ((ajV447 35 k rfl).trans ((t422 k hk).trans ((up2_o hV405 (by decide)).trans (xlp275_7 k hk)))))
                        have rw457 : RoV 37 bq V V447 := (fun k hk => ((ajV447 37 k rfl).trans ((t423 k hk).trans ((up2_o hV405 (by decide)).trans (xlp275_8 k hk)))))
                        have rw458 : RoL 36 20 bq L L427 := (fun k hk => ((t424 k hk).trans (xlp275_9 k hk)))
                        have rw459 : RoL 38 20 bq L L427 := (fun k hk => ((t425 k hk).trans (xlp275_10 k hk)))
                        exact ihlp275 (g274 - 1) V447 L427 H locs ls (Or.inl ⟨W0 rl455, sx432, hr436, rl455, keepS.le (keepS.tr (keepS.tr (keepS.tr (keepS.rf : keepS gs 0 gs) kq) (keepS.n1 1)) kp435) (by decide)⟩) (show 0 ≤ (g274 - 1) from by first | omega | ((try (have i_t417 := Imp.go t417 (by omega))); (try (have i_xlp275_3 := Imp.go xlp275_3 (by omega))); (try (have i_xlp275_2 := Imp.go xlp275_2 (by omega))); (try (have i_t8 := Imp.go t8 (by omega))); (try (have i_t8 := Imp.go t8 (by omega))); (try (have i_xlp275_2 := Imp.go xlp275_2 (by omega))); (try (have i_xlp275_3 := Imp.go xlp275_3 (by omega))); (try (have i_t417 := Imp.go t417 (by omega))); omega)) (Imp.mk (fun hp => have hp : (V447 0 8).toInt = 0 := hp; (show (gn : Int) - (V447 0 7).toInt < (g274 - 1) from by first | omega | ((try (have i_t417 := Imp.go t417 (by omega))); (try (have i_xlp275_3 := Imp.go xlp275_3 (by omega))); (try (have i_xlp275_2 := Imp.go xlp275_2 (by omega))); (try (have i_t8 := Imp.go t8 (by omega))); (try (have i_t8 := Imp.go t8 (by omega))); (try (have i_xlp275_2 := Imp.go xlp275_2 (by omega))); (try (have i_xlp275_3 := Imp.go xlp275_3 (by omega))); (try (have i_t417 := Imp.go t417 (by omega))); omega)))) (Imp.mk (fun hp => have hp : (V447 0 8).toInt = 0 := hp; (show (V447 0 48).toInt - (V 0 48).toInt ≤ 2 * ((V447 0 7).toInt - (V 0 7).toInt) from by first | omega | ((try (have i_t417 := Imp.go t417 (by omega))); (try (have i_xlp275_3 := Imp.go xlp275_3 (by omega))); (try (have i_xlp275_2 := Imp.go xlp275_2 (by omega))); (try (have i_t8 := Imp.go t8 (by omega))); (try (have i_t8 := Imp.go t8 (by omega))); (try (have i_xlp275_2 := Imp.go xlp275_2 (by omega))); (try (have i_xlp275_3 := Imp.go xlp275_3 (by omega))); (try (have i_t417 := Imp.go t417 (by omega))); omega)))) (show (V447 0 48).toInt ≤ 8050 - 6 * (V 0 50).toInt from by first | omega | ((try (have i_t417 := Imp.go t417 (by omega))); (try (have i_xlp275_3 := Imp.go xlp275_3 (by omega))); (try (have i_xlp275_2 := Imp.go xlp275_2 (by omega))); (try (have i_t8 := Imp.go t8 (by omega))); (try (have i_t8 := Imp.go t8 (by omega))); (try (have i_xlp275_2 := Imp.go xlp275_2 (by omega))); (try (have i_xlp275_3 := Imp.go xlp275_3 (by omega))); (try (have i_t417 := Imp.go t417 (by omega))); omega)) (show (V447 0 50).toInt = (V 0 50).toInt from by first | omega | ((try (have i_t417 := Imp.go t417 (by omega))); (try (have i_xlp275_3 := Imp.go xlp275_3 (by omega))); (try (have i_xlp275_2 := Imp.go xlp275_2 (by omega))); (try (have i_t8 := Imp.go t8 (by omega))); (try (have i_t8 := Imp.go t8 (by omega))); (try (have i_xlp275_2 := Imp.go xlp275_2 (by omega))); (try (have i_xlp275_3 := Imp.go xlp275_3 (by omega))); (try (have i_t417 := Imp.go t417 (by omega))); omega)) (show (V 0 48).toInt ≤ (V447 0 48).toInt from by first | omega | ((try (have i_t417 := Imp.go t417 (by omega))); (try (have i_xlp275_3 := Imp.go xlp275_3 (by omega))); (try (have i_xlp275_2 := Imp.go xlp275_2 (by omega))); (try (have i_t8 := Imp.go t8 (by omega))); (try (have i_t8 := Imp.go t8 (by omega))); (try (have i_xlp275_2 := Imp.go xlp275_2 (by omega))); (try (have i_xlp275_3 := Imp.go xlp275_3 (by omega))); (try (have i_t417 := Imp.go t417 (by omega))); omega)) rw456 rw457 rw458 rw459 (by first | omega | ((try (have i_t417 := Imp.go t417 (by omega))); (try (have i_xlp275_3 := Imp.go xlp275_3 (by omega))); (try (have i_xlp275_2 := Imp.go xlp275_2 (by omega))); (try (have i_t8 := Imp.go t8 (by omega))); (try (have i_t8 := Imp.go t8 (by omega))); (try (have i_xlp275_2 := Imp.go xlp275_2 (by omega))); (try (have i_xlp275_3 := Imp.go xlp275_3 (by omega))); (try (have i_t417 := Imp.go t417 (by omega))); omega)) alL427 (agr.tr (agr.tr (agr.up (agr.tr agr.rf ajV272 (by decide) (by decide)) hV405 rfl) ajV426 (by decide) (by decide)) ajV447 (by decide) (by decide)) hMV447 hP hD hS (lv_sub hl [2] rfl)
                      · skip
                        have hb460 : ∀ k, Rc gT (Crun gs (Isum gd :: k)) (Cbad (V426 0 8).toInt) := fun k => (hr406 k).tr (h433 (IsumR gd :: k))
                        refine lv_aload_n hx hb dX12_sum_53 rfl (lv_at hl 1 rfl) ?_
                        refine lv_iload_n hx hb dX12_sum_54 rfl (lv_at hl 0 rfl) ?_
                        refine lv_iconst (v := 0) hx hb dX12_sum_55 (by decide) ?_
                        refine lv_iconst (v := 0) hx hb dX12_sum_56 (by decide) ?_
                        have r461 : Int32.toInt 7 = 7 := by decide
                        have r462 : Int32.toInt 0 = 0 := by decide
                        refine gA_int (gA_runV (As := [.int 7, .int 0, .int 0]) (rest := []) (ci := 12) (q0 := 0) hx hb hml hown hg hP hD hK hS hA hnw hgk (s_emit3 l D ks H.size ad kk V426 L427 7 0 0 hMV426 (show (V426 0 48).toInt ≤ 9999 from by first | omega | ((try (have i_t417 := Imp.go t417 (by omega))); (try (have i_xlp275_3 := Imp.go xlp275_3 (by omega))); (try (have i_xlp275_2 := Imp.go xlp275_2 (by omega))); (try (have i_t8 := Imp.go t8 (by omega))); (try (have i_t8 := Imp.go t8 (by omega))); (try (have i_xlp275_2 := Imp.go xlp275_2 (by omega))); (try (have i_xlp275_3 := Imp.go xlp275_3 (by omega))); (try (have i_t417 := Imp.go t417 (by omega))); omega))) w2140 w2142 w111 w172 w2143 rfl rfl hdV_yX12_emit ⟨(by show 0 + 1 ≤ 10 * dd + 12; omega), (by show 8 + (4 + 11) + (0) ≤ 300 * dd + 380; omega)⟩ rfl hl.1 rfl (Nat.le_of_ble_eq_true rfl) dX12_sum_57 ⟨Nat.le_of_ble_eq_true rfl, Nat.le_of_ble_eq_true rfl⟩) hP hD hK hS hA (fun z463 u464 H locs w465 hP hD hK hS => ?_)
                        obtain ⟨V469, L470⟩ := u464
                        obtain ⟨hMV469, ajV469, axL470, rgz463, t466, t467, t468⟩ := w465
                        have axL470 : L427 = L470 := Eq.symm axL470
                        subst axL470
                        have hP : va_P D vwCl (mw ad kk ks.1 V469 L427) H := hP
                        have hD : va_D A (mw ad kk ks.1 V469 L427) := hD
                        have hMV469 : rgd bM V469 := hMV469
                        have ajV469 : agr [(0, 48)] [45, 46, 47] V426 V469 := ajV469
                        have agV469 : agr [(0, 7), (0, 8), (0, 48), (0, 50)] [35, 36, 37, 38, 45, 46, 47] V V469 := agV426.tr ajV469 (by decide) (by decide)
                        have rgz463 : 0 ≤ z463.toInt ∧ z463.toInt ≤ 20000 := rgz463
                        have t466 : (V469 0 48).toInt = (V426 0 48).toInt + 1 := t466
                        have t467 : z463.toInt = (V426 0 49).toInt + (V426 0 48).toInt := t467
                        have t468 : emitted V426 V469 (pA V426) 7 0 0 := t468
                        have r471 : 0 ≤ ((V469 0 48)).toInt ∧ ((V469 0 48)).toInt ≤ 10000 := hMV469 0 48
                        have pq472 : (V426 0 49).toInt = ((V 0 49)).toInt := congrArg Int32.toInt ((ajV426 0 49 rfl).trans ((up2_k hV405 (by decide)).trans ((ajV272 0 49 rfl).trans (ajV17 0 49 rfl))))
                        have r473 : 0 ≤ ((V 0 49)).toInt ∧ ((V 0 49)).toInt ≤ 10000 := hMV 0 49
                        refine lv_istore_n (lv' := [(2, .int z463), (1, .int 7), (0, .ref (ad 0))]) hx hb dX12_sum_60 rfl hl (by decide) rfl (fun ls hl => ?_)
                        refine lv_goto (tgt := 4) hx hb dX12_sum_61 (by decide) ?_
                        have pq474 : (V469 0 7).toInt = ((V426 0 7)).toInt := congrArg Int32.toInt (ajV469 0 7 rfl)
                        have pq475 : (V469 0 8).toInt = ((V426 0 8)).toInt := congrArg Int32.toInt (ajV469 0 8 rfl)
                        have pq476 : (V469 0 50).toInt = ((V426 0 50)).toInt := congrArg Int32.toInt (ajV469 0 50 rfl)
                        have rw477 : RoV 35 bq V V469 := (fun k hk => ((ajV469 35 k rfl).trans ((t422 k hk).trans ((up2_o hV405 (by decide)).trans (xlp275_7 k hk)))))
                        have rw478 : RoV 37 bq V V469 := (fun k hk => ((ajV469 37 k rfl).trans ((t423 k hk).trans ((up2_o hV405 (by decide)).trans (xlp275_8 k hk)))))
                        have rw479 : RoL 36 20 bq L L427 := (fun k hk => ((t424 k hk).trans (xlp275_9 k hk)))
                        have rw480 : RoL 38 20 bq L L427 := (fun k hk => ((t425 k hk).trans (xlp275_10 k hk)))
                        exact ihlp275 (g274 - 1) V469 L427 H locs ls (Or.inr ⟨(show 1 ≤ (V469 0 8).toInt from by omega), (fun k => by rw [show (V469 0 8).toInt = (V426 0 8).toInt from by omega]; exact hb460 k)⟩) (show 0 ≤ (g274 - 1) from by first | omega | ((try (have i_t417 := Imp.go t417 (by omega))); (try (have i_xlp275_3 := Imp.go xlp275_3 (by omega))); (try (have i_xlp275_2 := Imp.go xlp275_2 (by omega))); (try (have i_t8 := Imp.go t8 (by omega))); (try (have i_t8 := Imp.go t8 (by omega))); (try (have i_xlp275_2 := Imp.go xlp275_2 (by omega))); (try (have i_xlp275_3 := Imp.go xlp275_3 (by omega))); (try (have i_t417 := Imp.go t417 (by omega))); omega)) (Imp.mk (fun hp => have hp : (V469 0 8).toInt = 0 := hp; (show (gn : Int) - (V469 0 7).toInt < (g274 - 1) from by first | omega | ((try (have i_t417 := Imp.go t417 (by omega))); (try (have i_xlp275_3 := Imp.go xlp275_3 (by omega))); (try (have i_xlp275_2 := Imp.go xlp275_2 (by omega))); (try (have i_t8 := Imp.go t8 (by omega))); (try (have i_t8 := Imp.go t8 (by omega))); (try (have i_xlp275_2 := Imp.go xlp275_2 (by omega))); (try (have i_xlp275_3 := Imp.go xlp275_3 (by omega))); (try (have i_t417 := Imp.go t417 (by omega))); omega)))) (Imp.mk (fun hp => have hp : (V469 0 8).toInt = 0 := hp; (show (V469 0 48).toInt - (V 0 48).toInt ≤ 2 * ((V469 0 7).toInt - (V 0 7).toInt) from by first | omega | ((try (have i_t417 := Imp.go t417 (by omega))); (try (have i_xlp275_3 := Imp.go xlp275_3 (by omega))); (try (have i_xlp275_2 := Imp.go xlp275_2 (by omega))); (try (have i_t8 := Imp.go t8 (by omega))); (try (have i_t8 := Imp.go t8 (by omega))); (try (have i_xlp275_2 := Imp.go xlp275_2 (by omega))); (try (have i_xlp275_3 := Imp.go xlp275_3 (by omega))); (try (have i_t417 := Imp.go t417 (by omega))); omega)))) (show (V469 0 48).toInt ≤ 8050 - 6 * (V 0 50).toInt from by first | omega | ((try (have i_t417 := Imp.go t417 (by omega))); (try (have i_xlp275_3 := Imp.go xlp275_3 (by omega))); (try (have i_xlp275_2 := Imp.go xlp275_2 (by omega))); (try (have i_t8 := Imp.go t8 (by omega))); (try (have i_t8 := Imp.go t8 (by omega))); (try (have i_xlp275_2 := Imp.go xlp275_2 (by omega))); (try (have i_xlp275_3 := Imp.go xlp275_3 (by omega))); (try (have i_t417 := Imp.go t417 (by omega))); omega)) (show (V469 0 50).toInt = (V 0 50).toInt from by first | omega | ((try (have i_t417 := Imp.go t417 (by omega))); (try (have i_xlp275_3 := Imp.go xlp275_3 (by omega))); (try (have i_xlp275_2 := Imp.go xlp275_2 (by omega))); (try (have i_t8 := Imp.go t8 (by omega))); (try (have i_t8 := Imp.go t8 (by omega))); (try (have i_xlp275_2 := Imp.go xlp275_2 (by omega))); (try (have i_xlp275_3 := Imp.go xlp275_3 (by omega))); (try (have i_t417 := Imp.go t417 (by omega))); omega)) (show (V 0 48).toInt ≤ (V469 0 48).toInt from by first | omega | ((try (have i_t417 := Imp.go t417 (by omega))); (try (have i_xlp275_3 := Imp.go xlp275_3 (by omega))); (try (have i_xlp275_2 := Imp.go xlp275_2 (by omega))); (try (have i_t8 := Imp.go t8 (by omega))); (try (have i_t8 := Imp.go t8 (by omega))); (try (have i_xlp275_2 := Imp.go xlp275_2 (by omega))); (try (have i_xlp275_3 := Imp.go xlp275_3 (by omega))); (try (have i_t417 := Imp.go t417 (by omega))); omega)) rw477 rw478 rw479 rw480 (by first | omega | ((try (have i_t417 := Imp.go t417 (by omega))); (try (have i_xlp275_3 := Imp.go xlp275_3 (by omega))); (try (have i_xlp275_2 := Imp.go xlp275_2 (by omega))); (try (have i_t8 := Imp.go t8 (by omega))); (try (have i_t8 := Imp.go t8 (by omega))); (try (have i_xlp275_2 := Imp.go xlp275_2 (by omega))); (try (have i_xlp275_3 := Imp.go xlp275_3 (by omega))); (try (have i_t417 := Imp.go t417 (by omega))); omega)) alL427 (agr.tr (agr.tr (agr.up (agr.tr agr.rf ajV272 (by decide) (by decide)) hV405 rfl) ajV426 (by decide) (by decide)) ajV469 (by decide) (by decide)) hMV469 hP hD hS (lv_sub hl [2] rfl)
                    · skip
                      have f481 : z394.toInt ≠ 0 := b_neq rfl (by decide) c402
                      exfalso; first | omega | ((try (have i_xlp275_3 := Imp.go xlp275_3 (by omega))); (try (have i_xlp275_2 := Imp.go xlp275_2 (by omega))); (try (have i_t8 := Imp.go t8 (by omega))); (try (have i_t8 := Imp.go t8 (by omega))); (try (have i_xlp275_2 := Imp.go xlp275_2 (by omega))); (try (have i_xlp275_3 := Imp.go xlp275_3 (by omega))); omega)
              · skip
                have kd482 : gT.1 (s1.1 0) ≠ 45 := fun h9 => h389 (h9.trans (by decide))
                refine lv_if_eq (tgt := 64) hx hb dX12_sum_19 (by decide) (fun c483 => ?_) (fun c483 => ?_)
                · skip
                  have f484 : z384.toInt = 0 := b_eq rfl (by decide) c483
                  have hr485 : ∀ k, Rc gT (Crun gs (Isum gd :: k)) (Crun s1 (k)) := fun k => Rc.go1 (hq k) (sumR_n gd kd379 kd482)
                  have rw486 : RoV 35 bq V V272 := (fun k hk => (xlp275_7 k hk))
                  have rw487 : RoV 37 bq V V272 := (fun k hk => (xlp275_8 k hk))
                  have rw488 : RoL 36 20 bq L L273 := (fun k hk => (xlp275_9 k hk))
                  have rw489 : RoL 38 20 bq L L273 := (fun k hk => (xlp275_10 k hk))
                  exact W.vret hx hb hr (fun t ht hW => ⟨⟨(V272, L273), rfl, ⟨hMV272, agV272, alL273, (Imp.mk (fun hp => have hp : (V272 0 8).toInt = 0 := hp; (show (V272 0 48).toInt - (V 0 48).toInt ≤ 2 * ((V272 0 7).toInt - (V 0 7).toInt) from by first | omega | ((try (have i_xlp275_3 := Imp.go xlp275_3 (by omega))); (try (have i_xlp275_2 := Imp.go xlp275_2 (by omega))); (try (have i_t8 := Imp.go t8 (by omega))); (try (have i_t8 := Imp.go t8 (by omega))); (try (have i_xlp275_2 := Imp.go xlp275_2 (by omega))); (try (have i_xlp275_3 := Imp.go xlp275_3 (by omega))); omega)))), (show (V272 0 48).toInt ≤ 8050 - 6 * (V 0 50).toInt from by first | omega | ((try (have i_xlp275_3 := Imp.go xlp275_3 (by omega))); (try (have i_xlp275_2 := Imp.go xlp275_2 (by omega))); (try (have i_t8 := Imp.go t8 (by omega))); (try (have i_t8 := Imp.go t8 (by omega))); (try (have i_xlp275_2 := Imp.go xlp275_2 (by omega))); (try (have i_xlp275_3 := Imp.go xlp275_3 (by omega))); omega)), (show (V272 0 50).toInt = (V 0 50).toInt from by first | omega | ((try (have i_xlp275_3 := Imp.go xlp275_3 (by omega))); (try (have i_xlp275_2 := Imp.go xlp275_2 (by omega))); (try (have i_t8 := Imp.go t8 (by omega))); (try (have i_t8 := Imp.go t8 (by omega))); (try (have i_xlp275_2 := Imp.go xlp275_2 (by omega))); (try (have i_xlp275_3 := Imp.go xlp275_3 (by omega))); omega)), (show (V 0 48).toInt ≤ (V272 0 48).toInt from by first | omega | ((try (have i_xlp275_3 := Imp.go xlp275_3 (by omega))); (try (have i_xlp275_2 := Imp.go xlp275_2 (by omega))); (try (have i_t8 := Imp.go t8 (by omega))); (try (have i_t8 := Imp.go t8 (by omega))); (try (have i_xlp275_2 := Imp.go xlp275_2 (by omega))); (try (have i_xlp275_3 := Imp.go xlp275_3 (by omega))); omega)), (Or.inl ⟨W0 rq, s1, hr485, rq, keepS.le (keepS.tr (keepS.rf : keepS gs 0 gs) kq) (by decide)⟩), rw486, rw487, rw488, rw489⟩, by rw [ht]; exact hP, va_K.moved hW.alike hK, hD⟩, hS.F ht⟩) hS.2.2 dX12_sum_64
                · skip
                  have f490 : z384.toInt ≠ 0 := b_neq rfl (by decide) c483
                  exfalso; first | omega | ((try (have i_xlp275_3 := Imp.go xlp275_3 (by omega))); (try (have i_xlp275_2 := Imp.go xlp275_2 (by omega))); (try (have i_t8 := Imp.go t8 (by omega))); (try (have i_t8 := Imp.go t8 (by omega))); (try (have i_xlp275_2 := Imp.go xlp275_2 (by omega))); (try (have i_xlp275_3 := Imp.go xlp275_3 (by omega))); omega)
        · skip
          refine lv_bipush (v := 43) hx hb dX12_sum_5 (by decide) ?_
          have r491 : Int32.toInt 43 = 43 := by decide
          refine gA_int (gA_runV (As := [.int 43]) (rest := []) (ci := 12) (q0 := 0) hx hb hml hown hg hP hD hK hS hA hnw hgk (s_isSignB l D ks H.size ad kk V272 L273 43 hMV272 (show 1 ≤ (V272 0 8).toInt from by first | omega | ((try (have i_xlp275_3 := Imp.go xlp275_3 (by omega))); (try (have i_xlp275_2 := Imp.go xlp275_2 (by omega))); (try (have i_t8 := Imp.go t8 (by omega))); (try (have i_t8 := Imp.go t8 (by omega))); (try (have i_xlp275_2 := Imp.go xlp275_2 (by omega))); (try (have i_xlp275_3 := Imp.go xlp275_3 (by omega))); omega))) w2075 w2077 w95 w172 w2078 rfl rfl hdV_yX12_isSign ⟨(by show 0 + 1 ≤ 10 * dd + 12; omega), (by show 8 + (2 + 11) + (0) ≤ 300 * dd + 380; omega)⟩ rfl hl.1 rfl (Nat.le_of_ble_eq_true rfl) dX12_sum_7 ⟨Nat.le_of_ble_eq_true rfl, Nat.le_of_ble_eq_true rfl⟩) hP hD hK hS hA (fun z492 u493 H locs w494 hP hD hK hS => ?_)
          have rgz492 := w494
          have rgz492 : 0 ≤ z492.toInt ∧ z492.toInt ≤ 0 := rgz492
          refine lv_if_ne (tgt := 22) hx hb dX12_sum_10 (by decide) (fun c495 => ?_) (fun c495 => ?_)
          · skip
            have f496 : z492.toInt ≠ 0 := b_neq rfl (by decide) c495
            exfalso; first | omega | ((try (have i_xlp275_3 := Imp.go xlp275_3 (by omega))); (try (have i_xlp275_2 := Imp.go xlp275_2 (by omega))); (try (have i_t8 := Imp.go t8 (by omega))); (try (have i_t8 := Imp.go t8 (by omega))); (try (have i_xlp275_2 := Imp.go xlp275_2 (by omega))); (try (have i_xlp275_3 := Imp.go xlp275_3 (by omega))); omega)
          · skip
            have f497 : z492.toInt = 0 := b_eq rfl (by decide) c495
            refine lv_aload_n hx hb dX12_sum_13 rfl (lv_at hl 0 rfl) ?_
            refine lv_bipush (v := 45) hx hb dX12_sum_14 (by decide) ?_
            have r498 : Int32.toInt 45 = 45 := by decide
            refine gA_int (gA_runV (As := [.int 45]) (rest := []) (ci := 12) (q0 := 0) hx hb hml hown hg hP hD hK hS hA hnw hgk (s_isSignB l D ks H.size ad kk V272 L273 45 hMV272 (show 1 ≤ (V272 0 8).toInt from by first | omega | ((try (have i_xlp275_3 := Imp.go xlp275_3 (by omega))); (try (have i_xlp275_2 := Imp.go xlp275_2 (by omega))); (try (have i_t8 := Imp.go t8 (by omega))); (try (have i_t8 := Imp.go t8 (by omega))); (try (have i_xlp275_2 := Imp.go xlp275_2 (by omega))); (try (have i_xlp275_3 := Imp.go xlp275_3 (by omega))); omega))) w2075 w2077 w95 w172 w2078 rfl rfl hdV_yX12_isSign ⟨(by show 0 + 1 ≤ 10 * dd + 12; omega), (by show 8 + (2 + 11) + (0) ≤ 300 * dd + 380; omega)⟩ rfl hl.1 rfl (Nat.le_of_ble_eq_true rfl) dX12_sum_16 ⟨Nat.le_of_ble_eq_true rfl, Nat.le_of_ble_eq_true rfl⟩) hP hD hK hS hA (fun z499 u500 H locs w501 hP hD hK hS => ?_)
            have rgz499 := w501
            have rgz499 : 0 ≤ z499.toInt ∧ z499.toInt ≤ 0 := rgz499
            refine lv_if_eq (tgt := 64) hx hb dX12_sum_19 (by decide) (fun c502 => ?_) (fun c502 => ?_)
            · skip
              have f503 : z499.toInt = 0 := b_eq rfl (by decide) c502
              have rw504 : RoV 35 bq V V272 := (fun k hk => (xlp275_7 k hk))
              have rw505 : RoV 37 bq V V272 := (fun k hk => (xlp275_8 k hk))
              have rw506 : RoL 36 20 bq L L273 := (fun k hk => (xlp275_9 k hk))
              have rw507 : RoL 38 20 bq L L273 := (fun k hk => (xlp275_10 k hk))
              exact W.vret hx hb hr (fun t ht hW => ⟨⟨(V272, L273), rfl, ⟨hMV272, agV272, alL273, (Imp.mk (fun hp => have hp : (V272 0 8).toInt = 0 := hp; (show (V272 0 48).toInt - (V 0 48).toInt ≤ 2 * ((V272 0 7).toInt - (V 0 7).toInt) from by first | omega | ((try (have i_xlp275_3 := Imp.go xlp275_3 (by omega))); (try (have i_xlp275_2 := Imp.go xlp275_2 (by omega))); (try (have i_t8 := Imp.go t8 (by omega))); (try (have i_t8 := Imp.go t8 (by omega))); (try (have i_xlp275_2 := Imp.go xlp275_2 (by omega))); (try (have i_xlp275_3 := Imp.go xlp275_3 (by omega))); omega)))), (show (V272 0 48).toInt ≤ 8050 - 6 * (V 0 50).toInt from by first | omega | ((try (have i_xlp275_3 := Imp.go xlp275_3 (by omega))); (try (have i_xlp275_2 := Imp.go xlp275_2 (by omega))); (try (have i_t8 := Imp.go t8 (by omega))); (try (have i_t8 := Imp.go t8 (by omega))); (try (have i_xlp275_2 := Imp.go xlp275_2 (by omega))); (try (have i_xlp275_3 := Imp.go xlp275_3 (by omega))); omega)), (show (V272 0 50).toInt = (V 0 50).toInt from by first | omega | ((try (have i_xlp275_3 := Imp.go xlp275_3 (by omega))); (try (have i_xlp275_2 := Imp.go xlp275_2 (by omega))); (try (have i_t8 := Imp.go t8 (by omega))); (try (have i_t8 := Imp.go t8 (by omega))); (try (have i_xlp275_2 := Imp.go xlp275_2 (by omega))); (try (have i_xlp275_3 := Imp.go xlp275_3 (by omega))); omega)), (show (V 0 48).toInt ≤ (V272 0 48).toInt from by first | omega | ((try (have i_xlp275_3 := Imp.go xlp275_3 (by omega))); (try (have i_xlp275_2 := Imp.go xlp275_2 (by omega))); (try (have i_t8 := Imp.go t8 (by omega))); (try (have i_t8 := Imp.go t8 (by omega))); (try (have i_xlp275_2 := Imp.go xlp275_2 (by omega))); (try (have i_xlp275_3 := Imp.go xlp275_3 (by omega))); omega)), (Or.inr ⟨(show 1 ≤ (V272 0 8).toInt from by omega), hq⟩), rw504, rw505, rw506, rw507⟩, by rw [ht]; exact hP, va_K.moved hW.alike hK, hD⟩, hS.F ht⟩) hS.2.2 dX12_sum_64
            · skip
              have f508 : z499.toInt ≠ 0 := b_neq rfl (by decide) c502
              exfalso; first | omega | ((try (have i_xlp275_3 := Imp.go xlp275_3 (by omega))); (try (have i_xlp275_2 := Imp.go xlp275_2 (by omega))); (try (have i_t8 := Imp.go t8 (by omega))); (try (have i_t8 := Imp.go t8 (by omega))); (try (have i_xlp275_2 := Imp.go xlp275_2 (by omega))); (try (have i_xlp275_3 := Imp.go xlp275_3 (by omega))); omega)
    have rw509 : RoV 35 bq V V17 := (fun k hk => ((t13 k hk).trans rfl))
    have rw510 : RoV 37 bq V V17 := (fun k hk => ((t14 k hk).trans rfl))
    have rw511 : RoL 36 20 bq L L18 := (fun k hk => ((t15 k hk).trans rfl))
    have rw512 : RoL 38 20 bq L L18 := (fun k hk => ((t16 k hk).trans rfl))
    exact lp275 ((((gn : Int) + 1) + 1 : Int).toNat) ((gn : Int) + 1) V17 L18 H locs ls (Or.inr ⟨(show 1 ≤ (V17 0 8).toInt from by omega), hb271⟩) (show 0 ≤ ((gn : Int) + 1) from by first | omega | ((try (have i_t8 := Imp.go t8 (by omega))); omega)) (Imp.mk (fun hp => have hp : (V17 0 8).toInt = 0 := hp; (show (gn : Int) - (V17 0 7).toInt < ((gn : Int) + 1) from by first | omega | ((try (have i_t8 := Imp.go t8 (by omega))); omega)))) (Imp.mk (fun hp => have hp : (V17 0 8).toInt = 0 := hp; (show (V17 0 48).toInt - (V 0 48).toInt ≤ 2 * ((V17 0 7).toInt - (V 0 7).toInt) from by first | omega | ((try (have i_t8 := Imp.go t8 (by omega))); omega)))) (show (V17 0 48).toInt ≤ 8050 - 6 * (V 0 50).toInt from by first | omega | ((try (have i_t8 := Imp.go t8 (by omega))); omega)) (show (V17 0 50).toInt = (V 0 50).toInt from by first | omega | ((try (have i_t8 := Imp.go t8 (by omega))); omega)) (show (V 0 48).toInt ≤ (V17 0 48).toInt from by first | omega | ((try (have i_t8 := Imp.go t8 (by omega))); omega)) rw509 rw510 rw511 rw512 (by first | omega | ((try (have i_t8 := Imp.go t8 (by omega))); omega)) alL18 agr.rf hMV17 hP hD hS (lv_sub hl [0] rfl)
set_option maxHeartbeats 4000000 in
set_option maxRecDepth 100000 in
theorem s_productA {l : Launch} {D : va_G} {ks : KS} {dd : Nat} (hk_s_partA : K_s_partA l D ks dd) : K_s_productA l D ks dd := by
  intro sz ad kk V L  bq gn gT gs gl gd hMV rel c1 yd c4 em
  refine g_met (q_s_productA D ks ad kk V L  bq gn gT gs gl gd) (by decide) (Nat.le_of_ble_eq_true rfl) ?_
  intro p e s m below meth c A ls H locs hx hb hr hml hown hg hlocks hin hnw hgk hP hK hD hS hA hl
  have hown : s.vm.findClass RX12 = some m.cls := hown
  have hl : lv_has ls 2 [(0, .ref (ad 0))] := hl
  have hP : va_P D vwCl (mw ad kk ks.1 V L) H := hP
  have hD : va_D A (mw ad kk ks.1 V L) := hD
  have hK : va_K D vwCl (mty kk) s := hK
  have agV : agr [(0, 7), (0, 8), (0, 48), (0, 50)] [35, 36, 37, 38, 45, 46, 47] V V := agr.rf
  have alL : agL [35, 36, 37, 38, 45, 46, 47] L L := agL.rf
  have r1 : 0 ≤ ((V 0 48)).toInt ∧ ((V 0 48)).toInt ≤ 10000 := hMV 0 48
  have r2 : 0 ≤ ((V 0 50)).toInt ∧ ((V 0 50)).toInt ≤ 9 := hMV 0 50
  have rg0 := RelM.rg rel
  have cl0 := RelM.cl rel
  have cq0 := RelM.cq rel
  refine lv_aload_n hx hb dX12_product_0 rfl (lv_at hl 0 rfl) ?_
  have hr3 : ∀ k, Rc gT (Crun gs (Iprod gd :: k)) (Crun gs (Iprod gd :: k)) := fun k => Rc.rf
  have hr4 : ∀ k, Rc gT (Crun gs (Iprod gd :: k)) (Crun gs (Ipart gd :: IprodR gd :: k)) := fun k => Rc.go1 (hr3 k) (m_prod gd)
  refine gA_void (gA_runV (As := []) (rest := []) (ci := 12) (q0 := 0) hx hb hml hown hg hP hD hK hS hA hnw hgk (hk_s_partA H.size ad kk V L (bq) (gn) (gT) (gs) (gl) (gd) hMV rel (show (V 0 48).toInt ≤ 2 * (V 0 7).toInt from by omega) (show (V 0 50).toInt = ((gd) : Int) from by omega) (show (V 0 50).toInt + (dd : Int) = 8 from by omega) em) w2132 w2134 w109 w172 w2135 rfl rfl hdV_yX12_part ⟨(by show 10 * dd + 10 + 1 ≤ 10 * dd + 11; omega), (by show 8 + (2 + 11) + (300 * dd + 300) ≤ 300 * dd + 340; omega)⟩ rfl hl.1 rfl (Nat.le_of_ble_eq_true rfl) dX12_product_1 ⟨Nat.le_of_ble_eq_true rfl, Nat.le_of_ble_eq_true rfl⟩) hP hD hK hS hA (fun u6 H locs w7 hP hD hK hS => ?_)
  obtain ⟨V17, L18⟩ := u6
  obtain ⟨hMV17, ajV17, axL18, t8, t9, t10, t11, t12, t13, t14, t15, t16⟩ := w7
  have alL18 : agL [35, 36, 37, 38, 45, 46, 47] L L18 := agL.tr alL axL18 (by decide)
  have hP : va_P D vwCl (mw ad kk ks.1 V17 L18) H := hP
  have hD : va_D A (mw ad kk ks.1 V17 L18) := hD
  have hMV17 : rgd bM V17 := hMV17
  have ajV17 : agr [(0, 7), (0, 8), (0, 48), (0, 50)] [35, 36, 37, 38, 45, 46, 47] V V17 := ajV17
  have agV17 : agr [(0, 7), (0, 8), (0, 48), (0, 50)] [35, 36, 37, 38, 45, 46, 47] V V17 := agV.tr ajV17 (by decide) (by decide)
  have t8 : Imp ((V17 0 8).toInt = 0) ((V17 0 48).toInt - (V 0 48).toInt ≤ 2 * ((V17 0 7).toInt - (V 0 7).toInt)) := t8
  have t9 : (V17 0 48).toInt ≤ 8048 - 6 * (V 0 50).toInt := t9
  have t10 : (V17 0 50).toInt = (V 0 50).toInt := t10
  have t11 : (V 0 48).toInt ≤ (V17 0 48).toInt := t11
  have t12 : RdM (gT) (gs) (fun k => Ipart (gd) :: k) (fun k => k) (V17 0 8).toInt (fun s9 => RelM V17 L18 (bq) (gn) (gT) s9 (gl) ∧ keepS (gs) 1 s9) := t12
  have t13 : RoV 35 (bq) V V17 := t13
  have t14 : RoV 37 (bq) V V17 := t14
  have t15 : RoL 36 20 (bq) L L18 := t15
  have t16 : RoL 38 20 (bq) L L18 := t16
  have r19 : 0 ≤ ((V17 0 48)).toInt ∧ ((V17 0 48)).toInt ≤ 10000 := hMV17 0 48
  have r20 : 0 ≤ ((V17 0 8)).toInt ∧ ((V17 0 8)).toInt ≤ 70000 := hMV17 0 8
  have r21 : 0 ≤ ((V17 0 50)).toInt ∧ ((V17 0 50)).toInt ≤ 9 := hMV17 0 50
  rcases t12 with ⟨q22, sx23, h24, rl25, kp26⟩ | ⟨q22, h24⟩
  · skip
    have hr27 : ∀ k, Rc gT (Crun gs (Iprod gd :: k)) (Crun sx23 (IprodR gd :: k)) := fun k => (hr4 k).tr (h24 (IprodR gd :: k))
    have fz28 := RelM.rg rl25
    have ps29 := (kp26).1
    have lp33 : ∀ (fulp33 : Nat) (g32 : Int) (V30 : Vf) (L31 : Lf) (H : Heap) (locs : List Loc) (ls : Array Slot), (((V30 0 8).toInt = 0 ∧ ∃ s1 : St, (∀ k, Rc gT (Crun gs (Iprod gd :: k)) (Crun s1 (IprodR gd :: k))) ∧ RelM V30 L31 bq gn gT s1 gl ∧ keepS gs 1 s1) ∨ (1 ≤ (V30 0 8).toInt ∧ ∀ k, Rc gT (Crun gs (Iprod gd :: k)) (Cbad (V30 0 8).toInt))) → 0 ≤ g32 → Imp ((V30 0 8).toInt = 0) ((gn : Int) - (V30 0 7).toInt < g32) → Imp ((V30 0 8).toInt = 0) ((V30 0 48).toInt - (V 0 48).toInt ≤ 2 * ((V30 0 7).toInt - (V 0 7).toInt)) → (V30 0 48).toInt ≤ 8049 - 6 * (V 0 50).toInt → (V30 0 50).toInt = (V 0 50).toInt → (V 0 48).toInt ≤ (V30 0 48).toInt → (RoV 35 bq V V30) → (RoV 37 bq V V30) → (RoL 36 20 bq L L31) → (RoL 38 20 bq L L31) → g32 < (fulp33 : Int) → agL [35, 36, 37, 38, 45, 46, 47] L L31 → agr [(0, 7), (0, 8), (0, 48), (0, 50)] [35, 36, 37, 38, 45, 46, 47] V17 V30 → rgd bM V30 → va_P D vwCl (mw ad kk ks.1 V30 L31) H → va_D A (mw ad kk ks.1 V30 L31) → va_S A s.heap H locs → lv_has ls 2 [(0, .ref (ad 0))] → W p l e (rK 11 340 dd) s m ([.ref (ad 0)] : List Value).toArray below meth c H locs 0 0 (MQ below (q_s_productA D ks ad kk V L  bq gn gT gs gl gd A) ([.ref (ad 0)] : List Value).toArray s 0 0 A) (F0 m 4 ls []) := by
      intro fulp33
      induction fulp33 with
      | zero =>
        intro g32 V30 L31 H locs ls xlp33_0 xlp33_1 xlp33_2 xlp33_3 xlp33_4 xlp33_5 xlp33_6 xlp33_7 xlp33_8 xlp33_9 xlp33_10 hn alL31 ajV30 hMV30 hP hD hS hl
        exfalso; omega
      | succ fulp33 ihlp33 =>
        intro g32 V30 L31 H locs ls xlp33_0 xlp33_1 xlp33_2 xlp33_3 xlp33_4 xlp33_5 xlp33_6 xlp33_7 xlp33_8 xlp33_9 xlp33_10 hn alL31 ajV30 hMV30 hP hD hS hl
        have agV30 : agr [(0, 7), (0, 8), (0, 48), (0, 50)] [35, 36, 37, 38, 45, 46, 47] V V30 := agV17.tr ajV30 (by decide) (by decide)
        have r34 : 0 ≤ ((V30 0 8)).toInt ∧ ((V30 0 8)).toInt ≤ 70000 := hMV30 0 8
        have r35 : 0 ≤ ((V30 0 48)).toInt ∧ ((V30 0 48)).toInt ≤ 10000 := hMV30 0 48
        have r36 : 0 ≤ ((V30 0 50)).toInt ∧ ((V30 0 50)).toInt ≤ 9 := hMV30 0 50
        refine lv_aload_n hx hb dX12_product_4 rfl (lv_at hl 0 rfl) ?_
        rcases xlp33_0 with ⟨f8, s1, hq, rq, kq⟩ | ⟨f8, hq⟩
        · skip
          have fz37 := RelM.rg rq
          refine lv_bipush (v := 42) hx hb dX12_product_5 (by decide) ?_
          have r38 : Int32.toInt 42 = 42 := by decide
          refine gA_int (gA_runV (As := [.int 42]) (rest := []) (ci := 12) (q0 := 0) hx hb hml hown hg hP hD hK hS hA hnw hgk (s_hasSignA l D ks H.size ad kk V30 L31 42 (bq) (gn) (gT) (s1) (gl) hMV30 rq (sg_yes (j := 42) (by decide) (by decide) (by decide))) w2071 w2073 w94 w172 w2074 rfl rfl hdV_yX12_hasSign ⟨(by show 1 + 1 ≤ 10 * dd + 11; omega), (by show 8 + (3 + 11) + (21) ≤ 300 * dd + 340; omega)⟩ rfl hl.1 rfl (Nat.le_of_ble_eq_true rfl) dX12_product_7 ⟨Nat.le_of_ble_eq_true rfl, Nat.le_of_ble_eq_true rfl⟩) hP hD hK hS hA (fun z39 u40 H locs w41 hP hD hK hS => ?_)
          obtain ⟨V43, L44⟩ := u40
          obtain ⟨hMV43, ajV43, axL44, rgz39, t42⟩ := w41
          have axL44 : L31 = L44 := Eq.symm axL44
          subst axL44
          have hP : va_P D vwCl (mw ad kk ks.1 V43 L31) H := hP
          have hD : va_D A (mw ad kk ks.1 V43 L31) := hD
          have hMV43 : rgd bM V43 := hMV43
          have ajV43 : agr [(0, 7)] [] V30 V43 := ajV43
          have agV43 : agr [(0, 7), (0, 8), (0, 48), (0, 50)] [35, 36, 37, 38, 45, 46, 47] V V43 := agV30.tr ajV43 (by decide) (by decide)
          have rgz39 : 0 ≤ z39.toInt ∧ z39.toInt ≤ 1 := rgz39
          have t42 : (z39.toInt = 1 ∧ (gT).1 ((s1).1 0) = (Int32.toInt 42) ∧ RelM V43 L31 (bq) (gn) (gT) (nx (s1) 1) (gl)) ∨ (z39.toInt = 0 ∧ (gT).1 ((s1).1 0) ≠ (Int32.toInt 42) ∧ RelM V43 L31 (bq) (gn) (gT) (s1) (gl)) := t42
          rcases t42 with ⟨q45, h46, rl47⟩ | ⟨q45, h46, rl47⟩
          · skip
            have kd48 : gT.1 (s1.1 0) = 42 := h46.trans (by decide)
            have hr49 : ∀ k, Rc gT (Crun gs (Iprod gd :: k)) (Crun (nx s1 1) (Ipart gd :: IprodR gd :: k)) := fun k => Rc.go1 (hq k) (prodR_y gd kd48)
            have ps50 : (nx s1 1).1 0 = s1.1 0 + 1 := rfl
            have fz51 := RelM.rg rl47
            have pq52 : (V43 0 8).toInt = ((V30 0 8)).toInt := congrArg Int32.toInt (ajV43 0 8 rfl)
            refine lv_if_eq (tgt := 28) hx hb dX12_product_10 (by decide) (fun c53 => ?_) (fun c53 => ?_)
            · skip
              have f54 : z39.toInt = 0 := b_eq rfl (by decide) c53
              exfalso; first | omega | ((try (have i_xlp33_3 := Imp.go xlp33_3 (by omega))); (try (have i_xlp33_2 := Imp.go xlp33_2 (by omega))); (try (have i_t8 := Imp.go t8 (by omega))); (try (have i_t8 := Imp.go t8 (by omega))); (try (have i_xlp33_2 := Imp.go xlp33_2 (by omega))); (try (have i_xlp33_3 := Imp.go xlp33_3 (by omega))); omega)
            · skip
              have f55 : z39.toInt ≠ 0 := b_neq rfl (by decide) c53
              refine lv_aload_n hx hb dX12_product_13 rfl (lv_at hl 0 rfl) ?_
              have pq56 : (V43 0 48).toInt = ((V30 0 48)).toInt := congrArg Int32.toInt (ajV43 0 48 rfl)
              have pq57 : (V43 0 50).toInt = ((V30 0 50)).toInt := congrArg Int32.toInt (ajV43 0 50 rfl)
              refine gA_void (gA_runV (As := []) (rest := []) (ci := 12) (q0 := 0) hx hb hml hown hg hP hD hK hS hA hnw hgk (hk_s_partA H.size ad kk V43 L31 (bq) (gn) (gT) ((nx s1 1)) (gl) (gd) hMV43 rl47 (show (V43 0 48).toInt ≤ 2 * (V43 0 7).toInt from by first | omega | ((try (have i_xlp33_3 := Imp.go xlp33_3 (by omega))); (try (have i_xlp33_2 := Imp.go xlp33_2 (by omega))); (try (have i_t8 := Imp.go t8 (by omega))); (try (have i_t8 := Imp.go t8 (by omega))); (try (have i_xlp33_2 := Imp.go xlp33_2 (by omega))); (try (have i_xlp33_3 := Imp.go xlp33_3 (by omega))); omega)) (show (V43 0 50).toInt = ((gd) : Int) from by first | omega | ((try (have i_xlp33_3 := Imp.go xlp33_3 (by omega))); (try (have i_xlp33_2 := Imp.go xlp33_2 (by omega))); (try (have i_t8 := Imp.go t8 (by omega))); (try (have i_t8 := Imp.go t8 (by omega))); (try (have i_xlp33_2 := Imp.go xlp33_2 (by omega))); (try (have i_xlp33_3 := Imp.go xlp33_3 (by omega))); omega)) (show (V43 0 50).toInt + (dd : Int) = 8 from by first | omega | ((try (have i_xlp33_3 := Imp.go xlp33_3 (by omega))); (try (have i_xlp33_2 := Imp.go xlp33_2 (by omega))); (try (have i_t8 := Imp.go t8 (by omega))); (try (have i_t8 := Imp.go t8 (by omega))); (try (have i_xlp33_2 := Imp.go xlp33_2 (by omega))); (try (have i_xlp33_3 := Imp.go xlp33_3 (by omega))); omega)) (EM.mv em ((ajV43 0 51 rfl).trans ((ajV30 0 51 rfl).trans (ajV17 0 51 rfl))) ((ajV43 0 52 rfl).trans ((ajV30 0 52 rfl).trans (ajV17 0 52 rfl))) (by rw [(funext (fun q => ajV43 27 q rfl) : V43 27 = V30 27), (funext (fun q => ajV30 27 q rfl) : V30 27 = V17 27), (funext (fun q => ajV17 27 q rfl) : V17 27 = V 27)] : V43 27 = V 27) ((keepS.tr (keepS.tr (keepS.rf : keepS gs 0 gs) kq) (keepS.n1 1))).2.1)) w2132 w2134 w109 w172 w2135 rfl rfl hdV_yX12_part ⟨(by show 10 * dd + 10 + 1 ≤ 10 * dd + 11; omega), (by show 8 + (2 + 11) + (300 * dd + 300) ≤ 300 * dd + 340; omega)⟩ rfl hl.1 rfl (Nat.le_of_ble_eq_true rfl) dX12_product_14 ⟨Nat.le_of_ble_eq_true rfl, Nat.le_of_ble_eq_true rfl⟩) hP hD hK hS hA (fun u59 H locs w60 hP hD hK hS => ?_)
              obtain ⟨V70, L71⟩ := u59
              obtain ⟨hMV70, ajV70, axL71, t61, t62, t63, t64, t65, t66, t67, t68, t69⟩ := w60
              have alL71 : agL [35, 36, 37, 38, 45, 46, 47] L L71 := agL.tr alL31 axL71 (by decide)
              have hP : va_P D vwCl (mw ad kk ks.1 V70 L71) H := hP
              have hD : va_D A (mw ad kk ks.1 V70 L71) := hD
              have hMV70 : rgd bM V70 := hMV70
              have ajV70 : agr [(0, 7), (0, 8), (0, 48), (0, 50)] [35, 36, 37, 38, 45, 46, 47] V43 V70 := ajV70
              have agV70 : agr [(0, 7), (0, 8), (0, 48), (0, 50)] [35, 36, 37, 38, 45, 46, 47] V V70 := agV43.tr ajV70 (by decide) (by decide)
              have t61 : Imp ((V70 0 8).toInt = 0) ((V70 0 48).toInt - (V43 0 48).toInt ≤ 2 * ((V70 0 7).toInt - (V43 0 7).toInt)) := t61
              have t62 : (V70 0 48).toInt ≤ 8048 - 6 * (V43 0 50).toInt := t62
              have t63 : (V70 0 50).toInt = (V43 0 50).toInt := t63
              have t64 : (V43 0 48).toInt ≤ (V70 0 48).toInt := t64
              have t65 : RdM (gT) ((nx s1 1)) (fun k => Ipart (gd) :: k) (fun k => k) (V70 0 8).toInt (fun s9 => RelM V70 L71 (bq) (gn) (gT) s9 (gl) ∧ keepS ((nx s1 1)) 1 s9) := t65
              have t66 : RoV 35 (bq) V43 V70 := t66
              have t67 : RoV 37 (bq) V43 V70 := t67
              have t68 : RoL 36 20 (bq) L31 L71 := t68
              have t69 : RoL 38 20 (bq) L31 L71 := t69
              have r72 : 0 ≤ ((V70 0 48)).toInt ∧ ((V70 0 48)).toInt ≤ 10000 := hMV70 0 48
              have r73 : 0 ≤ ((V70 0 8)).toInt ∧ ((V70 0 8)).toInt ≤ 70000 := hMV70 0 8
              have r74 : 0 ≤ ((V70 0 50)).toInt ∧ ((V70 0 50)).toInt ≤ 9 := hMV70 0 50
              rcases t65 with ⟨q75, sx76, h77, rl78, kp79⟩ | ⟨q75, h77⟩
              · skip
                have hr80 : ∀ k, Rc gT (Crun gs (Iprod gd :: k)) (Crun sx76 (IprodR gd :: k)) := fun k => (hr49 k).tr (h77 (IprodR gd :: k))
                have fz81 := RelM.rg rl78
                have ps82 := (kp79).1
                refine lv_aload_n hx hb dX12_product_17 rfl (lv_at hl 0 rfl) ?_
                refine lv_iconst (v := 5) hx hb dX12_product_18 (by decide) ?_
                refine lv_iconst (v := 0) hx hb dX12_product_19 (by decide) ?_
                refine lv_iconst (v := 0) hx hb dX12_product_20 (by decide) ?_
                have r83 : Int32.toInt 5 = 5 := by decide
                have r84 : Int32.toInt 0 = 0 := by decide
                refine gA_int (gA_runV (As := [.int 5, .int 0, .int 0]) (rest := []) (ci := 12) (q0 := 0) hx hb hml hown hg hP hD hK hS hA hnw hgk (s_emit3 l D ks H.size ad kk V70 L71 5 0 0 hMV70 (show (V70 0 48).toInt ≤ 9999 from by first | omega | ((try (have i_t61 := Imp.go t61 (by omega))); (try (have i_xlp33_3 := Imp.go xlp33_3 (by omega))); (try (have i_xlp33_2 := Imp.go xlp33_2 (by omega))); (try (have i_t8 := Imp.go t8 (by omega))); (try (have i_t8 := Imp.go t8 (by omega))); (try (have i_xlp33_2 := Imp.go xlp33_2 (by omega))); (try (have i_xlp33_3 := Imp.go xlp33_3 (by omega))); (try (have i_t61 := Imp.go t61 (by omega))); omega))) w2140 w2142 w111 w172 w2143 rfl rfl hdV_yX12_emit ⟨(by show 0 + 1 ≤ 10 * dd + 11; omega), (by show 8 + (4 + 11) + (0) ≤ 300 * dd + 340; omega)⟩ rfl hl.1 rfl (Nat.le_of_ble_eq_true rfl) dX12_product_21 ⟨Nat.le_of_ble_eq_true rfl, Nat.le_of_ble_eq_true rfl⟩) hP hD hK hS hA (fun z85 u86 H locs w87 hP hD hK hS => ?_)
                obtain ⟨V91, L92⟩ := u86
                obtain ⟨hMV91, ajV91, axL92, rgz85, t88, t89, t90⟩ := w87
                have axL92 : L71 = L92 := Eq.symm axL92
                subst axL92
                have hP : va_P D vwCl (mw ad kk ks.1 V91 L71) H := hP
                have hD : va_D A (mw ad kk ks.1 V91 L71) := hD
                have hMV91 : rgd bM V91 := hMV91
                have ajV91 : agr [(0, 48)] [45, 46, 47] V70 V91 := ajV91
                have agV91 : agr [(0, 7), (0, 8), (0, 48), (0, 50)] [35, 36, 37, 38, 45, 46, 47] V V91 := agV70.tr ajV91 (by decide) (by decide)
                have rgz85 : 0 ≤ z85.toInt ∧ z85.toInt ≤ 20000 := rgz85
                have t88 : (V91 0 48).toInt = (V70 0 48).toInt + 1 := t88
                have t89 : z85.toInt = (V70 0 49).toInt + (V70 0 48).toInt := t89
                have t90 : emitted V70 V91 (pA V70) 5 0 0 := t90
                have r93 : 0 ≤ ((V91 0 48)).toInt ∧ ((V91 0 48)).toInt ≤ 10000 := hMV91 0 48
                have pq94 : (V70 0 49).toInt = ((V 0 49)).toInt := congrArg Int32.toInt ((ajV70 0 49 rfl).trans ((ajV43 0 49 rfl).trans ((ajV30 0 49 rfl).trans (ajV17 0 49 rfl))))
                have r95 : 0 ≤ ((V 0 49)).toInt ∧ ((V 0 49)).toInt ≤ 10000 := hMV 0 49
                refine lv_istore_n (lv' := [(1, .int z85), (0, .ref (ad 0))]) hx hb dX12_product_24 rfl hl (by decide) rfl (fun ls hl => ?_)
                refine lv_goto (tgt := 4) hx hb dX12_product_25 (by decide) ?_
                have pq96 : (V91 0 7).toInt = ((V70 0 7)).toInt := congrArg Int32.toInt (ajV91 0 7 rfl)
                have pq97 : (V91 0 8).toInt = ((V70 0 8)).toInt := congrArg Int32.toInt (ajV91 0 8 rfl)
                have pq98 : (V91 0 50).toInt = ((V70 0 50)).toInt := congrArg Int32.toInt (ajV91 0 50 rfl)
                have rl99 : RelM V91 L71 bq gn gT sx76 gl := RelM.ag rl78 (show agr [(0, 48)] [45, 46, 47] V70 V91 from (agr.tr agr.rf ajV91 (by decide) (by decide))) (by decide) (show agL [] L71 L71 from agL.rf) (by decide)
                have rw100 : RoV 35 bq V V91 := (fun k hk => ((ajV91 35 k rfl).trans ((t66 k hk).trans ((ajV43 35 k rfl).trans (xlp33_7 k hk)))))
                have rw101 : RoV 37 bq V V91 := (fun k hk => ((ajV91 37 k rfl).trans ((t67 k hk).trans ((ajV43 37 k rfl).trans (xlp33_8 k hk)))))
                have rw102 : RoL 36 20 bq L L71 := (fun k hk => ((t68 k hk).trans (xlp33_9 k hk)))
                have rw103 : RoL 38 20 bq L L71 := (fun k hk => ((t69 k hk).trans (xlp33_10 k hk)))
                exact ihlp33 (g32 - 1) V91 L71 H locs ls (Or.inl ⟨W0 rl99, sx76, hr80, rl99, keepS.le (keepS.tr (keepS.tr (keepS.tr (keepS.rf : keepS gs 0 gs) kq) (keepS.n1 1)) kp79) (by decide)⟩) (show 0 ≤ (g32 - 1) from by first | omega | ((try (have i_t61 := Imp.go t61 (by omega))); (try (have i_xlp33_3 := Imp.go xlp33_3 (by omega))); (try (have i_xlp33_2 := Imp.go xlp33_2 (by omega))); (try (have i_t8 := Imp.go t8 (by omega))); (try (have i_t8 := Imp.go t8 (by omega))); (try (have i_xlp33_2 := Imp.go xlp33_2 (by omega))); (try (have i_xlp33_3 := Imp.go xlp33_3 (by omega))); (try (have i_t61 := Imp.go t61 (by omega))); omega)) (Imp.mk (fun hp => have hp : (V91 0 8).toInt = 0 := hp; (show (gn : Int) - (V91 0 7).toInt < (g32 - 1) from by first | omega | ((try (have i_t61 := Imp.go t61 (by omega))); (try (have i_xlp33_3 := Imp.go xlp33_3 (by omega))); (try (have i_xlp33_2 := Imp.go xlp33_2 (by omega))); (try (have i_t8 := Imp.go t8 (by omega))); (try (have i_t8 := Imp.go t8 (by omega))); (try (have i_xlp33_2 := Imp.go xlp33_2 (by omega))); (try (have i_xlp33_3 := Imp.go xlp33_3 (by omega))); (try (have i_t61 := Imp.go t61 (by omega))); omega)))) (Imp.mk (fun hp => have hp : (V91 0 8).toInt = 0 := hp; (show (V91 0 48).toInt - (V 0 48).toInt ≤ 2 * ((V91 0 7).toInt - (V 0 7).toInt) from by first | omega | ((try (have i_t61 := Imp.go t61 (by omega))); (try (have i_xlp33_3 := Imp.go xlp33_3 (by omega))); (try (have i_xlp33_2 := Imp.go xlp33_2 (by omega))); (try (have i_t8 := Imp.go t8 (by omega))); (try (have i_t8 := Imp.go t8 (by omega))); (try (have i_xlp33_2 := Imp.go xlp33_2 (by omega))); (try (have i_xlp33_3 := Imp.go xlp33_3 (by omega))); (try (have i_t61 := Imp.go t61 (by omega))); omega)))) (show (V91 0 48).toInt ≤ 8049 - 6 * (V 0 50).toInt from by first | omega | ((try (have i_t61 := Imp.go t61 (by omega))); (try (have i_xlp33_3 := Imp.go xlp33_3 (by omega))); (try (have i_xlp33_2 := Imp.go xlp33_2 (by omega))); (try (have i_t8 := Imp.go t8 (by omega))); (try (have i_t8 := Imp.go t8 (by omega))); (try (have i_xlp33_2 := Imp.go xlp33_2 (by omega))); (try (have i_xlp33_3 := Imp.go xlp33_3 (by omega))); (try (have i_t61 := Imp.go t61 (by omega))); omega)) (show (V91 0 50).toInt = (V 0 50).toInt from by first | omega | ((try (have i_t61 := Imp.go t61 (by omega))); (try (have i_xlp33_3 := Imp.go xlp33_3 (by omega))); (try (have i_xlp33_2 := Imp.go xlp33_2 (by omega))); (try (have i_t8 := Imp.go t8 (by omega))); (try (have i_t8 := Imp.go t8 (by omega))); (try (have i_xlp33_2 := Imp.go xlp33_2 (by omega))); (try (have i_xlp33_3 := Imp.go xlp33_3 (by omega))); (try (have i_t61 := Imp.go t61 (by omega))); omega)) (show (V 0 48).toInt ≤ (V91 0 48).toInt from by first | omega | ((try (have i_t61 := Imp.go t61 (by omega))); (try (have i_xlp33_3 := Imp.go xlp33_3 (by omega))); (try (have i_xlp33_2 := Imp.go xlp33_2 (by omega))); (try (have i_t8 := Imp.go t8 (by omega))); (try (have i_t8 := Imp.go t8 (by omega))); (try (have i_xlp33_2 := Imp.go xlp33_2 (by omega))); (try (have i_xlp33_3 := Imp.go xlp33_3 (by omega))); (try (have i_t61 := Imp.go t61 (by omega))); omega)) rw100 rw101 rw102 rw103 (by first | omega | ((try (have i_t61 := Imp.go t61 (by omega))); (try (have i_xlp33_3 := Imp.go xlp33_3 (by omega))); (try (have i_xlp33_2 := Imp.go xlp33_2 (by omega))); (try (have i_t8 := Imp.go t8 (by omega))); (try (have i_t8 := Imp.go t8 (by omega))); (try (have i_xlp33_2 := Imp.go xlp33_2 (by omega))); (try (have i_xlp33_3 := Imp.go xlp33_3 (by omega))); (try (have i_t61 := Imp.go t61 (by omega))); omega)) alL71 (agr.tr (agr.tr (agr.tr (agr.tr agr.rf ajV30 (by decide) (by decide)) ajV43 (by decide) (by decide)) ajV70 (by decide) (by decide)) ajV91 (by decide) (by decide)) hMV91 hP hD hS (lv_sub hl [1] rfl)
              · skip
                have hb104 : ∀ k, Rc gT (Crun gs (Iprod gd :: k)) (Cbad (V70 0 8).toInt) := fun k => (hr49 k).tr (h77 (IprodR gd :: k))
                refine lv_aload_n hx hb dX12_product_17 rfl (lv_at hl 0 rfl) ?_
                refine lv_iconst (v := 5) hx hb dX12_product_18 (by decide) ?_
                refine lv_iconst (v := 0) hx hb dX12_product_19 (by decide) ?_
                refine lv_iconst (v := 0) hx hb dX12_product_20 (by decide) ?_
                have r105 : Int32.toInt 5 = 5 := by decide
                have r106 : Int32.toInt 0 = 0 := by decide
                refine gA_int (gA_runV (As := [.int 5, .int 0, .int 0]) (rest := []) (ci := 12) (q0 := 0) hx hb hml hown hg hP hD hK hS hA hnw hgk (s_emit3 l D ks H.size ad kk V70 L71 5 0 0 hMV70 (show (V70 0 48).toInt ≤ 9999 from by first | omega | ((try (have i_t61 := Imp.go t61 (by omega))); (try (have i_xlp33_3 := Imp.go xlp33_3 (by omega))); (try (have i_xlp33_2 := Imp.go xlp33_2 (by omega))); (try (have i_t8 := Imp.go t8 (by omega))); (try (have i_t8 := Imp.go t8 (by omega))); (try (have i_xlp33_2 := Imp.go xlp33_2 (by omega))); (try (have i_xlp33_3 := Imp.go xlp33_3 (by omega))); (try (have i_t61 := Imp.go t61 (by omega))); omega))) w2140 w2142 w111 w172 w2143 rfl rfl hdV_yX12_emit ⟨(by show 0 + 1 ≤ 10 * dd + 11; omega), (by show 8 + (4 + 11) + (0) ≤ 300 * dd + 340; omega)⟩ rfl hl.1 rfl (Nat.le_of_ble_eq_true rfl) dX12_product_21 ⟨Nat.le_of_ble_eq_true rfl, Nat.le_of_ble_eq_true rfl⟩) hP hD hK hS hA (fun z107 u108 H locs w109 hP hD hK hS => ?_)
                obtain ⟨V113, L114⟩ := u108
                obtain ⟨hMV113, ajV113, axL114, rgz107, t110, t111, t112⟩ := w109
                have axL114 : L71 = L114 := Eq.symm axL114
                subst axL114
                have hP : va_P D vwCl (mw ad kk ks.1 V113 L71) H := hP
                have hD : va_D A (mw ad kk ks.1 V113 L71) := hD
                have hMV113 : rgd bM V113 := hMV113
                have ajV113 : agr [(0, 48)] [45, 46, 47] V70 V113 := ajV113
                have agV113 : agr [(0, 7), (0, 8), (0, 48), (0, 50)] [35, 36, 37, 38, 45, 46, 47] V V113 := agV70.tr ajV113 (by decide) (by decide)
                have rgz107 : 0 ≤ z107.toInt ∧ z107.toInt ≤ 20000 := rgz107
                have t110 : (V113 0 48).toInt = (V70 0 48).toInt + 1 := t110
                have t111 : z107.toInt = (V70 0 49).toInt + (V70 0 48).toInt := t111
                have t112 : emitted V70 V113 (pA V70) 5 0 0 := t112
                have r115 : 0 ≤ ((V113 0 48)).toInt ∧ ((V113 0 48)).toInt ≤ 10000 := hMV113 0 48
                have pq116 : (V70 0 49).toInt = ((V 0 49)).toInt := congrArg Int32.toInt ((ajV70 0 49 rfl).trans ((ajV43 0 49 rfl).trans ((ajV30 0 49 rfl).trans (ajV17 0 49 rfl))))
                have r117 : 0 ≤ ((V 0 49)).toInt ∧ ((V 0 49)).toInt ≤ 10000 := hMV 0 49
                refine lv_istore_n (lv' := [(1, .int z107), (0, .ref (ad 0))]) hx hb dX12_product_24 rfl hl (by decide) rfl (fun ls hl => ?_)
                refine lv_goto (tgt := 4) hx hb dX12_product_25 (by decide) ?_
                have pq118 : (V113 0 7).toInt = ((V70 0 7)).toInt := congrArg Int32.toInt (ajV113 0 7 rfl)
                have pq119 : (V113 0 8).toInt = ((V70 0 8)).toInt := congrArg Int32.toInt (ajV113 0 8 rfl)
                have pq120 : (V113 0 50).toInt = ((V70 0 50)).toInt := congrArg Int32.toInt (ajV113 0 50 rfl)
                have rw121 : RoV 35 bq V V113 := (fun k hk => ((ajV113 35 k rfl).trans ((t66 k hk).trans ((ajV43 35 k rfl).trans (xlp33_7 k hk)))))
                have rw122 : RoV 37 bq V V113 := (fun k hk => ((ajV113 37 k rfl).trans ((t67 k hk).trans ((ajV43 37 k rfl).trans (xlp33_8 k hk)))))
                have rw123 : RoL 36 20 bq L L71 := (fun k hk => ((t68 k hk).trans (xlp33_9 k hk)))
                have rw124 : RoL 38 20 bq L L71 := (fun k hk => ((t69 k hk).trans (xlp33_10 k hk)))
                exact ihlp33 (g32 - 1) V113 L71 H locs ls (Or.inr ⟨(show 1 ≤ (V113 0 8).toInt from by omega), (fun k => by rw [show (V113 0 8).toInt = (V70 0 8).toInt from by omega]; exact hb104 k)⟩) (show 0 ≤ (g32 - 1) from by first | omega | ((try (have i_t61 := Imp.go t61 (by omega))); (try (have i_xlp33_3 := Imp.go xlp33_3 (by omega))); (try (have i_xlp33_2 := Imp.go xlp33_2 (by omega))); (try (have i_t8 := Imp.go t8 (by omega))); (try (have i_t8 := Imp.go t8 (by omega))); (try (have i_xlp33_2 := Imp.go xlp33_2 (by omega))); (try (have i_xlp33_3 := Imp.go xlp33_3 (by omega))); (try (have i_t61 := Imp.go t61 (by omega))); omega)) (Imp.mk (fun hp => have hp : (V113 0 8).toInt = 0 := hp; (show (gn : Int) - (V113 0 7).toInt < (g32 - 1) from by first | omega | ((try (have i_t61 := Imp.go t61 (by omega))); (try (have i_xlp33_3 := Imp.go xlp33_3 (by omega))); (try (have i_xlp33_2 := Imp.go xlp33_2 (by omega))); (try (have i_t8 := Imp.go t8 (by omega))); (try (have i_t8 := Imp.go t8 (by omega))); (try (have i_xlp33_2 := Imp.go xlp33_2 (by omega))); (try (have i_xlp33_3 := Imp.go xlp33_3 (by omega))); (try (have i_t61 := Imp.go t61 (by omega))); omega)))) (Imp.mk (fun hp => have hp : (V113 0 8).toInt = 0 := hp; (show (V113 0 48).toInt - (V 0 48).toInt ≤ 2 * ((V113 0 7).toInt - (V 0 7).toInt) from by first | omega | ((try (have i_t61 := Imp.go t61 (by omega))); (try (have i_xlp33_3 := Imp.go xlp33_3 (by omega))); (try (have i_xlp33_2 := Imp.go xlp33_2 (by omega))); (try (have i_t8 := Imp.go t8 (by omega))); (try (have i_t8 := Imp.go t8 (by omega))); (try (have i_xlp33_2 := Imp.go xlp33_2 (by omega))); (try (have i_xlp33_3 := Imp.go xlp33_3 (by omega))); (try (have i_t61 := Imp.go t61 (by omega))); omega)))) (show (V113 0 48).toInt ≤ 8049 - 6 * (V 0 50).toInt from by first | omega | ((try (have i_t61 := Imp.go t61 (by omega))); (try (have i_xlp33_3 := Imp.go xlp33_3 (by omega))); (try (have i_xlp33_2 := Imp.go xlp33_2 (by omega))); (try (have i_t8 := Imp.go t8 (by omega))); (try (have i_t8 := Imp.go t8 (by omega))); (try (have i_xlp33_2 := Imp.go xlp33_2 (by omega))); (try (have i_xlp33_3 := Imp.go xlp33_3 (by omega))); (try (have i_t61 := Imp.go t61 (by omega))); omega)) (show (V113 0 50).toInt = (V 0 50).toInt from by first | omega | ((try (have i_t61 := Imp.go t61 (by omega))); (try (have i_xlp33_3 := Imp.go xlp33_3 (by omega))); (try (have i_xlp33_2 := Imp.go xlp33_2 (by omega))); (try (have i_t8 := Imp.go t8 (by omega))); (try (have i_t8 := Imp.go t8 (by omega))); (try (have i_xlp33_2 := Imp.go xlp33_2 (by omega))); (try (have i_xlp33_3 := Imp.go xlp33_3 (by omega))); (try (have i_t61 := Imp.go t61 (by omega))); omega)) (show (V 0 48).toInt ≤ (V113 0 48).toInt from by first | omega | ((try (have i_t61 := Imp.go t61 (by omega))); (try (have i_xlp33_3 := Imp.go xlp33_3 (by omega))); (try (have i_xlp33_2 := Imp.go xlp33_2 (by omega))); (try (have i_t8 := Imp.go t8 (by omega))); (try (have i_t8 := Imp.go t8 (by omega))); (try (have i_xlp33_2 := Imp.go xlp33_2 (by omega))); (try (have i_xlp33_3 := Imp.go xlp33_3 (by omega))); (try (have i_t61 := Imp.go t61 (by omega))); omega)) rw121 rw122 rw123 rw124 (by first | omega | ((try (have i_t61 := Imp.go t61 (by omega))); (try (have i_xlp33_3 := Imp.go xlp33_3 (by omega))); (try (have i_xlp33_2 := Imp.go xlp33_2 (by omega))); (try (have i_t8 := Imp.go t8 (by omega))); (try (have i_t8 := Imp.go t8 (by omega))); (try (have i_xlp33_2 := Imp.go xlp33_2 (by omega))); (try (have i_xlp33_3 := Imp.go xlp33_3 (by omega))); (try (have i_t61 := Imp.go t61 (by omega))); omega)) alL71 (agr.tr (agr.tr (agr.tr (agr.tr agr.rf ajV30 (by decide) (by decide)) ajV43 (by decide) (by decide)) ajV70 (by decide) (by decide)) ajV113 (by decide) (by decide)) hMV113 hP hD hS (lv_sub hl [1] rfl)
          · skip
            have kd125 : gT.1 (s1.1 0) ≠ 42 := fun h9 => h46 (h9.trans (by decide))
            have fz126 := RelM.rg rl47
            have pq127 : (V43 0 8).toInt = ((V30 0 8)).toInt := congrArg Int32.toInt (ajV43 0 8 rfl)
            refine lv_if_eq (tgt := 28) hx hb dX12_product_10 (by decide) (fun c128 => ?_) (fun c128 => ?_)
            · skip
              have f129 : z39.toInt = 0 := b_eq rfl (by decide) c128
              have pq130 : (V43 0 48).toInt = ((V30 0 48)).toInt := congrArg Int32.toInt (ajV43 0 48 rfl)
              have pq131 : (V43 0 50).toInt = ((V30 0 50)).toInt := congrArg Int32.toInt (ajV43 0 50 rfl)
              have hr132 : ∀ k, Rc gT (Crun gs (Iprod gd :: k)) (Crun s1 (k)) := fun k => Rc.go1 (hq k) (prodR_n gd kd125)
              have rw133 : RoV 35 bq V V43 := (fun k hk => ((ajV43 35 k rfl).trans (xlp33_7 k hk)))
              have rw134 : RoV 37 bq V V43 := (fun k hk => ((ajV43 37 k rfl).trans (xlp33_8 k hk)))
              have rw135 : RoL 36 20 bq L L31 := (fun k hk => (xlp33_9 k hk))
              have rw136 : RoL 38 20 bq L L31 := (fun k hk => (xlp33_10 k hk))
              exact W.vret hx hb hr (fun t ht hW => ⟨⟨(V43, L31), rfl, ⟨hMV43, agV43, alL31, (Imp.mk (fun hp => have hp : (V43 0 8).toInt = 0 := hp; (show (V43 0 48).toInt - (V 0 48).toInt ≤ 2 * ((V43 0 7).toInt - (V 0 7).toInt) from by first | omega | ((try (have i_xlp33_3 := Imp.go xlp33_3 (by omega))); (try (have i_xlp33_2 := Imp.go xlp33_2 (by omega))); (try (have i_t8 := Imp.go t8 (by omega))); (try (have i_t8 := Imp.go t8 (by omega))); (try (have i_xlp33_2 := Imp.go xlp33_2 (by omega))); (try (have i_xlp33_3 := Imp.go xlp33_3 (by omega))); omega)))), (show (V43 0 48).toInt ≤ 8049 - 6 * (V 0 50).toInt from by first | omega | ((try (have i_xlp33_3 := Imp.go xlp33_3 (by omega))); (try (have i_xlp33_2 := Imp.go xlp33_2 (by omega))); (try (have i_t8 := Imp.go t8 (by omega))); (try (have i_t8 := Imp.go t8 (by omega))); (try (have i_xlp33_2 := Imp.go xlp33_2 (by omega))); (try (have i_xlp33_3 := Imp.go xlp33_3 (by omega))); omega)), (show (V43 0 50).toInt = (V 0 50).toInt from by first | omega | ((try (have i_xlp33_3 := Imp.go xlp33_3 (by omega))); (try (have i_xlp33_2 := Imp.go xlp33_2 (by omega))); (try (have i_t8 := Imp.go t8 (by omega))); (try (have i_t8 := Imp.go t8 (by omega))); (try (have i_xlp33_2 := Imp.go xlp33_2 (by omega))); (try (have i_xlp33_3 := Imp.go xlp33_3 (by omega))); omega)), (show (V 0 48).toInt ≤ (V43 0 48).toInt from by first | omega | ((try (have i_xlp33_3 := Imp.go xlp33_3 (by omega))); (try (have i_xlp33_2 := Imp.go xlp33_2 (by omega))); (try (have i_t8 := Imp.go t8 (by omega))); (try (have i_t8 := Imp.go t8 (by omega))); (try (have i_xlp33_2 := Imp.go xlp33_2 (by omega))); (try (have i_xlp33_3 := Imp.go xlp33_3 (by omega))); omega)), (Or.inl ⟨W0 rl47, s1, hr132, rl47, keepS.le (keepS.tr (keepS.rf : keepS gs 0 gs) kq) (by decide)⟩), rw133, rw134, rw135, rw136⟩, by rw [ht]; exact hP, va_K.moved hW.alike hK, hD⟩, hS.F ht⟩) hS.2.2 dX12_product_28
            · skip
              have f137 : z39.toInt ≠ 0 := b_neq rfl (by decide) c128
              exfalso; first | omega | ((try (have i_xlp33_3 := Imp.go xlp33_3 (by omega))); (try (have i_xlp33_2 := Imp.go xlp33_2 (by omega))); (try (have i_t8 := Imp.go t8 (by omega))); (try (have i_t8 := Imp.go t8 (by omega))); (try (have i_xlp33_2 := Imp.go xlp33_2 (by omega))); (try (have i_xlp33_3 := Imp.go xlp33_3 (by omega))); omega)
        · skip
          refine lv_bipush (v := 42) hx hb dX12_product_5 (by decide) ?_
          have r138 : Int32.toInt 42 = 42 := by decide
          refine gA_int (gA_runV (As := [.int 42]) (rest := []) (ci := 12) (q0 := 0) hx hb hml hown hg hP hD hK hS hA hnw hgk (s_hasSignB l D ks H.size ad kk V30 L31 42 hMV30 (show 1 ≤ (V30 0 8).toInt from by first | omega | ((try (have i_xlp33_3 := Imp.go xlp33_3 (by omega))); (try (have i_xlp33_2 := Imp.go xlp33_2 (by omega))); (try (have i_t8 := Imp.go t8 (by omega))); (try (have i_t8 := Imp.go t8 (by omega))); (try (have i_xlp33_2 := Imp.go xlp33_2 (by omega))); (try (have i_xlp33_3 := Imp.go xlp33_3 (by omega))); omega))) w2071 w2073 w94 w172 w2074 rfl rfl hdV_yX12_hasSign ⟨(by show 1 + 1 ≤ 10 * dd + 11; omega), (by show 8 + (3 + 11) + (21) ≤ 300 * dd + 340; omega)⟩ rfl hl.1 rfl (Nat.le_of_ble_eq_true rfl) dX12_product_7 ⟨Nat.le_of_ble_eq_true rfl, Nat.le_of_ble_eq_true rfl⟩) hP hD hK hS hA (fun z139 u140 H locs w141 hP hD hK hS => ?_)
          obtain ⟨V143, L144⟩ := u140
          obtain ⟨hMV143, ajV143, axL144, rgz139, t142⟩ := w141
          have axL144 : L31 = L144 := Eq.symm axL144
          subst axL144
          have hP : va_P D vwCl (mw ad kk ks.1 V143 L31) H := hP
          have hD : va_D A (mw ad kk ks.1 V143 L31) := hD
          have hMV143 : rgd bM V143 := hMV143
          have ajV143 : agr [(0, 7)] [] V30 V143 := ajV143
          have agV143 : agr [(0, 7), (0, 8), (0, 48), (0, 50)] [35, 36, 37, 38, 45, 46, 47] V V143 := agV30.tr ajV143 (by decide) (by decide)
          have rgz139 : 0 ≤ z139.toInt ∧ z139.toInt ≤ 0 := rgz139
          have t142 : (V143 0 8).toInt = (V30 0 8).toInt := t142
          have pq145 : (V143 0 8).toInt = ((V30 0 8)).toInt := congrArg Int32.toInt (ajV143 0 8 rfl)
          refine lv_if_eq (tgt := 28) hx hb dX12_product_10 (by decide) (fun c146 => ?_) (fun c146 => ?_)
          · skip
            have f147 : z139.toInt = 0 := b_eq rfl (by decide) c146
            have pq148 : (V143 0 48).toInt = ((V30 0 48)).toInt := congrArg Int32.toInt (ajV143 0 48 rfl)
            have pq149 : (V143 0 50).toInt = ((V30 0 50)).toInt := congrArg Int32.toInt (ajV143 0 50 rfl)
            have rw150 : RoV 35 bq V V143 := (fun k hk => ((ajV143 35 k rfl).trans (xlp33_7 k hk)))
            have rw151 : RoV 37 bq V V143 := (fun k hk => ((ajV143 37 k rfl).trans (xlp33_8 k hk)))
            have rw152 : RoL 36 20 bq L L31 := (fun k hk => (xlp33_9 k hk))
            have rw153 : RoL 38 20 bq L L31 := (fun k hk => (xlp33_10 k hk))
            exact W.vret hx hb hr (fun t ht hW => ⟨⟨(V143, L31), rfl, ⟨hMV143, agV143, alL31, (Imp.mk (fun hp => have hp : (V143 0 8).toInt = 0 := hp; (show (V143 0 48).toInt - (V 0 48).toInt ≤ 2 * ((V143 0 7).toInt - (V 0 7).toInt) from by first | omega | ((try (have i_xlp33_3 := Imp.go xlp33_3 (by omega))); (try (have i_xlp33_2 := Imp.go xlp33_2 (by omega))); (try (have i_t8 := Imp.go t8 (by omega))); (try (have i_t8 := Imp.go t8 (by omega))); (try (have i_xlp33_2 := Imp.go xlp33_2 (by omega))); (try (have i_xlp33_3 := Imp.go xlp33_3 (by omega))); omega)))), (show (V143 0 48).toInt ≤ 8049 - 6 * (V 0 50).toInt from by first | omega | ((try (have i_xlp33_3 := Imp.go xlp33_3 (by omega))); (try (have i_xlp33_2 := Imp.go xlp33_2 (by omega))); (try (have i_t8 := Imp.go t8 (by omega))); (try (have i_t8 := Imp.go t8 (by omega))); (try (have i_xlp33_2 := Imp.go xlp33_2 (by omega))); (try (have i_xlp33_3 := Imp.go xlp33_3 (by omega))); omega)), (show (V143 0 50).toInt = (V 0 50).toInt from by first | omega | ((try (have i_xlp33_3 := Imp.go xlp33_3 (by omega))); (try (have i_xlp33_2 := Imp.go xlp33_2 (by omega))); (try (have i_t8 := Imp.go t8 (by omega))); (try (have i_t8 := Imp.go t8 (by omega))); (try (have i_xlp33_2 := Imp.go xlp33_2 (by omega))); (try (have i_xlp33_3 := Imp.go xlp33_3 (by omega))); omega)), (show (V 0 48).toInt ≤ (V143 0 48).toInt from by first | omega | ((try (have i_xlp33_3 := Imp.go xlp33_3 (by omega))); (try (have i_xlp33_2 := Imp.go xlp33_2 (by omega))); (try (have i_t8 := Imp.go t8 (by omega))); (try (have i_t8 := Imp.go t8 (by omega))); (try (have i_xlp33_2 := Imp.go xlp33_2 (by omega))); (try (have i_xlp33_3 := Imp.go xlp33_3 (by omega))); omega)), (Or.inr ⟨(show 1 ≤ (V143 0 8).toInt from by omega), (fun k => by rw [show (V143 0 8).toInt = (V30 0 8).toInt from by omega]; exact hq k)⟩), rw150, rw151, rw152, rw153⟩, by rw [ht]; exact hP, va_K.moved hW.alike hK, hD⟩, hS.F ht⟩) hS.2.2 dX12_product_28
          · skip
            have f154 : z139.toInt ≠ 0 := b_neq rfl (by decide) c146
            exfalso; first | omega | ((try (have i_xlp33_3 := Imp.go xlp33_3 (by omega))); (try (have i_xlp33_2 := Imp.go xlp33_2 (by omega))); (try (have i_t8 := Imp.go t8 (by omega))); (try (have i_t8 := Imp.go t8 (by omega))); (try (have i_xlp33_2 := Imp.go xlp33_2 (by omega))); (try (have i_xlp33_3 := Imp.go xlp33_3 (by omega))); omega)
    have rw155 : RoV 35 bq V V17 := (fun k hk => ((t13 k hk).trans rfl))
    have rw156 : RoV 37 bq V V17 := (fun k hk => ((t14 k hk).trans rfl))
    have rw157 : RoL 36 20 bq L L18 := (fun k hk => ((t15 k hk).trans rfl))
    have rw158 : RoL 38 20 bq L L18 := (fun k hk => ((t16 k hk).trans rfl))
    exact lp33 ((((gn : Int) + 1) + 1 : Int).toNat) ((gn : Int) + 1) V17 L18 H locs ls (Or.inl ⟨W0 rl25, sx23, hr27, rl25, keepS.le (keepS.tr (keepS.rf : keepS gs 0 gs) kp26) (by decide)⟩) (show 0 ≤ ((gn : Int) + 1) from by first | omega | ((try (have i_t8 := Imp.go t8 (by omega))); omega)) (Imp.mk (fun hp => have hp : (V17 0 8).toInt = 0 := hp; (show (gn : Int) - (V17 0 7).toInt < ((gn : Int) + 1) from by first | omega | ((try (have i_t8 := Imp.go t8 (by omega))); omega)))) (Imp.mk (fun hp => have hp : (V17 0 8).toInt = 0 := hp; (show (V17 0 48).toInt - (V 0 48).toInt ≤ 2 * ((V17 0 7).toInt - (V 0 7).toInt) from by first | omega | ((try (have i_t8 := Imp.go t8 (by omega))); omega)))) (show (V17 0 48).toInt ≤ 8049 - 6 * (V 0 50).toInt from by first | omega | ((try (have i_t8 := Imp.go t8 (by omega))); omega)) (show (V17 0 50).toInt = (V 0 50).toInt from by first | omega | ((try (have i_t8 := Imp.go t8 (by omega))); omega)) (show (V 0 48).toInt ≤ (V17 0 48).toInt from by first | omega | ((try (have i_t8 := Imp.go t8 (by omega))); omega)) rw155 rw156 rw157 rw158 (by first | omega | ((try (have i_t8 := Imp.go t8 (by omega))); omega)) alL18 agr.rf hMV17 hP hD hS (lv_sub hl [0] rfl)
  · skip
    have hb159 : ∀ k, Rc gT (Crun gs (Iprod gd :: k)) (Cbad (V17 0 8).toInt) := fun k => (hr4 k).tr (h24 (IprodR gd :: k))
    have lp163 : ∀ (fulp163 : Nat) (g162 : Int) (V160 : Vf) (L161 : Lf) (H : Heap) (locs : List Loc) (ls : Array Slot), (((V160 0 8).toInt = 0 ∧ ∃ s1 : St, (∀ k, Rc gT (Crun gs (Iprod gd :: k)) (Crun s1 (IprodR gd :: k))) ∧ RelM V160 L161 bq gn gT s1 gl ∧ keepS gs 1 s1) ∨ (1 ≤ (V160 0 8).toInt ∧ ∀ k, Rc gT (Crun gs (Iprod gd :: k)) (Cbad (V160 0 8).toInt))) → 0 ≤ g162 → Imp ((V160 0 8).toInt = 0) ((gn : Int) - (V160 0 7).toInt < g162) → Imp ((V160 0 8).toInt = 0) ((V160 0 48).toInt - (V 0 48).toInt ≤ 2 * ((V160 0 7).toInt - (V 0 7).toInt)) → (V160 0 48).toInt ≤ 8049 - 6 * (V 0 50).toInt → (V160 0 50).toInt = (V 0 50).toInt → (V 0 48).toInt ≤ (V160 0 48).toInt → (RoV 35 bq V V160) → (RoV 37 bq V V160) → (RoL 36 20 bq L L161) → (RoL 38 20 bq L L161) → g162 < (fulp163 : Int) → agL [35, 36, 37, 38, 45, 46, 47] L L161 → agr [(0, 7), (0, 8), (0, 48), (0, 50)] [35, 36, 37, 38, 45, 46, 47] V17 V160 → rgd bM V160 → va_P D vwCl (mw ad kk ks.1 V160 L161) H → va_D A (mw ad kk ks.1 V160 L161) → va_S A s.heap H locs → lv_has ls 2 [(0, .ref (ad 0))] → W p l e (rK 11 340 dd) s m ([.ref (ad 0)] : List Value).toArray below meth c H locs 0 0 (MQ below (q_s_productA D ks ad kk V L  bq gn gT gs gl gd A) ([.ref (ad 0)] : List Value).toArray s 0 0 A) (F0 m 4 ls []) := by
      intro fulp163
      induction fulp163 with
      | zero =>
        intro g162 V160 L161 H locs ls xlp163_0 xlp163_1 xlp163_2 xlp163_3 xlp163_4 xlp163_5 xlp163_6 xlp163_7 xlp163_8 xlp163_9 xlp163_10 hn alL161 ajV160 hMV160 hP hD hS hl
        exfalso; omega
      | succ fulp163 ihlp163 =>
        intro g162 V160 L161 H locs ls xlp163_0 xlp163_1 xlp163_2 xlp163_3 xlp163_4 xlp163_5 xlp163_6 xlp163_7 xlp163_8 xlp163_9 xlp163_10 hn alL161 ajV160 hMV160 hP hD hS hl
        have agV160 : agr [(0, 7), (0, 8), (0, 48), (0, 50)] [35, 36, 37, 38, 45, 46, 47] V V160 := agV17.tr ajV160 (by decide) (by decide)
        have r164 : 0 ≤ ((V160 0 8)).toInt ∧ ((V160 0 8)).toInt ≤ 70000 := hMV160 0 8
        have r165 : 0 ≤ ((V160 0 48)).toInt ∧ ((V160 0 48)).toInt ≤ 10000 := hMV160 0 48
        have r166 : 0 ≤ ((V160 0 50)).toInt ∧ ((V160 0 50)).toInt ≤ 9 := hMV160 0 50
        refine lv_aload_n hx hb dX12_product_4 rfl (lv_at hl 0 rfl) ?_
        rcases xlp163_0 with ⟨f8, s1, hq, rq, kq⟩ | ⟨f8, hq⟩
        · skip
          have fz167 := RelM.rg rq
          refine lv_bipush (v := 42) hx hb dX12_product_5 (by decide) ?_
          have r168 : Int32.toInt 42 = 42 := by decide
          refine gA_int (gA_runV (As := [.int 42]) (rest := []) (ci := 12) (q0 := 0) hx hb hml hown hg hP hD hK hS hA hnw hgk (s_hasSignA l D ks H.size ad kk V160 L161 42 (bq) (gn) (gT) (s1) (gl) hMV160 rq (sg_yes (j := 42) (by decide) (by decide) (by decide))) w2071 w2073 w94 w172 w2074 rfl rfl hdV_yX12_hasSign ⟨(by show 1 + 1 ≤ 10 * dd + 11; omega), (by show 8 + (3 + 11) + (21) ≤ 300 * dd + 340; omega)⟩ rfl hl.1 rfl (Nat.le_of_ble_eq_true rfl) dX12_product_7 ⟨Nat.le_of_ble_eq_true rfl, Nat.le_of_ble_eq_true rfl⟩) hP hD hK hS hA (fun z169 u170 H locs w171 hP hD hK hS => ?_)
          obtain ⟨V173, L174⟩ := u170
          obtain ⟨hMV173, ajV173, axL174, rgz169, t172⟩ := w171
          have axL174 : L161 = L174 := Eq.symm axL174
          subst axL174
          have hP : va_P D vwCl (mw ad kk ks.1 V173 L161) H := hP
          have hD : va_D A (mw ad kk ks.1 V173 L161) := hD
          have hMV173 : rgd bM V173 := hMV173
          have ajV173 : agr [(0, 7)] [] V160 V173 := ajV173
          have agV173 : agr [(0, 7), (0, 8), (0, 48), (0, 50)] [35, 36, 37, 38, 45, 46, 47] V V173 := agV160.tr ajV173 (by decide) (by decide)
          have rgz169 : 0 ≤ z169.toInt ∧ z169.toInt ≤ 1 := rgz169
          have t172 : (z169.toInt = 1 ∧ (gT).1 ((s1).1 0) = (Int32.toInt 42) ∧ RelM V173 L161 (bq) (gn) (gT) (nx (s1) 1) (gl)) ∨ (z169.toInt = 0 ∧ (gT).1 ((s1).1 0) ≠ (Int32.toInt 42) ∧ RelM V173 L161 (bq) (gn) (gT) (s1) (gl)) := t172
          rcases t172 with ⟨q175, h176, rl177⟩ | ⟨q175, h176, rl177⟩
          · skip
            have kd178 : gT.1 (s1.1 0) = 42 := h176.trans (by decide)
            have hr179 : ∀ k, Rc gT (Crun gs (Iprod gd :: k)) (Crun (nx s1 1) (Ipart gd :: IprodR gd :: k)) := fun k => Rc.go1 (hq k) (prodR_y gd kd178)
            have ps180 : (nx s1 1).1 0 = s1.1 0 + 1 := rfl
            have fz181 := RelM.rg rl177
            have pq182 : (V173 0 8).toInt = ((V160 0 8)).toInt := congrArg Int32.toInt (ajV173 0 8 rfl)
            refine lv_if_eq (tgt := 28) hx hb dX12_product_10 (by decide) (fun c183 => ?_) (fun c183 => ?_)
            · skip
              have f184 : z169.toInt = 0 := b_eq rfl (by decide) c183
              exfalso; first | omega | ((try (have i_xlp163_3 := Imp.go xlp163_3 (by omega))); (try (have i_xlp163_2 := Imp.go xlp163_2 (by omega))); (try (have i_t8 := Imp.go t8 (by omega))); (try (have i_t8 := Imp.go t8 (by omega))); (try (have i_xlp163_2 := Imp.go xlp163_2 (by omega))); (try (have i_xlp163_3 := Imp.go xlp163_3 (by omega))); omega)
            · skip
              have f185 : z169.toInt ≠ 0 := b_neq rfl (by decide) c183
              refine lv_aload_n hx hb dX12_product_13 rfl (lv_at hl 0 rfl) ?_
              have pq186 : (V173 0 48).toInt = ((V160 0 48)).toInt := congrArg Int32.toInt (ajV173 0 48 rfl)
              have pq187 : (V173 0 50).toInt = ((V160 0 50)).toInt := congrArg Int32.toInt (ajV173 0 50 rfl)
              refine gA_void (gA_runV (As := []) (rest := []) (ci := 12) (q0 := 0) hx hb hml hown hg hP hD hK hS hA hnw hgk (hk_s_partA H.size ad kk V173 L161 (bq) (gn) (gT) ((nx s1 1)) (gl) (gd) hMV173 rl177 (show (V173 0 48).toInt ≤ 2 * (V173 0 7).toInt from by first | omega | ((try (have i_xlp163_3 := Imp.go xlp163_3 (by omega))); (try (have i_xlp163_2 := Imp.go xlp163_2 (by omega))); (try (have i_t8 := Imp.go t8 (by omega))); (try (have i_t8 := Imp.go t8 (by omega))); (try (have i_xlp163_2 := Imp.go xlp163_2 (by omega))); (try (have i_xlp163_3 := Imp.go xlp163_3 (by omega))); omega)) (show (V173 0 50).toInt = ((gd) : Int) from by first | omega | ((try (have i_xlp163_3 := Imp.go xlp163_3 (by omega))); (try (have i_xlp163_2 := Imp.go xlp163_2 (by omega))); (try (have i_t8 := Imp.go t8 (by omega))); (try (have i_t8 := Imp.go t8 (by omega))); (try (have i_xlp163_2 := Imp.go xlp163_2 (by omega))); (try (have i_xlp163_3 := Imp.go xlp163_3 (by omega))); omega)) (show (V173 0 50).toInt + (dd : Int) = 8 from by first | omega | ((try (have i_xlp163_3 := Imp.go xlp163_3 (by omega))); (try (have i_xlp163_2 := Imp.go xlp163_2 (by omega))); (try (have i_t8 := Imp.go t8 (by omega))); (try (have i_t8 := Imp.go t8 (by omega))); (try (have i_xlp163_2 := Imp.go xlp163_2 (by omega))); (try (have i_xlp163_3 := Imp.go xlp163_3 (by omega))); omega)) (EM.mv em ((ajV173 0 51 rfl).trans ((ajV160 0 51 rfl).trans (ajV17 0 51 rfl))) ((ajV173 0 52 rfl).trans ((ajV160 0 52 rfl).trans (ajV17 0 52 rfl))) (by rw [(funext (fun q => ajV173 27 q rfl) : V173 27 = V160 27), (funext (fun q => ajV160 27 q rfl) : V160 27 = V17 27), (funext (fun q => ajV17 27 q rfl) : V17 27 = V 27)] : V173 27 = V 27) ((keepS.tr (keepS.tr (keepS.rf : keepS gs 0 gs) kq) (keepS.n1 1))).2.1)) w2132 w2134 w109 w172 w2135 rfl rfl hdV_yX12_part ⟨(by show 10 * dd + 10 + 1 ≤ 10 * dd + 11; omega), (by show 8 + (2 + 11) + (300 * dd + 300) ≤ 300 * dd + 340; omega)⟩ rfl hl.1 rfl (Nat.le_of_ble_eq_true rfl) dX12_product_14 ⟨Nat.le_of_ble_eq_true rfl, Nat.le_of_ble_eq_true rfl⟩) hP hD hK hS hA (fun u189 H locs w190 hP hD hK hS => ?_)
              obtain ⟨V200, L201⟩ := u189
              obtain ⟨hMV200, ajV200, axL201, t191, t192, t193, t194, t195, t196, t197, t198, t199⟩ := w190
              have alL201 : agL [35, 36, 37, 38, 45, 46, 47] L L201 := agL.tr alL161 axL201 (by decide)
              have hP : va_P D vwCl (mw ad kk ks.1 V200 L201) H := hP
              have hD : va_D A (mw ad kk ks.1 V200 L201) := hD
              have hMV200 : rgd bM V200 := hMV200
              have ajV200 : agr [(0, 7), (0, 8), (0, 48), (0, 50)] [35, 36, 37, 38, 45, 46, 47] V173 V200 := ajV200
              have agV200 : agr [(0, 7), (0, 8), (0, 48), (0, 50)] [35, 36, 37, 38, 45, 46, 47] V V200 := agV173.tr ajV200 (by decide) (by decide)
              have t191 : Imp ((V200 0 8).toInt = 0) ((V200 0 48).toInt - (V173 0 48).toInt ≤ 2 * ((V200 0 7).toInt - (V173 0 7).toInt)) := t191
              have t192 : (V200 0 48).toInt ≤ 8048 - 6 * (V173 0 50).toInt := t192
              have t193 : (V200 0 50).toInt = (V173 0 50).toInt := t193
              have t194 : (V173 0 48).toInt ≤ (V200 0 48).toInt := t194
              have t195 : RdM (gT) ((nx s1 1)) (fun k => Ipart (gd) :: k) (fun k => k) (V200 0 8).toInt (fun s9 => RelM V200 L201 (bq) (gn) (gT) s9 (gl) ∧ keepS ((nx s1 1)) 1 s9) := t195
              have t196 : RoV 35 (bq) V173 V200 := t196
              have t197 : RoV 37 (bq) V173 V200 := t197
              have t198 : RoL 36 20 (bq) L161 L201 := t198
              have t199 : RoL 38 20 (bq) L161 L201 := t199
              have r202 : 0 ≤ ((V200 0 48)).toInt ∧ ((V200 0 48)).toInt ≤ 10000 := hMV200 0 48
              have r203 : 0 ≤ ((V200 0 8)).toInt ∧ ((V200 0 8)).toInt ≤ 70000 := hMV200 0 8
              have r204 : 0 ≤ ((V200 0 50)).toInt ∧ ((V200 0 50)).toInt ≤ 9 := hMV200 0 50
              rcases t195 with ⟨q205, sx206, h207, rl208, kp209⟩ | ⟨q205, h207⟩
              · skip
                have hr210 : ∀ k, Rc gT (Crun gs (Iprod gd :: k)) (Crun sx206 (IprodR gd :: k)) := fun k => (hr179 k).tr (h207 (IprodR gd :: k))
                have fz211 := RelM.rg rl208
                have ps212 := (kp209).1
                refine lv_aload_n hx hb dX12_product_17 rfl (lv_at hl 0 rfl) ?_
                refine lv_iconst (v := 5) hx hb dX12_product_18 (by decide) ?_
                refine lv_iconst (v := 0) hx hb dX12_product_19 (by decide) ?_
                refine lv_iconst (v := 0) hx hb dX12_product_20 (by decide) ?_
                have r213 : Int32.toInt 5 = 5 := by decide
                have r214 : Int32.toInt 0 = 0 := by decide
                refine gA_int (gA_runV (As := [.int 5, .int 0, .int 0]) (rest := []) (ci := 12) (q0 := 0) hx hb hml hown hg hP hD hK hS hA hnw hgk (s_emit3 l D ks H.size ad kk V200 L201 5 0 0 hMV200 (show (V200 0 48).toInt ≤ 9999 from by first | omega | ((try (have i_t191 := Imp.go t191 (by omega))); (try (have i_xlp163_3 := Imp.go xlp163_3 (by omega))); (try (have i_xlp163_2 := Imp.go xlp163_2 (by omega))); (try (have i_t8 := Imp.go t8 (by omega))); (try (have i_t8 := Imp.go t8 (by omega))); (try (have i_xlp163_2 := Imp.go xlp163_2 (by omega))); (try (have i_xlp163_3 := Imp.go xlp163_3 (by omega))); (try (have i_t191 := Imp.go t191 (by omega))); omega))) w2140 w2142 w111 w172 w2143 rfl rfl hdV_yX12_emit ⟨(by show 0 + 1 ≤ 10 * dd + 11; omega), (by show 8 + (4 + 11) + (0) ≤ 300 * dd + 340; omega)⟩ rfl hl.1 rfl (Nat.le_of_ble_eq_true rfl) dX12_product_21 ⟨Nat.le_of_ble_eq_true rfl, Nat.le_of_ble_eq_true rfl⟩) hP hD hK hS hA (fun z215 u216 H locs w217 hP hD hK hS => ?_)
                obtain ⟨V221, L222⟩ := u216
                obtain ⟨hMV221, ajV221, axL222, rgz215, t218, t219, t220⟩ := w217
                have axL222 : L201 = L222 := Eq.symm axL222
                subst axL222
                have hP : va_P D vwCl (mw ad kk ks.1 V221 L201) H := hP
                have hD : va_D A (mw ad kk ks.1 V221 L201) := hD
                have hMV221 : rgd bM V221 := hMV221
                have ajV221 : agr [(0, 48)] [45, 46, 47] V200 V221 := ajV221
                have agV221 : agr [(0, 7), (0, 8), (0, 48), (0, 50)] [35, 36, 37, 38, 45, 46, 47] V V221 := agV200.tr ajV221 (by decide) (by decide)
                have rgz215 : 0 ≤ z215.toInt ∧ z215.toInt ≤ 20000 := rgz215
                have t218 : (V221 0 48).toInt = (V200 0 48).toInt + 1 := t218
                have t219 : z215.toInt = (V200 0 49).toInt + (V200 0 48).toInt := t219
                have t220 : emitted V200 V221 (pA V200) 5 0 0 := t220
                have r223 : 0 ≤ ((V221 0 48)).toInt ∧ ((V221 0 48)).toInt ≤ 10000 := hMV221 0 48
                have pq224 : (V200 0 49).toInt = ((V 0 49)).toInt := congrArg Int32.toInt ((ajV200 0 49 rfl).trans ((ajV173 0 49 rfl).trans ((ajV160 0 49 rfl).trans (ajV17 0 49 rfl))))
                have r225 : 0 ≤ ((V 0 49)).toInt ∧ ((V 0 49)).toInt ≤ 10000 := hMV 0 49
                refine lv_istore_n (lv' := [(1, .int z215), (0, .ref (ad 0))]) hx hb dX12_product_24 rfl hl (by decide) rfl (fun ls hl => ?_)
                refine lv_goto (tgt := 4) hx hb dX12_product_25 (by decide) ?_
                have pq226 : (V221 0 7).toInt = ((V200 0 7)).toInt := congrArg Int32.toInt (ajV221 0 7 rfl)
                have pq227 : (V221 0 8).toInt = ((V200 0 8)).toInt := congrArg Int32.toInt (ajV221 0 8 rfl)
                have pq228 : (V221 0 50).toInt = ((V200 0 50)).toInt := congrArg Int32.toInt (ajV221 0 50 rfl)
                have rl229 : RelM V221 L201 bq gn gT sx206 gl := RelM.ag rl208 (show agr [(0, 48)] [45, 46, 47] V200 V221 from (agr.tr agr.rf ajV221 (by decide) (by decide))) (by decide) (show agL [] L201 L201 from agL.rf) (by decide)
                have rw230 : RoV 35 bq V V221 := (fun k hk => ((ajV221 35 k rfl).trans ((t196 k hk).trans ((ajV173 35 k rfl).trans (xlp163_7 k hk)))))
                have rw231 : RoV 37 bq V V221 := (fun k hk => ((ajV221 37 k rfl).trans ((t197 k hk).trans ((ajV173 37 k rfl).trans (xlp163_8 k hk)))))
                have rw232 : RoL 36 20 bq L L201 := (fun k hk => ((t198 k hk).trans (xlp163_9 k hk)))
                have rw233 : RoL 38 20 bq L L201 := (fun k hk => ((t199 k hk).trans (xlp163_10 k hk)))
                exact ihlp163 (g162 - 1) V221 L201 H locs ls (Or.inl ⟨W0 rl229, sx206, hr210, rl229, keepS.le (keepS.tr (keepS.tr (keepS.tr (keepS.rf : keepS gs 0 gs) kq) (keepS.n1 1)) kp209) (by decide)⟩) (show 0 ≤ (g162 - 1) from by first | omega | ((try (have i_t191 := Imp.go t191 (by omega))); (try (have i_xlp163_3 := Imp.go xlp163_3 (by omega))); (try (have i_xlp163_2 := Imp.go xlp163_2 (by omega))); (try (have i_t8 := Imp.go t8 (by omega))); (try (have i_t8 := Imp.go t8 (by omega))); (try (have i_xlp163_2 := Imp.go xlp163_2 (by omega))); (try (have i_xlp163_3 := Imp.go xlp163_3 (by omega))); (try (have i_t191 := Imp.go t191 (by omega))); omega)) (Imp.mk (fun hp => have hp : (V221 0 8).toInt = 0 := hp; (show (gn : Int) - (V221 0 7).toInt < (g162 - 1) from by first | omega | ((try (have i_t191 := Imp.go t191 (by omega))); (try (have i_xlp163_3 := Imp.go xlp163_3 (by omega))); (try (have i_xlp163_2 := Imp.go xlp163_2 (by omega))); (try (have i_t8 := Imp.go t8 (by omega))); (try (have i_t8 := Imp.go t8 (by omega))); (try (have i_xlp163_2 := Imp.go xlp163_2 (by omega))); (try (have i_xlp163_3 := Imp.go xlp163_3 (by omega))); (try (have i_t191 := Imp.go t191 (by omega))); omega)))) (Imp.mk (fun hp => have hp : (V221 0 8).toInt = 0 := hp; (show (V221 0 48).toInt - (V 0 48).toInt ≤ 2 * ((V221 0 7).toInt - (V 0 7).toInt) from by first | omega | ((try (have i_t191 := Imp.go t191 (by omega))); (try (have i_xlp163_3 := Imp.go xlp163_3 (by omega))); (try (have i_xlp163_2 := Imp.go xlp163_2 (by omega))); (try (have i_t8 := Imp.go t8 (by omega))); (try (have i_t8 := Imp.go t8 (by omega))); (try (have i_xlp163_2 := Imp.go xlp163_2 (by omega))); (try (have i_xlp163_3 := Imp.go xlp163_3 (by omega))); (try (have i_t191 := Imp.go t191 (by omega))); omega)))) (show (V221 0 48).toInt ≤ 8049 - 6 * (V 0 50).toInt from by first | omega | ((try (have i_t191 := Imp.go t191 (by omega))); (try (have i_xlp163_3 := Imp.go xlp163_3 (by omega))); (try (have i_xlp163_2 := Imp.go xlp163_2 (by omega))); (try (have i_t8 := Imp.go t8 (by omega))); (try (have i_t8 := Imp.go t8 (by omega))); (try (have i_xlp163_2 := Imp.go xlp163_2 (by omega))); (try (have i_xlp163_3 := Imp.go xlp163_3 (by omega))); (try (have i_t191 := Imp.go t191 (by omega))); omega)) (show (V221 0 50).toInt = (V 0 50).toInt from by first | omega | ((try (have i_t191 := Imp.go t191 (by omega))); (try (have i_xlp163_3 := Imp.go xlp163_3 (by omega))); (try (have i_xlp163_2 := Imp.go xlp163_2 (by omega))); (try (have i_t8 := Imp.go t8 (by omega))); (try (have i_t8 := Imp.go t8 (by omega))); (try (have i_xlp163_2 := Imp.go xlp163_2 (by omega))); (try (have i_xlp163_3 := Imp.go xlp163_3 (by omega))); (try (have i_t191 := Imp.go t191 (by omega))); omega)) (show (V 0 48).toInt ≤ (V221 0 48).toInt from by first | omega | ((try (have i_t191 := Imp.go t191 (by omega))); (try (have i_xlp163_3 := Imp.go xlp163_3 (by omega))); (try (have i_xlp163_2 := Imp.go xlp163_2 (by omega))); (try (have i_t8 := Imp.go t8 (by omega))); (try (have i_t8 := Imp.go t8 (by omega))); (try (have i_xlp163_2 := Imp.go xlp163_2 (by omega))); (try (have i_xlp163_3 := Imp.go xlp163_3 (by omega))); (try (have i_t191 := Imp.go t191 (by omega))); omega)) rw230 rw231 rw232 rw233 (by first | omega | ((try (have i_t191 := Imp.go t191 (by omega))); (try (have i_xlp163_3 := Imp.go xlp163_3 (by omega))); (try (have i_xlp163_2 := Imp.go xlp163_2 (by omega))); (try (have i_t8 := Imp.go t8 (by omega))); (try (have i_t8 := Imp.go t8 (by omega))); (try (have i_xlp163_2 := Imp.go xlp163_2 (by omega))); (try (have i_xlp163_3 := Imp.go xlp163_3 (by omega))); (try (have i_t191 := Imp.go t191 (by omega))); omega)) alL201 (agr.tr (agr.tr (agr.tr (agr.tr agr.rf ajV160 (by decide) (by decide)) ajV173 (by decide) (by decide)) ajV200 (by decide) (by decide)) ajV221 (by decide) (by decide)) hMV221 hP hD hS (lv_sub hl [1] rfl)
              · skip
                have hb234 : ∀ k, Rc gT (Crun gs (Iprod gd :: k)) (Cbad (V200 0 8).toInt) := fun k => (hr179 k).tr (h207 (IprodR gd :: k))
                refine lv_aload_n hx hb dX12_product_17 rfl (lv_at hl 0 rfl) ?_
                refine lv_iconst (v := 5) hx hb dX12_product_18 (by decide) ?_
                refine lv_iconst (v := 0) hx hb dX12_product_19 (by decide) ?_
                refine lv_iconst (v := 0) hx hb dX12_product_20 (by decide) ?_
                have r235 : Int32.toInt 5 = 5 := by decide
                have r236 : Int32.toInt 0 = 0 := by decide
                refine gA_int (gA_runV (As := [.int 5, .int 0, .int 0]) (rest := []) (ci := 12) (q0 := 0) hx hb hml hown hg hP hD hK hS hA hnw hgk (s_emit3 l D ks H.size ad kk V200 L201 5 0 0 hMV200 (show (V200 0 48).toInt ≤ 9999 from by first | omega | ((try (have i_t191 := Imp.go t191 (by omega))); (try (have i_xlp163_3 := Imp.go xlp163_3 (by omega))); (try (have i_xlp163_2 := Imp.go xlp163_2 (by omega))); (try (have i_t8 := Imp.go t8 (by omega))); (try (have i_t8 := Imp.go t8 (by omega))); (try (have i_xlp163_2 := Imp.go xlp163_2 (by omega))); (try (have i_xlp163_3 := Imp.go xlp163_3 (by omega))); (try (have i_t191 := Imp.go t191 (by omega))); omega))) w2140 w2142 w111 w172 w2143 rfl rfl hdV_yX12_emit ⟨(by show 0 + 1 ≤ 10 * dd + 11; omega), (by show 8 + (4 + 11) + (0) ≤ 300 * dd + 340; omega)⟩ rfl hl.1 rfl (Nat.le_of_ble_eq_true rfl) dX12_product_21 ⟨Nat.le_of_ble_eq_true rfl, Nat.le_of_ble_eq_true rfl⟩) hP hD hK hS hA (fun z237 u238 H locs w239 hP hD hK hS => ?_)
                obtain ⟨V243, L244⟩ := u238
                obtain ⟨hMV243, ajV243, axL244, rgz237, t240, t241, t242⟩ := w239
                have axL244 : L201 = L244 := Eq.symm axL244
                subst axL244
                have hP : va_P D vwCl (mw ad kk ks.1 V243 L201) H := hP
                have hD : va_D A (mw ad kk ks.1 V243 L201) := hD
                have hMV243 : rgd bM V243 := hMV243
                have ajV243 : agr [(0, 48)] [45, 46, 47] V200 V243 := ajV243
                have agV243 : agr [(0, 7), (0, 8), (0, 48), (0, 50)] [35, 36, 37, 38, 45, 46, 47] V V243 := agV200.tr ajV243 (by decide) (by decide)
                have rgz237 : 0 ≤ z237.toInt ∧ z237.toInt ≤ 20000 := rgz237
                have t240 : (V243 0 48).toInt = (V200 0 48).toInt + 1 := t240
                have t241 : z237.toInt = (V200 0 49).toInt + (V200 0 48).toInt := t241
                have t242 : emitted V200 V243 (pA V200) 5 0 0 := t242
                have r245 : 0 ≤ ((V243 0 48)).toInt ∧ ((V243 0 48)).toInt ≤ 10000 := hMV243 0 48
                have pq246 : (V200 0 49).toInt = ((V 0 49)).toInt := congrArg Int32.toInt ((ajV200 0 49 rfl).trans ((ajV173 0 49 rfl).trans ((ajV160 0 49 rfl).trans (ajV17 0 49 rfl))))
                have r247 : 0 ≤ ((V 0 49)).toInt ∧ ((V 0 49)).toInt ≤ 10000 := hMV 0 49
                refine lv_istore_n (lv' := [(1, .int z237), (0, .ref (ad 0))]) hx hb dX12_product_24 rfl hl (by decide) rfl (fun ls hl => ?_)
                refine lv_goto (tgt := 4) hx hb dX12_product_25 (by decide) ?_
                have pq248 : (V243 0 7).toInt = ((V200 0 7)).toInt := congrArg Int32.toInt (ajV243 0 7 rfl)
                have pq249 : (V243 0 8).toInt = ((V200 0 8)).toInt := congrArg Int32.toInt (ajV243 0 8 rfl)
                have pq250 : (V243 0 50).toInt = ((V200 0 50)).toInt := congrArg Int32.toInt (ajV243 0 50 rfl)
                have rw251 : RoV 35 bq V V243 := (fun k hk => ((ajV243 35 k rfl).trans ((t196 k hk).trans ((ajV173 35 k rfl).trans (xlp163_7 k hk)))))
                have rw252 : RoV 37 bq V V243 := (fun k hk => ((ajV243 37 k rfl).trans ((t197 k hk).trans ((ajV173 37 k rfl).trans (xlp163_8 k hk)))))
                have rw253 : RoL 36 20 bq L L201 := (fun k hk => ((t198 k hk).trans (xlp163_9 k hk)))
                have rw254 : RoL 38 20 bq L L201 := (fun k hk => ((t199 k hk).trans (xlp163_10 k hk)))
                exact ihlp163 (g162 - 1) V243 L201 H locs ls (Or.inr ⟨(show 1 ≤ (V243 0 8).toInt from by omega), (fun k => by rw [show (V243 0 8).toInt = (V200 0 8).toInt from by omega]; exact hb234 k)⟩) (show 0 ≤ (g162 - 1) from by first | omega | ((try (have i_t191 := Imp.go t191 (by omega))); (try (have i_xlp163_3 := Imp.go xlp163_3 (by omega))); (try (have i_xlp163_2 := Imp.go xlp163_2 (by omega))); (try (have i_t8 := Imp.go t8 (by omega))); (try (have i_t8 := Imp.go t8 (by omega))); (try (have i_xlp163_2 := Imp.go xlp163_2 (by omega))); (try (have i_xlp163_3 := Imp.go xlp163_3 (by omega))); (try (have i_t191 := Imp.go t191 (by omega))); omega)) (Imp.mk (fun hp => have hp : (V243 0 8).toInt = 0 := hp; (show (gn : Int) - (V243 0 7).toInt < (g162 - 1) from by first | omega | ((try (have i_t191 := Imp.go t191 (by omega))); (try (have i_xlp163_3 := Imp.go xlp163_3 (by omega))); (try (have i_xlp163_2 := Imp.go xlp163_2 (by omega))); (try (have i_t8 := Imp.go t8 (by omega))); (try (have i_t8 := Imp.go t8 (by omega))); (try (have i_xlp163_2 := Imp.go xlp163_2 (by omega))); (try (have i_xlp163_3 := Imp.go xlp163_3 (by omega))); (try (have i_t191 := Imp.go t191 (by omega))); omega)))) (Imp.mk (fun hp => have hp : (V243 0 8).toInt = 0 := hp; (show (V243 0 48).toInt - (V 0 48).toInt ≤ 2 * ((V243 0 7).toInt - (V 0 7).toInt) from by first | omega | ((try (have i_t191 := Imp.go t191 (by omega))); (try (have i_xlp163_3 := Imp.go xlp163_3 (by omega))); (try (have i_xlp163_2 := Imp.go xlp163_2 (by omega))); (try (have i_t8 := Imp.go t8 (by omega))); (try (have i_t8 := Imp.go t8 (by omega))); (try (have i_xlp163_2 := Imp.go xlp163_2 (by omega))); (try (have i_xlp163_3 := Imp.go xlp163_3 (by omega))); (try (have i_t191 := Imp.go t191 (by omega))); omega)))) (show (V243 0 48).toInt ≤ 8049 - 6 * (V 0 50).toInt from by first | omega | ((try (have i_t191 := Imp.go t191 (by omega))); (try (have i_xlp163_3 := Imp.go xlp163_3 (by omega))); (try (have i_xlp163_2 := Imp.go xlp163_2 (by omega))); (try (have i_t8 := Imp.go t8 (by omega))); (try (have i_t8 := Imp.go t8 (by omega))); (try (have i_xlp163_2 := Imp.go xlp163_2 (by omega))); (try (have i_xlp163_3 := Imp.go xlp163_3 (by omega))); (try (have i_t191 := Imp.go t191 (by omega))); omega)) (show (V243 0 50).toInt = (V 0 50).toInt from by first | omega | ((try (have i_t191 := Imp.go t191 (by omega))); (try (have i_xlp163_3 := Imp.go xlp163_3 (by omega))); (try (have i_xlp163_2 := Imp.go xlp163_2 (by omega))); (try (have i_t8 := Imp.go t8 (by omega))); (try (have i_t8 := Imp.go t8 (by omega))); (try (have i_xlp163_2 := Imp.go xlp163_2 (by omega))); (try (have i_xlp163_3 := Imp.go xlp163_3 (by omega))); (try (have i_t191 := Imp.go t191 (by omega))); omega)) (show (V 0 48).toInt ≤ (V243 0 48).toInt from by first | omega | ((try (have i_t191 := Imp.go t191 (by omega))); (try (have i_xlp163_3 := Imp.go xlp163_3 (by omega))); (try (have i_xlp163_2 := Imp.go xlp163_2 (by omega))); (try (have i_t8 := Imp.go t8 (by omega))); (try (have i_t8 := Imp.go t8 (by omega))); (try (have i_xlp163_2 := Imp.go xlp163_2 (by omega))); (try (have i_xlp163_3 := Imp.go xlp163_3 (by omega))); (try (have i_t191 := Imp.go t191 (by omega))); omega)) rw251 rw252 rw253 rw254 (by first | omega | ((try (have i_t191 := Imp.go t191 (by omega))); (try (have i_xlp163_3 := Imp.go xlp163_3 (by omega))); (try (have i_xlp163_2 := Imp.go xlp163_2 (by omega))); (try (have i_t8 := Imp.go t8 (by omega))); (try (have i_t8 := Imp.go t8 (by omega))); (try (have i_xlp163_2 := Imp.go xlp163_2 (by omega))); (try (have i_xlp163_3 := Imp.go xlp163_3 (by omega))); (try (have i_t191 := Imp.go t191 (by omega))); omega)) alL201 (agr.tr (agr.tr (agr.tr (agr.tr agr.rf ajV160 (by decide) (by decide)) ajV173 (by decide) (by decide)) ajV200 (by decide) (by decide)) ajV243 (by decide) (by decide)) hMV243 hP hD hS (lv_sub hl [1] rfl)
          · skip
            have kd255 : gT.1 (s1.1 0) ≠ 42 := fun h9 => h176 (h9.trans (by decide))
            have fz256 := RelM.rg rl177
            have pq257 : (V173 0 8).toInt = ((V160 0 8)).toInt := congrArg Int32.toInt (ajV173 0 8 rfl)
            refine lv_if_eq (tgt := 28) hx hb dX12_product_10 (by decide) (fun c258 => ?_) (fun c258 => ?_)
            · skip
              have f259 : z169.toInt = 0 := b_eq rfl (by decide) c258
              have pq260 : (V173 0 48).toInt = ((V160 0 48)).toInt := congrArg Int32.toInt (ajV173 0 48 rfl)
              have pq261 : (V173 0 50).toInt = ((V160 0 50)).toInt := congrArg Int32.toInt (ajV173 0 50 rfl)
              have hr262 : ∀ k, Rc gT (Crun gs (Iprod gd :: k)) (Crun s1 (k)) := fun k => Rc.go1 (hq k) (prodR_n gd kd255)
              have rw263 : RoV 35 bq V V173 := (fun k hk => ((ajV173 35 k rfl).trans (xlp163_7 k hk)))
              have rw264 : RoV 37 bq V V173 := (fun k hk => ((ajV173 37 k rfl).trans (xlp163_8 k hk)))
              have rw265 : RoL 36 20 bq L L161 := (fun k hk => (xlp163_9 k hk))
              have rw266 : RoL 38 20 bq L L161 := (fun k hk => (xlp163_10 k hk))
              exact W.vret hx hb hr (fun t ht hW => ⟨⟨(V173, L161), rfl, ⟨hMV173, agV173, alL161, (Imp.mk (fun hp => have hp : (V173 0 8).toInt = 0 := hp; (show (V173 0 48).toInt - (V 0 48).toInt ≤ 2 * ((V173 0 7).toInt - (V 0 7).toInt) from by first | omega | ((try (have i_xlp163_3 := Imp.go xlp163_3 (by omega))); (try (have i_xlp163_2 := Imp.go xlp163_2 (by omega))); (try (have i_t8 := Imp.go t8 (by omega))); (try (have i_t8 := Imp.go t8 (by omega))); (try (have i_xlp163_2 := Imp.go xlp163_2 (by omega))); (try (have i_xlp163_3 := Imp.go xlp163_3 (by omega))); omega)))), (show (V173 0 48).toInt ≤ 8049 - 6 * (V 0 50).toInt from by first | omega | ((try (have i_xlp163_3 := Imp.go xlp163_3 (by omega))); (try (have i_xlp163_2 := Imp.go xlp163_2 (by omega))); (try (have i_t8 := Imp.go t8 (by omega))); (try (have i_t8 := Imp.go t8 (by omega))); (try (have i_xlp163_2 := Imp.go xlp163_2 (by omega))); (try (have i_xlp163_3 := Imp.go xlp163_3 (by omega))); omega)), (show (V173 0 50).toInt = (V 0 50).toInt from by first | omega | ((try (have i_xlp163_3 := Imp.go xlp163_3 (by omega))); (try (have i_xlp163_2 := Imp.go xlp163_2 (by omega))); (try (have i_t8 := Imp.go t8 (by omega))); (try (have i_t8 := Imp.go t8 (by omega))); (try (have i_xlp163_2 := Imp.go xlp163_2 (by omega))); (try (have i_xlp163_3 := Imp.go xlp163_3 (by omega))); omega)), (show (V 0 48).toInt ≤ (V173 0 48).toInt from by first | omega | ((try (have i_xlp163_3 := Imp.go xlp163_3 (by omega))); (try (have i_xlp163_2 := Imp.go xlp163_2 (by omega))); (try (have i_t8 := Imp.go t8 (by omega))); (try (have i_t8 := Imp.go t8 (by omega))); (try (have i_xlp163_2 := Imp.go xlp163_2 (by omega))); (try (have i_xlp163_3 := Imp.go xlp163_3 (by omega))); omega)), (Or.inl ⟨W0 rl177, s1, hr262, rl177, keepS.le (keepS.tr (keepS.rf : keepS gs 0 gs) kq) (by decide)⟩), rw263, rw264, rw265, rw266⟩, by rw [ht]; exact hP, va_K.moved hW.alike hK, hD⟩, hS.F ht⟩) hS.2.2 dX12_product_28
            · skip
              have f267 : z169.toInt ≠ 0 := b_neq rfl (by decide) c258
              exfalso; first | omega | ((try (have i_xlp163_3 := Imp.go xlp163_3 (by omega))); (try (have i_xlp163_2 := Imp.go xlp163_2 (by omega))); (try (have i_t8 := Imp.go t8 (by omega))); (try (have i_t8 := Imp.go t8 (by omega))); (try (have i_xlp163_2 := Imp.go xlp163_2 (by omega))); (try (have i_xlp163_3 := Imp.go xlp163_3 (by omega))); omega)
        · skip
          refine lv_bipush (v := 42) hx hb dX12_product_5 (by decide) ?_
          have r268 : Int32.toInt 42 = 42 := by decide
          refine gA_int (gA_runV (As := [.int 42]) (rest := []) (ci := 12) (q0 := 0) hx hb hml hown hg hP hD hK hS hA hnw hgk (s_hasSignB l D ks H.size ad kk V160 L161 42 hMV160 (show 1 ≤ (V160 0 8).toInt from by first | omega | ((try (have i_xlp163_3 := Imp.go xlp163_3 (by omega))); (try (have i_xlp163_2 := Imp.go xlp163_2 (by omega))); (try (have i_t8 := Imp.go t8 (by omega))); (try (have i_t8 := Imp.go t8 (by omega))); (try (have i_xlp163_2 := Imp.go xlp163_2 (by omega))); (try (have i_xlp163_3 := Imp.go xlp163_3 (by omega))); omega))) w2071 w2073 w94 w172 w2074 rfl rfl hdV_yX12_hasSign ⟨(by show 1 + 1 ≤ 10 * dd + 11; omega), (by show 8 + (3 + 11) + (21) ≤ 300 * dd + 340; omega)⟩ rfl hl.1 rfl (Nat.le_of_ble_eq_true rfl) dX12_product_7 ⟨Nat.le_of_ble_eq_true rfl, Nat.le_of_ble_eq_true rfl⟩) hP hD hK hS hA (fun z269 u270 H locs w271 hP hD hK hS => ?_)
          obtain ⟨V273, L274⟩ := u270
          obtain ⟨hMV273, ajV273, axL274, rgz269, t272⟩ := w271
          have axL274 : L161 = L274 := Eq.symm axL274
          subst axL274
          have hP : va_P D vwCl (mw ad kk ks.1 V273 L161) H := hP
          have hD : va_D A (mw ad kk ks.1 V273 L161) := hD
          have hMV273 : rgd bM V273 := hMV273
          have ajV273 : agr [(0, 7)] [] V160 V273 := ajV273
          have agV273 : agr [(0, 7), (0, 8), (0, 48), (0, 50)] [35, 36, 37, 38, 45, 46, 47] V V273 := agV160.tr ajV273 (by decide) (by decide)
          have rgz269 : 0 ≤ z269.toInt ∧ z269.toInt ≤ 0 := rgz269
          have t272 : (V273 0 8).toInt = (V160 0 8).toInt := t272
          have pq275 : (V273 0 8).toInt = ((V160 0 8)).toInt := congrArg Int32.toInt (ajV273 0 8 rfl)
          refine lv_if_eq (tgt := 28) hx hb dX12_product_10 (by decide) (fun c276 => ?_) (fun c276 => ?_)
          · skip
            have f277 : z269.toInt = 0 := b_eq rfl (by decide) c276
            have pq278 : (V273 0 48).toInt = ((V160 0 48)).toInt := congrArg Int32.toInt (ajV273 0 48 rfl)
            have pq279 : (V273 0 50).toInt = ((V160 0 50)).toInt := congrArg Int32.toInt (ajV273 0 50 rfl)
            have rw280 : RoV 35 bq V V273 := (fun k hk => ((ajV273 35 k rfl).trans (xlp163_7 k hk)))
            have rw281 : RoV 37 bq V V273 := (fun k hk => ((ajV273 37 k rfl).trans (xlp163_8 k hk)))
            have rw282 : RoL 36 20 bq L L161 := (fun k hk => (xlp163_9 k hk))
            have rw283 : RoL 38 20 bq L L161 := (fun k hk => (xlp163_10 k hk))
            exact W.vret hx hb hr (fun t ht hW => ⟨⟨(V273, L161), rfl, ⟨hMV273, agV273, alL161, (Imp.mk (fun hp => have hp : (V273 0 8).toInt = 0 := hp; (show (V273 0 48).toInt - (V 0 48).toInt ≤ 2 * ((V273 0 7).toInt - (V 0 7).toInt) from by first | omega | ((try (have i_xlp163_3 := Imp.go xlp163_3 (by omega))); (try (have i_xlp163_2 := Imp.go xlp163_2 (by omega))); (try (have i_t8 := Imp.go t8 (by omega))); (try (have i_t8 := Imp.go t8 (by omega))); (try (have i_xlp163_2 := Imp.go xlp163_2 (by omega))); (try (have i_xlp163_3 := Imp.go xlp163_3 (by omega))); omega)))), (show (V273 0 48).toInt ≤ 8049 - 6 * (V 0 50).toInt from by first | omega | ((try (have i_xlp163_3 := Imp.go xlp163_3 (by omega))); (try (have i_xlp163_2 := Imp.go xlp163_2 (by omega))); (try (have i_t8 := Imp.go t8 (by omega))); (try (have i_t8 := Imp.go t8 (by omega))); (try (have i_xlp163_2 := Imp.go xlp163_2 (by omega))); (try (have i_xlp163_3 := Imp.go xlp163_3 (by omega))); omega)), (show (V273 0 50).toInt = (V 0 50).toInt from by first | omega | ((try (have i_xlp163_3 := Imp.go xlp163_3 (by omega))); (try (have i_xlp163_2 := Imp.go xlp163_2 (by omega))); (try (have i_t8 := Imp.go t8 (by omega))); (try (have i_t8 := Imp.go t8 (by omega))); (try (have i_xlp163_2 := Imp.go xlp163_2 (by omega))); (try (have i_xlp163_3 := Imp.go xlp163_3 (by omega))); omega)), (show (V 0 48).toInt ≤ (V273 0 48).toInt from by first | omega | ((try (have i_xlp163_3 := Imp.go xlp163_3 (by omega))); (try (have i_xlp163_2 := Imp.go xlp163_2 (by omega))); (try (have i_t8 := Imp.go t8 (by omega))); (try (have i_t8 := Imp.go t8 (by omega))); (try (have i_xlp163_2 := Imp.go xlp163_2 (by omega))); (try (have i_xlp163_3 := Imp.go xlp163_3 (by omega))); omega)), (Or.inr ⟨(show 1 ≤ (V273 0 8).toInt from by omega), (fun k => by rw [show (V273 0 8).toInt = (V160 0 8).toInt from by omega]; exact hq k)⟩), rw280, rw281, rw282, rw283⟩, by rw [ht]; exact hP, va_K.moved hW.alike hK, hD⟩, hS.F ht⟩) hS.2.2 dX12_product_28
          · skip
            have f284 : z269.toInt ≠ 0 := b_neq rfl (by decide) c276
            exfalso; first | omega | ((try (have i_xlp163_3 := Imp.go xlp163_3 (by omega))); (try (have i_xlp163_2 := Imp.go xlp163_2 (by omega))); (try (have i_t8 := Imp.go t8 (by omega))); (try (have i_t8 := Imp.go t8 (by omega))); (try (have i_xlp163_2 := Imp.go xlp163_2 (by omega))); (try (have i_xlp163_3 := Imp.go xlp163_3 (by omega))); omega)
    have rw285 : RoV 35 bq V V17 := (fun k hk => ((t13 k hk).trans rfl))
    have rw286 : RoV 37 bq V V17 := (fun k hk => ((t14 k hk).trans rfl))
    have rw287 : RoL 36 20 bq L L18 := (fun k hk => ((t15 k hk).trans rfl))
    have rw288 : RoL 38 20 bq L L18 := (fun k hk => ((t16 k hk).trans rfl))
    exact lp163 ((((gn : Int) + 1) + 1 : Int).toNat) ((gn : Int) + 1) V17 L18 H locs ls (Or.inr ⟨(show 1 ≤ (V17 0 8).toInt from by omega), hb159⟩) (show 0 ≤ ((gn : Int) + 1) from by first | omega | ((try (have i_t8 := Imp.go t8 (by omega))); omega)) (Imp.mk (fun hp => have hp : (V17 0 8).toInt = 0 := hp; (show (gn : Int) - (V17 0 7).toInt < ((gn : Int) + 1) from by first | omega | ((try (have i_t8 := Imp.go t8 (by omega))); omega)))) (Imp.mk (fun hp => have hp : (V17 0 8).toInt = 0 := hp; (show (V17 0 48).toInt - (V 0 48).toInt ≤ 2 * ((V17 0 7).toInt - (V 0 7).toInt) from by first | omega | ((try (have i_t8 := Imp.go t8 (by omega))); omega)))) (show (V17 0 48).toInt ≤ 8049 - 6 * (V 0 50).toInt from by first | omega | ((try (have i_t8 := Imp.go t8 (by omega))); omega)) (show (V17 0 50).toInt = (V 0 50).toInt from by first | omega | ((try (have i_t8 := Imp.go t8 (by omega))); omega)) (show (V 0 48).toInt ≤ (V17 0 48).toInt from by first | omega | ((try (have i_t8 := Imp.go t8 (by omega))); omega)) rw285 rw286 rw287 rw288 (by first | omega | ((try (have i_t8 := Imp.go t8 (by omega))); omega)) alL18 agr.rf hMV17 hP hD hS (lv_sub hl [0] rfl)
set_option maxHeartbeats 4000000 in
set_option maxRecDepth 100000 in
theorem s_bracketedA {l : Launch} {D : va_G} {ks : KS} {dd : Nat} (hk_s_expressionA : K_s_expressionA l D ks dd) : K_s_bracketedA l D ks dd := by
  intro sz ad kk V L  bq gn gT gs gl gd hMV rel c1 yd c4 em
  refine g_met (q_s_bracketedA D ks ad kk V L  bq gn gT gs gl gd) (by decide) (Nat.le_of_ble_eq_true rfl) ?_
  intro p e s m below meth c A ls H locs hx hb hr hml hown hg hlocks hin hnw hgk hP hK hD hS hA hl
  have hown : s.vm.findClass RX12 = some m.cls := hown
  have hl : lv_has ls 1 [(0, .ref (ad 0))] := hl
  have hP : va_P D vwCl (mw ad kk ks.1 V L) H := hP
  have hD : va_D A (mw ad kk ks.1 V L) := hD
  have hK : va_K D vwCl (mty kk) s := hK
  have agV : agr [(0, 7), (0, 8), (0, 48), (0, 50)] [35, 36, 37, 38, 45, 46, 47] V V := agr.rf
  have alL : agL [35, 36, 37, 38, 45, 46, 47] L L := agL.rf
  have r1 : 0 ≤ ((V 0 48)).toInt ∧ ((V 0 48)).toInt ≤ 10000 := hMV 0 48
  have r2 : 0 ≤ ((V 0 50)).toInt ∧ ((V 0 50)).toInt ≤ 9 := hMV 0 50
  have rg0 := RelM.rg rel
  have cl0 := RelM.cl rel
  have cq0 := RelM.cq rel
  refine lv_aload_n hx hb dX12_bracketed_0 rfl (lv_at hl 0 rfl) ?_
  refine lv_bipush (v := 40) hx hb dX12_bracketed_1 (by decide) ?_
  have r3 : Int32.toInt 40 = 40 := by decide
  refine gA_void (gA_runV (As := [.int 40]) (rest := []) (ci := 12) (q0 := 0) hx hb hml hown hg hP hD hK hS hA hnw hgk (s_takeSignA l D ks H.size ad kk V L 40 (bq) (gn) (gT) (gs) (gl) hMV rel (sg_yes (j := 40) (by decide) (by decide) (by decide))) w2079 w2081 w96 w172 w2082 rfl rfl hdV_yX12_takeSign ⟨(by show 1 + 1 ≤ 10 * dd + 14; omega), (by show 8 + (2 + 11) + (21) ≤ 300 * dd + 460; omega)⟩ rfl hl.1 rfl (Nat.le_of_ble_eq_true rfl) dX12_bracketed_3 ⟨Nat.le_of_ble_eq_true rfl, Nat.le_of_ble_eq_true rfl⟩) hP hD hK hS hA (fun u5 H locs w6 hP hD hK hS => ?_)
  obtain ⟨V8, L9⟩ := u5
  obtain ⟨hMV8, ajV8, axL9, t7⟩ := w6
  have axL9 : L = L9 := Eq.symm axL9
  subst axL9
  have hP : va_P D vwCl (mw ad kk ks.1 V8 L) H := hP
  have hD : va_D A (mw ad kk ks.1 V8 L) := hD
  have hMV8 : rgd bM V8 := hMV8
  have ajV8 : agr [(0, 7), (0, 8)] [] V V8 := ajV8
  have agV8 : agr [(0, 7), (0, 8), (0, 48), (0, 50)] [35, 36, 37, 38, 45, 46, 47] V V8 := agV.tr ajV8 (by decide) (by decide)
  have t7 : ((V8 0 8).toInt = 0 ∧ (gT).1 ((gs).1 0) = (Int32.toInt 40) ∧ RelM V8 L (bq) (gn) (gT) (nx (gs) 1) (gl)) ∨ (1 ≤ (V8 0 8).toInt ∧ (gT).1 ((gs).1 0) ≠ (Int32.toInt 40) ∧ (V8 0 8).toInt = 1 + 16 * (gT).2.2 ((gs).1 0)) := t7
  have hr13 : ∀ k, Rc gT (Crun gs (Itake 40 :: Iexpr gd :: Itake 41 :: k)) (Crun gs (Itake 40 :: Iexpr gd :: Itake 41 :: k)) := fun k => Rc.rf
  rcases t7 with ⟨q10, h11, rl12⟩ | ⟨q10, h11, rl12⟩
  · skip
    have kd14 : gT.1 (gs.1 0) = 40 := h11.trans (by decide)
    have hr15 : ∀ k, Rc gT (Crun gs (Itake 40 :: Iexpr gd :: Itake 41 :: k)) (Crun (nx gs 1) (Iexpr gd :: Itake 41 :: k)) := fun k => Rc.go1 (hr13 k) (tk_y kd14)
    have ps16 : (nx gs 1).1 0 = gs.1 0 + 1 := rfl
    have fz17 := RelM.rg rl12
    have r18 : 0 ≤ ((V8 0 8)).toInt ∧ ((V8 0 8)).toInt ≤ 70000 := hMV8 0 8
    refine lv_aload_n hx hb dX12_bracketed_6 rfl (lv_at hl 0 rfl) ?_
    have pq19 : (V8 0 48).toInt = ((V 0 48)).toInt := congrArg Int32.toInt (ajV8 0 48 rfl)
    have pq20 : (V8 0 50).toInt = ((V 0 50)).toInt := congrArg Int32.toInt (ajV8 0 50 rfl)
    refine gA_void (gA_runV (As := []) (rest := []) (ci := 12) (q0 := 0) hx hb hml hown hg hP hD hK hS hA hnw hgk (hk_s_expressionA H.size ad kk V8 L (bq) (gn) (gT) ((nx gs 1)) (gl) (gd) hMV8 rl12 (show (V8 0 48).toInt ≤ 2 * (V8 0 7).toInt from by omega) (show (V8 0 50).toInt = ((gd) : Int) from by omega) (show (V8 0 50).toInt + (dd : Int) = 8 from by omega) (EM.mv em (ajV8 0 51 rfl) (ajV8 0 52 rfl) (by rw [(funext (fun q => ajV8 27 q rfl) : V8 27 = V 27)] : V8 27 = V 27) ((keepS.tr (keepS.rf : keepS gs 0 gs) (keepS.n1 1))).2.1)) w2120 w2122 w106 w172 w2123 rfl rfl hdV_yX12_expression ⟨(by show 10 * dd + 13 + 1 ≤ 10 * dd + 14; omega), (by show 8 + (3 + 11) + (300 * dd + 420) ≤ 300 * dd + 460; omega)⟩ rfl hl.1 rfl (Nat.le_of_ble_eq_true rfl) dX12_bracketed_7 ⟨Nat.le_of_ble_eq_true rfl, Nat.le_of_ble_eq_true rfl⟩) hP hD hK hS hA (fun u22 H locs w23 hP hD hK hS => ?_)
    obtain ⟨V33, L34⟩ := u22
    obtain ⟨hMV33, ajV33, axL34, t24, t25, t26, t27, t28, t29, t30, t31, t32⟩ := w23
    have alL34 : agL [35, 36, 37, 38, 45, 46, 47] L L34 := agL.tr alL axL34 (by decide)
    have hP : va_P D vwCl (mw ad kk ks.1 V33 L34) H := hP
    have hD : va_D A (mw ad kk ks.1 V33 L34) := hD
    have hMV33 : rgd bM V33 := hMV33
    have ajV33 : agr [(0, 7), (0, 8), (0, 48), (0, 50)] [35, 36, 37, 38, 45, 46, 47] V8 V33 := ajV33
    have agV33 : agr [(0, 7), (0, 8), (0, 48), (0, 50)] [35, 36, 37, 38, 45, 46, 47] V V33 := agV8.tr ajV33 (by decide) (by decide)
    have t24 : Imp ((V33 0 8).toInt = 0) ((V33 0 48).toInt - (V8 0 48).toInt ≤ 2 * ((V33 0 7).toInt - (V8 0 7).toInt)) := t24
    have t25 : (V33 0 48).toInt ≤ 8051 - 6 * (V8 0 50).toInt := t25
    have t26 : (V33 0 50).toInt = (V8 0 50).toInt := t26
    have t27 : (V8 0 48).toInt ≤ (V33 0 48).toInt := t27
    have t28 : RdM (gT) ((nx gs 1)) (fun k => Iexpr (gd) :: k) (fun k => k) (V33 0 8).toInt (fun s9 => RelM V33 L34 (bq) (gn) (gT) s9 (gl) ∧ keepS ((nx gs 1)) 1 s9) := t28
    have t29 : RoV 35 (bq) V8 V33 := t29
    have t30 : RoV 37 (bq) V8 V33 := t30
    have t31 : RoL 36 20 (bq) L L34 := t31
    have t32 : RoL 38 20 (bq) L L34 := t32
    have r35 : 0 ≤ ((V33 0 48)).toInt ∧ ((V33 0 48)).toInt ≤ 10000 := hMV33 0 48
    have r36 : 0 ≤ ((V33 0 8)).toInt ∧ ((V33 0 8)).toInt ≤ 70000 := hMV33 0 8
    have r37 : 0 ≤ ((V33 0 50)).toInt ∧ ((V33 0 50)).toInt ≤ 9 := hMV33 0 50
    rcases t28 with ⟨q38, sx39, h40, rl41, kp42⟩ | ⟨q38, h40⟩
    · skip
      have hr43 : ∀ k, Rc gT (Crun gs (Itake 40 :: Iexpr gd :: Itake 41 :: k)) (Crun sx39 (Itake 41 :: k)) := fun k => (hr15 k).tr (h40 (Itake 41 :: k))
      have fz44 := RelM.rg rl41
      have ps45 := (kp42).1
      refine lv_aload_n hx hb dX12_bracketed_10 rfl (lv_at hl 0 rfl) ?_
      refine lv_bipush (v := 41) hx hb dX12_bracketed_11 (by decide) ?_
      have r46 : Int32.toInt 41 = 41 := by decide
      refine gA_void (gA_runV (As := [.int 41]) (rest := []) (ci := 12) (q0 := 0) hx hb hml hown hg hP hD hK hS hA hnw hgk (s_takeSignA l D ks H.size ad kk V33 L34 41 (bq) (gn) (gT) (sx39) (gl) hMV33 rl41 (sg_yes (j := 41) (by decide) (by decide) (by decide))) w2079 w2081 w96 w172 w2082 rfl rfl hdV_yX12_takeSign ⟨(by show 1 + 1 ≤ 10 * dd + 14; omega), (by show 8 + (2 + 11) + (21) ≤ 300 * dd + 460; omega)⟩ rfl hl.1 rfl (Nat.le_of_ble_eq_true rfl) dX12_bracketed_13 ⟨Nat.le_of_ble_eq_true rfl, Nat.le_of_ble_eq_true rfl⟩) hP hD hK hS hA (fun u48 H locs w49 hP hD hK hS => ?_)
      obtain ⟨V51, L52⟩ := u48
      obtain ⟨hMV51, ajV51, axL52, t50⟩ := w49
      have axL52 : L34 = L52 := Eq.symm axL52
      subst axL52
      have hP : va_P D vwCl (mw ad kk ks.1 V51 L34) H := hP
      have hD : va_D A (mw ad kk ks.1 V51 L34) := hD
      have hMV51 : rgd bM V51 := hMV51
      have ajV51 : agr [(0, 7), (0, 8)] [] V33 V51 := ajV51
      have agV51 : agr [(0, 7), (0, 8), (0, 48), (0, 50)] [35, 36, 37, 38, 45, 46, 47] V V51 := agV33.tr ajV51 (by decide) (by decide)
      have t50 : ((V51 0 8).toInt = 0 ∧ (gT).1 ((sx39).1 0) = (Int32.toInt 41) ∧ RelM V51 L34 (bq) (gn) (gT) (nx (sx39) 1) (gl)) ∨ (1 ≤ (V51 0 8).toInt ∧ (gT).1 ((sx39).1 0) ≠ (Int32.toInt 41) ∧ (V51 0 8).toInt = 1 + 16 * (gT).2.2 ((sx39).1 0)) := t50
      rcases t50 with ⟨q53, h54, rl55⟩ | ⟨q53, h54, rl55⟩
      · skip
        have kd56 : gT.1 (sx39.1 0) = 41 := h54.trans (by decide)
        have hr57 : ∀ k, Rc gT (Crun gs (Itake 40 :: Iexpr gd :: Itake 41 :: k)) (Crun (nx sx39 1) (k)) := fun k => Rc.go1 (hr43 k) (tk_y kd56)
        have ps58 : (nx sx39 1).1 0 = sx39.1 0 + 1 := rfl
        have fz59 := RelM.rg rl55
        have r60 : 0 ≤ ((V51 0 8)).toInt ∧ ((V51 0 8)).toInt ≤ 70000 := hMV51 0 8
        have pq61 : (V51 0 48).toInt = ((V33 0 48)).toInt := congrArg Int32.toInt (ajV51 0 48 rfl)
        have pq62 : (V51 0 50).toInt = ((V33 0 50)).toInt := congrArg Int32.toInt (ajV51 0 50 rfl)
        have rw63 : RoV 35 bq V V51 := (fun k hk => ((ajV51 35 k rfl).trans ((t29 k hk).trans ((ajV8 35 k rfl).trans rfl))))
        have rw64 : RoV 37 bq V V51 := (fun k hk => ((ajV51 37 k rfl).trans ((t30 k hk).trans ((ajV8 37 k rfl).trans rfl))))
        have rw65 : RoL 36 20 bq L L34 := (fun k hk => ((t31 k hk).trans rfl))
        have rw66 : RoL 38 20 bq L L34 := (fun k hk => ((t32 k hk).trans rfl))
        exact W.vret hx hb hr (fun t ht hW => ⟨⟨(V51, L34), rfl, ⟨hMV51, agV51, alL34, (Imp.mk (fun hp => have hp : (V51 0 8).toInt = 0 := hp; (show (V51 0 48).toInt - (V 0 48).toInt ≤ 2 * ((V51 0 7).toInt - (V 0 7).toInt) from by first | omega | ((try (have i_t24 := Imp.go t24 (by omega))); omega)))), (show (V51 0 48).toInt ≤ 8052 - 6 * (V 0 50).toInt from by first | omega | ((try (have i_t24 := Imp.go t24 (by omega))); omega)), (show (V51 0 50).toInt = (V 0 50).toInt from by first | omega | ((try (have i_t24 := Imp.go t24 (by omega))); omega)), (show (V 0 48).toInt ≤ (V51 0 48).toInt from by first | omega | ((try (have i_t24 := Imp.go t24 (by omega))); omega)), (Or.inl ⟨W0 rl55, (nx sx39 1), hr57, rl55, keepS.le (keepS.tr (keepS.tr (keepS.tr (keepS.rf : keepS gs 0 gs) (keepS.n1 1)) kp42) (keepS.n1 1)) (by decide)⟩), rw63, rw64, rw65, rw66⟩, by rw [ht]; exact hP, va_K.moved hW.alike hK, hD⟩, hS.F ht⟩) hS.2.2 dX12_bracketed_16
      · skip
        have kd67 : gT.1 (sx39.1 0) ≠ 41 := fun h9 => h54 (h9.trans (by decide))
        have hb68 : ∀ k, Rc gT (Crun gs (Itake 40 :: Iexpr gd :: Itake 41 :: k)) (Cbad (V51 0 8).toInt) := fun k => Rc.go1 (hr43 k) ((tk_n kd67).trans (fl_eq rfl rl55))
        have r69 : 0 ≤ ((V51 0 8)).toInt ∧ ((V51 0 8)).toInt ≤ 70000 := hMV51 0 8
        have pq70 : (V51 0 48).toInt = ((V33 0 48)).toInt := congrArg Int32.toInt (ajV51 0 48 rfl)
        have pq71 : (V51 0 50).toInt = ((V33 0 50)).toInt := congrArg Int32.toInt (ajV51 0 50 rfl)
        have rw72 : RoV 35 bq V V51 := (fun k hk => ((ajV51 35 k rfl).trans ((t29 k hk).trans ((ajV8 35 k rfl).trans rfl))))
        have rw73 : RoV 37 bq V V51 := (fun k hk => ((ajV51 37 k rfl).trans ((t30 k hk).trans ((ajV8 37 k rfl).trans rfl))))
        have rw74 : RoL 36 20 bq L L34 := (fun k hk => ((t31 k hk).trans rfl))
        have rw75 : RoL 38 20 bq L L34 := (fun k hk => ((t32 k hk).trans rfl))
        exact W.vret hx hb hr (fun t ht hW => ⟨⟨(V51, L34), rfl, ⟨hMV51, agV51, alL34, (Imp.mk (fun hp => have hp : (V51 0 8).toInt = 0 := hp; (show (V51 0 48).toInt - (V 0 48).toInt ≤ 2 * ((V51 0 7).toInt - (V 0 7).toInt) from by first | omega | ((try (have i_t24 := Imp.go t24 (by omega))); omega)))), (show (V51 0 48).toInt ≤ 8052 - 6 * (V 0 50).toInt from by first | omega | ((try (have i_t24 := Imp.go t24 (by omega))); omega)), (show (V51 0 50).toInt = (V 0 50).toInt from by first | omega | ((try (have i_t24 := Imp.go t24 (by omega))); omega)), (show (V 0 48).toInt ≤ (V51 0 48).toInt from by first | omega | ((try (have i_t24 := Imp.go t24 (by omega))); omega)), (Or.inr ⟨(show 1 ≤ (V51 0 8).toInt from by omega), hb68⟩), rw72, rw73, rw74, rw75⟩, by rw [ht]; exact hP, va_K.moved hW.alike hK, hD⟩, hS.F ht⟩) hS.2.2 dX12_bracketed_16
    · skip
      have hb76 : ∀ k, Rc gT (Crun gs (Itake 40 :: Iexpr gd :: Itake 41 :: k)) (Cbad (V33 0 8).toInt) := fun k => (hr15 k).tr (h40 (Itake 41 :: k))
      refine lv_aload_n hx hb dX12_bracketed_10 rfl (lv_at hl 0 rfl) ?_
      refine lv_bipush (v := 41) hx hb dX12_bracketed_11 (by decide) ?_
      have r77 : Int32.toInt 41 = 41 := by decide
      refine gA_void (gA_runV (As := [.int 41]) (rest := []) (ci := 12) (q0 := 0) hx hb hml hown hg hP hD hK hS hA hnw hgk (s_takeSignB l D ks H.size ad kk V33 L34 41 hMV33 (show 1 ≤ (V33 0 8).toInt from by first | omega | ((try (have i_t24 := Imp.go t24 (by omega))); omega))) w2079 w2081 w96 w172 w2082 rfl rfl hdV_yX12_takeSign ⟨(by show 1 + 1 ≤ 10 * dd + 14; omega), (by show 8 + (2 + 11) + (21) ≤ 300 * dd + 460; omega)⟩ rfl hl.1 rfl (Nat.le_of_ble_eq_true rfl) dX12_bracketed_13 ⟨Nat.le_of_ble_eq_true rfl, Nat.le_of_ble_eq_true rfl⟩) hP hD hK hS hA (fun u79 H locs w80 hP hD hK hS => ?_)
      obtain ⟨V82, L83⟩ := u79
      obtain ⟨hMV82, ajV82, axL83, t81⟩ := w80
      have axL83 : L34 = L83 := Eq.symm axL83
      subst axL83
      have hP : va_P D vwCl (mw ad kk ks.1 V82 L34) H := hP
      have hD : va_D A (mw ad kk ks.1 V82 L34) := hD
      have hMV82 : rgd bM V82 := hMV82
      have ajV82 : agr [(0, 7), (0, 8)] [] V33 V82 := ajV82
      have agV82 : agr [(0, 7), (0, 8), (0, 48), (0, 50)] [35, 36, 37, 38, 45, 46, 47] V V82 := agV33.tr ajV82 (by decide) (by decide)
      have t81 : (V82 0 8).toInt = (V33 0 8).toInt := t81
      have r84 : 0 ≤ ((V82 0 8)).toInt ∧ ((V82 0 8)).toInt ≤ 70000 := hMV82 0 8
      have pq85 : (V82 0 48).toInt = ((V33 0 48)).toInt := congrArg Int32.toInt (ajV82 0 48 rfl)
      have pq86 : (V82 0 50).toInt = ((V33 0 50)).toInt := congrArg Int32.toInt (ajV82 0 50 rfl)
      have rw87 : RoV 35 bq V V82 := (fun k hk => ((ajV82 35 k rfl).trans ((t29 k hk).trans ((ajV8 35 k rfl).trans rfl))))
      have rw88 : RoV 37 bq V V82 := (fun k hk => ((ajV82 37 k rfl).trans ((t30 k hk).trans ((ajV8 37 k rfl).trans rfl))))
      have rw89 : RoL 36 20 bq L L34 := (fun k hk => ((t31 k hk).trans rfl))
      have rw90 : RoL 38 20 bq L L34 := (fun k hk => ((t32 k hk).trans rfl))
      exact W.vret hx hb hr (fun t ht hW => ⟨⟨(V82, L34), rfl, ⟨hMV82, agV82, alL34, (Imp.mk (fun hp => have hp : (V82 0 8).toInt = 0 := hp; (show (V82 0 48).toInt - (V 0 48).toInt ≤ 2 * ((V82 0 7).toInt - (V 0 7).toInt) from by first | omega | ((try (have i_t24 := Imp.go t24 (by omega))); omega)))), (show (V82 0 48).toInt ≤ 8052 - 6 * (V 0 50).toInt from by first | omega | ((try (have i_t24 := Imp.go t24 (by omega))); omega)), (show (V82 0 50).toInt = (V 0 50).toInt from by first | omega | ((try (have i_t24 := Imp.go t24 (by omega))); omega)), (show (V 0 48).toInt ≤ (V82 0 48).toInt from by first | omega | ((try (have i_t24 := Imp.go t24 (by omega))); omega)), (Or.inr ⟨(show 1 ≤ (V82 0 8).toInt from by omega), (fun k => by rw [show (V82 0 8).toInt = (V33 0 8).toInt from by omega]; exact hb76 k)⟩), rw87, rw88, rw89, rw90⟩, by rw [ht]; exact hP, va_K.moved hW.alike hK, hD⟩, hS.F ht⟩) hS.2.2 dX12_bracketed_16
  · skip
    have kd91 : gT.1 (gs.1 0) ≠ 40 := fun h9 => h11 (h9.trans (by decide))
    have hb92 : ∀ k, Rc gT (Crun gs (Itake 40 :: Iexpr gd :: Itake 41 :: k)) (Cbad (V8 0 8).toInt) := fun k => Rc.go1 (hr13 k) ((tk_n kd91).trans (fl_eq rfl rl12))
    have r93 : 0 ≤ ((V8 0 8)).toInt ∧ ((V8 0 8)).toInt ≤ 70000 := hMV8 0 8
    refine lv_aload_n hx hb dX12_bracketed_6 rfl (lv_at hl 0 rfl) ?_
    have pq94 : (V8 0 50).toInt = ((V 0 50)).toInt := congrArg Int32.toInt (ajV8 0 50 rfl)
    refine gA_void (gA_runV (As := []) (rest := []) (ci := 12) (q0 := 0) hx hb hml hown hg hP hD hK hS hA hnw hgk (s_expressionB l D ks H.size ad kk V8 L  hMV8 (show 1 ≤ (V8 0 8).toInt from by omega) (show (V8 0 50).toInt ≤ 8 from by omega)) w2120 w2122 w106 w172 w2123 rfl rfl hdV_yX12_expression ⟨(by show 4 + 1 ≤ 10 * dd + 14; omega), (by show 8 + (3 + 11) + (86) ≤ 300 * dd + 460; omega)⟩ rfl hl.1 rfl (Nat.le_of_ble_eq_true rfl) dX12_bracketed_7 ⟨Nat.le_of_ble_eq_true rfl, Nat.le_of_ble_eq_true rfl⟩) hP hD hK hS hA (fun u96 H locs w97 hP hD hK hS => ?_)
    obtain ⟨V105, L106⟩ := u96
    obtain ⟨hMV105, ajV105, axL106, t98, t99, t100, t101, t102, t103, t104⟩ := w97
    have alL106 : agL [35, 36, 37, 38, 45, 46, 47] L L106 := agL.tr alL axL106 (by decide)
    have hP : va_P D vwCl (mw ad kk ks.1 V105 L106) H := hP
    have hD : va_D A (mw ad kk ks.1 V105 L106) := hD
    have hMV105 : rgd bM V105 := hMV105
    have ajV105 : agr [(0, 7), (0, 8), (0, 48), (0, 50)] [35, 36, 37, 38, 45, 46, 47] V8 V105 := ajV105
    have agV105 : agr [(0, 7), (0, 8), (0, 48), (0, 50)] [35, 36, 37, 38, 45, 46, 47] V V105 := agV8.tr ajV105 (by decide) (by decide)
    have t98 : (V105 0 48).toInt = (V8 0 48).toInt := t98
    have t99 : (V105 0 50).toInt = (V8 0 50).toInt := t99
    have t100 : (V105 0 8).toInt = (V8 0 8).toInt := t100
    have t101 : NoV 35 V8 V105 := t101
    have t102 : NoV 37 V8 V105 := t102
    have t103 : NoL 36 L L106 := t103
    have t104 : NoL 38 L L106 := t104
    have pq107 : (V8 0 48).toInt = ((V 0 48)).toInt := congrArg Int32.toInt (ajV8 0 48 rfl)
    have r108 : 0 ≤ ((V105 0 48)).toInt ∧ ((V105 0 48)).toInt ≤ 10000 := hMV105 0 48
    have r109 : 0 ≤ ((V105 0 50)).toInt ∧ ((V105 0 50)).toInt ≤ 9 := hMV105 0 50
    have r110 : 0 ≤ ((V105 0 8)).toInt ∧ ((V105 0 8)).toInt ≤ 70000 := hMV105 0 8
    refine lv_aload_n hx hb dX12_bracketed_10 rfl (lv_at hl 0 rfl) ?_
    refine lv_bipush (v := 41) hx hb dX12_bracketed_11 (by decide) ?_
    have r111 : Int32.toInt 41 = 41 := by decide
    refine gA_void (gA_runV (As := [.int 41]) (rest := []) (ci := 12) (q0 := 0) hx hb hml hown hg hP hD hK hS hA hnw hgk (s_takeSignB l D ks H.size ad kk V105 L106 41 hMV105 (show 1 ≤ (V105 0 8).toInt from by omega)) w2079 w2081 w96 w172 w2082 rfl rfl hdV_yX12_takeSign ⟨(by show 1 + 1 ≤ 10 * dd + 14; omega), (by show 8 + (2 + 11) + (21) ≤ 300 * dd + 460; omega)⟩ rfl hl.1 rfl (Nat.le_of_ble_eq_true rfl) dX12_bracketed_13 ⟨Nat.le_of_ble_eq_true rfl, Nat.le_of_ble_eq_true rfl⟩) hP hD hK hS hA (fun u113 H locs w114 hP hD hK hS => ?_)
    obtain ⟨V116, L117⟩ := u113
    obtain ⟨hMV116, ajV116, axL117, t115⟩ := w114
    have axL117 : L106 = L117 := Eq.symm axL117
    subst axL117
    have hP : va_P D vwCl (mw ad kk ks.1 V116 L106) H := hP
    have hD : va_D A (mw ad kk ks.1 V116 L106) := hD
    have hMV116 : rgd bM V116 := hMV116
    have ajV116 : agr [(0, 7), (0, 8)] [] V105 V116 := ajV116
    have agV116 : agr [(0, 7), (0, 8), (0, 48), (0, 50)] [35, 36, 37, 38, 45, 46, 47] V V116 := agV105.tr ajV116 (by decide) (by decide)
    have t115 : (V116 0 8).toInt = (V105 0 8).toInt := t115
    have r118 : 0 ≤ ((V116 0 8)).toInt ∧ ((V116 0 8)).toInt ≤ 70000 := hMV116 0 8
    have pq119 : (V116 0 48).toInt = ((V105 0 48)).toInt := congrArg Int32.toInt (ajV116 0 48 rfl)
    have pq120 : (V116 0 50).toInt = ((V105 0 50)).toInt := congrArg Int32.toInt (ajV116 0 50 rfl)
    have rw121 : RoV 35 bq V V116 := (fun k hk => ((ajV116 35 k rfl).trans ((t101 k).trans ((ajV8 35 k rfl).trans rfl))))
    have rw122 : RoV 37 bq V V116 := (fun k hk => ((ajV116 37 k rfl).trans ((t102 k).trans ((ajV8 37 k rfl).trans rfl))))
    have rw123 : RoL 36 20 bq L L106 := (fun k hk => ((t103 k).trans rfl))
    have rw124 : RoL 38 20 bq L L106 := (fun k hk => ((t104 k).trans rfl))
    exact W.vret hx hb hr (fun t ht hW => ⟨⟨(V116, L106), rfl, ⟨hMV116, agV116, alL106, (Imp.mk (fun hp => have hp : (V116 0 8).toInt = 0 := hp; (show (V116 0 48).toInt - (V 0 48).toInt ≤ 2 * ((V116 0 7).toInt - (V 0 7).toInt) from by omega))), (show (V116 0 48).toInt ≤ 8052 - 6 * (V 0 50).toInt from by omega), (show (V116 0 50).toInt = (V 0 50).toInt from by omega), (show (V 0 48).toInt ≤ (V116 0 48).toInt from by omega), (Or.inr ⟨(show 1 ≤ (V116 0 8).toInt from by omega), (fun k => by rw [show (V116 0 8).toInt = (V8 0 8).toInt from by omega]; exact hb92 k)⟩), rw121, rw122, rw123, rw124⟩, by rw [ht]; exact hP, va_K.moved hW.alike hK, hD⟩, hS.F ht⟩) hS.2.2 dX12_bracketed_16
set_option maxHeartbeats 4000000 in
set_option maxRecDepth 100000 in
theorem s_pickA {l : Launch} {D : va_G} {ks : KS} {dd : Nat} (hk_s_expressionA : K_s_expressionA l D ks dd) : K_s_pickA l D ks dd := by
  intro sz ad kk V L  bq gn gT gs gl gd hMV rel c1 yd c4 em
  refine g_met (q_s_pickA D ks ad kk V L  bq gn gT gs gl gd) (by decide) (Nat.le_of_ble_eq_true rfl) ?_
  intro p e s m below meth c A ls H locs hx hb hr hml hown hg hlocks hin hnw hgk hP hK hD hS hA hl
  have hown : s.vm.findClass RX12 = some m.cls := hown
  have hl : lv_has ls 3 [(0, .ref (ad 0))] := hl
  have hP : va_P D vwCl (mw ad kk ks.1 V L) H := hP
  have hD : va_D A (mw ad kk ks.1 V L) := hD
  have hK : va_K D vwCl (mty kk) s := hK
  have agV : agr [(0, 7), (0, 8), (0, 48), (0, 50)] [35, 36, 37, 38, 45, 46, 47] V V := agr.rf
  have alL : agL [35, 36, 37, 38, 45, 46, 47] L L := agL.rf
  have r1 : 0 ≤ ((V 0 48)).toInt ∧ ((V 0 48)).toInt ≤ 10000 := hMV 0 48
  have r2 : 0 ≤ ((V 0 50)).toInt ∧ ((V 0 50)).toInt ≤ 9 := hMV 0 50
  have rg0 := RelM.rg rel
  have cl0 := RelM.cl rel
  have cq0 := RelM.cq rel
  refine lv_aload_n hx hb dX12_pick_0 rfl (lv_at hl 0 rfl) ?_
  refine lv_bipush (v := 40) hx hb dX12_pick_1 (by decide) ?_
  have r3 : Int32.toInt 40 = 40 := by decide
  refine gA_void (gA_runV (As := [.int 40]) (rest := []) (ci := 12) (q0 := 0) hx hb hml hown hg hP hD hK hS hA hnw hgk (s_takeSignA l D ks H.size ad kk V L 40 (bq) (gn) (gT) (gs) (gl) hMV rel (sg_yes (j := 40) (by decide) (by decide) (by decide))) w2079 w2081 w96 w172 w2082 rfl rfl hdV_yX12_takeSign ⟨(by show 1 + 1 ≤ 10 * dd + 14; omega), (by show 8 + (2 + 11) + (21) ≤ 300 * dd + 460; omega)⟩ rfl hl.1 rfl (Nat.le_of_ble_eq_true rfl) dX12_pick_3 ⟨Nat.le_of_ble_eq_true rfl, Nat.le_of_ble_eq_true rfl⟩) hP hD hK hS hA (fun u5 H locs w6 hP hD hK hS => ?_)
  obtain ⟨V8, L9⟩ := u5
  obtain ⟨hMV8, ajV8, axL9, t7⟩ := w6
  have axL9 : L = L9 := Eq.symm axL9
  subst axL9
  have hP : va_P D vwCl (mw ad kk ks.1 V8 L) H := hP
  have hD : va_D A (mw ad kk ks.1 V8 L) := hD
  have hMV8 : rgd bM V8 := hMV8
  have ajV8 : agr [(0, 7), (0, 8)] [] V V8 := ajV8
  have agV8 : agr [(0, 7), (0, 8), (0, 48), (0, 50)] [35, 36, 37, 38, 45, 46, 47] V V8 := agV.tr ajV8 (by decide) (by decide)
  have t7 : ((V8 0 8).toInt = 0 ∧ (gT).1 ((gs).1 0) = (Int32.toInt 40) ∧ RelM V8 L (bq) (gn) (gT) (nx (gs) 1) (gl)) ∨ (1 ≤ (V8 0 8).toInt ∧ (gT).1 ((gs).1 0) ≠ (Int32.toInt 40) ∧ (V8 0 8).toInt = 1 + 16 * (gT).2.2 ((gs).1 0)) := t7
  have hr13 : ∀ k, Rc gT (Crun gs (Itake 40 :: Iexpr gd :: Itake 44 :: Iexpr gd :: Itake 44 :: Iexpr gd :: Itake 41 :: k)) (Crun gs (Itake 40 :: Iexpr gd :: Itake 44 :: Iexpr gd :: Itake 44 :: Iexpr gd :: Itake 41 :: k)) := fun k => Rc.rf
  rcases t7 with ⟨q10, h11, rl12⟩ | ⟨q10, h11, rl12⟩
  · skip
    have kd14 : gT.1 (gs.1 0) = 40 := h11.trans (by decide)
    have hr15 : ∀ k, Rc gT (Crun gs (Itake 40 :: Iexpr gd :: Itake 44 :: Iexpr gd :: Itake 44 :: Iexpr gd :: Itake 41 :: k)) (Crun (nx gs 1) (Iexpr gd :: Itake 44 :: Iexpr gd :: Itake 44 :: Iexpr gd :: Itake 41 :: k)) := fun k => Rc.go1 (hr13 k) (tk_y kd14)
    have ps16 : (nx gs 1).1 0 = gs.1 0 + 1 := rfl
    have fz17 := RelM.rg rl12
    have r18 : 0 ≤ ((V8 0 8)).toInt ∧ ((V8 0 8)).toInt ≤ 70000 := hMV8 0 8
    refine lv_aload_n hx hb dX12_pick_6 rfl (lv_at hl 0 rfl) ?_
    have pq19 : (V8 0 48).toInt = ((V 0 48)).toInt := congrArg Int32.toInt (ajV8 0 48 rfl)
    have pq20 : (V8 0 50).toInt = ((V 0 50)).toInt := congrArg Int32.toInt (ajV8 0 50 rfl)
    refine gA_void (gA_runV (As := []) (rest := []) (ci := 12) (q0 := 0) hx hb hml hown hg hP hD hK hS hA hnw hgk (hk_s_expressionA H.size ad kk V8 L (bq) (gn) (gT) ((nx gs 1)) (gl) (gd) hMV8 rl12 (show (V8 0 48).toInt ≤ 2 * (V8 0 7).toInt from by omega) (show (V8 0 50).toInt = ((gd) : Int) from by omega) (show (V8 0 50).toInt + (dd : Int) = 8 from by omega) (EM.mv em (ajV8 0 51 rfl) (ajV8 0 52 rfl) (by rw [(funext (fun q => ajV8 27 q rfl) : V8 27 = V 27)] : V8 27 = V 27) ((keepS.tr (keepS.rf : keepS gs 0 gs) (keepS.n1 1))).2.1)) w2120 w2122 w106 w172 w2123 rfl rfl hdV_yX12_expression ⟨(by show 10 * dd + 13 + 1 ≤ 10 * dd + 14; omega), (by show 8 + (3 + 11) + (300 * dd + 420) ≤ 300 * dd + 460; omega)⟩ rfl hl.1 rfl (Nat.le_of_ble_eq_true rfl) dX12_pick_7 ⟨Nat.le_of_ble_eq_true rfl, Nat.le_of_ble_eq_true rfl⟩) hP hD hK hS hA (fun u22 H locs w23 hP hD hK hS => ?_)
    obtain ⟨V33, L34⟩ := u22
    obtain ⟨hMV33, ajV33, axL34, t24, t25, t26, t27, t28, t29, t30, t31, t32⟩ := w23
    have alL34 : agL [35, 36, 37, 38, 45, 46, 47] L L34 := agL.tr alL axL34 (by decide)
    have hP : va_P D vwCl (mw ad kk ks.1 V33 L34) H := hP
    have hD : va_D A (mw ad kk ks.1 V33 L34) := hD
    have hMV33 : rgd bM V33 := hMV33
    have ajV33 : agr [(0, 7), (0, 8), (0, 48), (0, 50)] [35, 36, 37, 38, 45, 46, 47] V8 V33 := ajV33
    have agV33 : agr [(0, 7), (0, 8), (0, 48), (0, 50)] [35, 36, 37, 38, 45, 46, 47] V V33 := agV8.tr ajV33 (by decide) (by decide)
    have t24 : Imp ((V33 0 8).toInt = 0) ((V33 0 48).toInt - (V8 0 48).toInt ≤ 2 * ((V33 0 7).toInt - (V8 0 7).toInt)) := t24
    have t25 : (V33 0 48).toInt ≤ 8051 - 6 * (V8 0 50).toInt := t25
    have t26 : (V33 0 50).toInt = (V8 0 50).toInt := t26
    have t27 : (V8 0 48).toInt ≤ (V33 0 48).toInt := t27
    have t28 : RdM (gT) ((nx gs 1)) (fun k => Iexpr (gd) :: k) (fun k => k) (V33 0 8).toInt (fun s9 => RelM V33 L34 (bq) (gn) (gT) s9 (gl) ∧ keepS ((nx gs 1)) 1 s9) := t28
    have t29 : RoV 35 (bq) V8 V33 := t29
    have t30 : RoV 37 (bq) V8 V33 := t30
    have t31 : RoL 36 20 (bq) L L34 := t31
    have t32 : RoL 38 20 (bq) L L34 := t32
    have r35 : 0 ≤ ((V33 0 48)).toInt ∧ ((V33 0 48)).toInt ≤ 10000 := hMV33 0 48
    have r36 : 0 ≤ ((V33 0 8)).toInt ∧ ((V33 0 8)).toInt ≤ 70000 := hMV33 0 8
    have r37 : 0 ≤ ((V33 0 50)).toInt ∧ ((V33 0 50)).toInt ≤ 9 := hMV33 0 50
    rcases t28 with ⟨q38, sx39, h40, rl41, kp42⟩ | ⟨q38, h40⟩
    · skip
      have hr43 : ∀ k, Rc gT (Crun gs (Itake 40 :: Iexpr gd :: Itake 44 :: Iexpr gd :: Itake 44 :: Iexpr gd :: Itake 41 :: k)) (Crun sx39 (Itake 44 :: Iexpr gd :: Itake 44 :: Iexpr gd :: Itake 41 :: k)) := fun k => (hr15 k).tr (h40 (Itake 44 :: Iexpr gd :: Itake 44 :: Iexpr gd :: Itake 41 :: k))
      have fz44 := RelM.rg rl41
      have ps45 := (kp42).1
      refine lv_aload_n hx hb dX12_pick_10 rfl (lv_at hl 0 rfl) ?_
      refine lv_bipush (v := 44) hx hb dX12_pick_11 (by decide) ?_
      have r46 : Int32.toInt 44 = 44 := by decide
      refine gA_void (gA_runV (As := [.int 44]) (rest := []) (ci := 12) (q0 := 0) hx hb hml hown hg hP hD hK hS hA hnw hgk (s_takeSignA l D ks H.size ad kk V33 L34 44 (bq) (gn) (gT) (sx39) (gl) hMV33 rl41 (sg_yes (j := 44) (by decide) (by decide) (by decide))) w2079 w2081 w96 w172 w2082 rfl rfl hdV_yX12_takeSign ⟨(by show 1 + 1 ≤ 10 * dd + 14; omega), (by show 8 + (2 + 11) + (21) ≤ 300 * dd + 460; omega)⟩ rfl hl.1 rfl (Nat.le_of_ble_eq_true rfl) dX12_pick_13 ⟨Nat.le_of_ble_eq_true rfl, Nat.le_of_ble_eq_true rfl⟩) hP hD hK hS hA (fun u48 H locs w49 hP hD hK hS => ?_)
      obtain ⟨V51, L52⟩ := u48
      obtain ⟨hMV51, ajV51, axL52, t50⟩ := w49
      have axL52 : L34 = L52 := Eq.symm axL52
      subst axL52
      have hP : va_P D vwCl (mw ad kk ks.1 V51 L34) H := hP
      have hD : va_D A (mw ad kk ks.1 V51 L34) := hD
      have hMV51 : rgd bM V51 := hMV51
      have ajV51 : agr [(0, 7), (0, 8)] [] V33 V51 := ajV51
      have agV51 : agr [(0, 7), (0, 8), (0, 48), (0, 50)] [35, 36, 37, 38, 45, 46, 47] V V51 := agV33.tr ajV51 (by decide) (by decide)
      have t50 : ((V51 0 8).toInt = 0 ∧ (gT).1 ((sx39).1 0) = (Int32.toInt 44) ∧ RelM V51 L34 (bq) (gn) (gT) (nx (sx39) 1) (gl)) ∨ (1 ≤ (V51 0 8).toInt ∧ (gT).1 ((sx39).1 0) ≠ (Int32.toInt 44) ∧ (V51 0 8).toInt = 1 + 16 * (gT).2.2 ((sx39).1 0)) := t50
      rcases t50 with ⟨q53, h54, rl55⟩ | ⟨q53, h54, rl55⟩
      · skip
        have kd56 : gT.1 (sx39.1 0) = 44 := h54.trans (by decide)
        have hr57 : ∀ k, Rc gT (Crun gs (Itake 40 :: Iexpr gd :: Itake 44 :: Iexpr gd :: Itake 44 :: Iexpr gd :: Itake 41 :: k)) (Crun (nx sx39 1) (Iexpr gd :: Itake 44 :: Iexpr gd :: Itake 41 :: k)) := fun k => Rc.go1 (hr43 k) (tk_y kd56)
        have ps58 : (nx sx39 1).1 0 = sx39.1 0 + 1 := rfl
        have fz59 := RelM.rg rl55
        have r60 : 0 ≤ ((V51 0 8)).toInt ∧ ((V51 0 8)).toInt ≤ 70000 := hMV51 0 8
        refine lv_aload_n hx hb dX12_pick_16 rfl (lv_at hl 0 rfl) ?_
        refine lv_bipush (v := 12) hx hb dX12_pick_17 (by decide) ?_
        refine lv_iconst (v := 0) hx hb dX12_pick_19 (by decide) ?_
        refine lv_iconst (v := 0) hx hb dX12_pick_20 (by decide) ?_
        have r61 : Int32.toInt 12 = 12 := by decide
        have r62 : Int32.toInt 0 = 0 := by decide
        have pq63 : (V51 0 48).toInt = ((V33 0 48)).toInt := congrArg Int32.toInt (ajV51 0 48 rfl)
        refine gA_int (gA_runV (As := [.int 12, .int 0, .int 0]) (rest := []) (ci := 12) (q0 := 0) hx hb hml hown hg hP hD hK hS hA hnw hgk (s_emit3 l D ks H.size ad kk V51 L34 12 0 0 hMV51 (show (V51 0 48).toInt ≤ 9999 from by first | omega | ((try (have i_t24 := Imp.go t24 (by omega))); omega))) w2140 w2142 w111 w172 w2143 rfl rfl hdV_yX12_emit ⟨(by show 0 + 1 ≤ 10 * dd + 14; omega), (by show 8 + (4 + 11) + (0) ≤ 300 * dd + 460; omega)⟩ rfl hl.1 rfl (Nat.le_of_ble_eq_true rfl) dX12_pick_21 ⟨Nat.le_of_ble_eq_true rfl, Nat.le_of_ble_eq_true rfl⟩) hP hD hK hS hA (fun z64 u65 H locs w66 hP hD hK hS => ?_)
        obtain ⟨V70, L71⟩ := u65
        obtain ⟨hMV70, ajV70, axL71, rgz64, t67, t68, t69⟩ := w66
        have axL71 : L34 = L71 := Eq.symm axL71
        subst axL71
        have hP : va_P D vwCl (mw ad kk ks.1 V70 L34) H := hP
        have hD : va_D A (mw ad kk ks.1 V70 L34) := hD
        have hMV70 : rgd bM V70 := hMV70
        have ajV70 : agr [(0, 48)] [45, 46, 47] V51 V70 := ajV70
        have agV70 : agr [(0, 7), (0, 8), (0, 48), (0, 50)] [35, 36, 37, 38, 45, 46, 47] V V70 := agV51.tr ajV70 (by decide) (by decide)
        have rgz64 : 0 ≤ z64.toInt ∧ z64.toInt ≤ 20000 := rgz64
        have t67 : (V70 0 48).toInt = (V51 0 48).toInt + 1 := t67
        have t68 : z64.toInt = (V51 0 49).toInt + (V51 0 48).toInt := t68
        have t69 : emitted V51 V70 (pA V51) 12 0 0 := t69
        have r72 : 0 ≤ ((V70 0 48)).toInt ∧ ((V70 0 48)).toInt ≤ 10000 := hMV70 0 48
        have pq73 : (V51 0 49).toInt = ((V 0 49)).toInt := congrArg Int32.toInt ((ajV51 0 49 rfl).trans ((ajV33 0 49 rfl).trans (ajV8 0 49 rfl)))
        have r74 : 0 ≤ ((V 0 49)).toInt ∧ ((V 0 49)).toInt ≤ 10000 := hMV 0 49
        refine lv_istore_n (lv' := [(1, .int z64), (0, .ref (ad 0))]) hx hb dX12_pick_24 rfl hl (by decide) rfl (fun ls hl => ?_)
        refine lv_aload_n hx hb dX12_pick_25 rfl (lv_at hl 1 rfl) ?_
        have rl75 : RelM V70 L34 bq gn gT (nx sx39 1) gl := RelM.ag rl55 (show agr [(0, 48)] [45, 46, 47] V51 V70 from (agr.tr agr.rf ajV70 (by decide) (by decide))) (by decide) (show agL [] L34 L34 from agL.rf) (by decide)
        have pq76 : (V70 0 7).toInt = ((V51 0 7)).toInt := congrArg Int32.toInt (ajV70 0 7 rfl)
        have pq77 : (V70 0 50).toInt = ((V33 0 50)).toInt := congrArg Int32.toInt ((ajV70 0 50 rfl).trans (ajV51 0 50 rfl))
        refine gA_void (gA_runV (As := []) (rest := []) (ci := 12) (q0 := 0) hx hb hml hown hg hP hD hK hS hA hnw hgk (hk_s_expressionA H.size ad kk V70 L34 (bq) (gn) (gT) ((nx sx39 1)) (gl) (gd) hMV70 rl75 (show (V70 0 48).toInt ≤ 2 * (V70 0 7).toInt from by first | omega | ((try (have i_t24 := Imp.go t24 (by omega))); omega)) (show (V70 0 50).toInt = ((gd) : Int) from by first | omega | ((try (have i_t24 := Imp.go t24 (by omega))); omega)) (show (V70 0 50).toInt + (dd : Int) = 8 from by first | omega | ((try (have i_t24 := Imp.go t24 (by omega))); omega)) (EM.mv em ((ajV70 0 51 rfl).trans ((ajV51 0 51 rfl).trans ((ajV33 0 51 rfl).trans (ajV8 0 51 rfl)))) ((ajV70 0 52 rfl).trans ((ajV51 0 52 rfl).trans ((ajV33 0 52 rfl).trans (ajV8 0 52 rfl)))) (by rw [(funext (fun q => ajV70 27 q rfl) : V70 27 = V51 27), (funext (fun q => ajV51 27 q rfl) : V51 27 = V33 27), (funext (fun q => ajV33 27 q rfl) : V33 27 = V8 27), (funext (fun q => ajV8 27 q rfl) : V8 27 = V 27)] : V70 27 = V 27) ((keepS.tr (keepS.tr (keepS.tr (keepS.rf : keepS gs 0 gs) (keepS.n1 1)) kp42) (keepS.n1 1))).2.1)) w2120 w2122 w106 w172 w2123 rfl rfl hdV_yX12_expression ⟨(by show 10 * dd + 13 + 1 ≤ 10 * dd + 14; omega), (by show 8 + (3 + 11) + (300 * dd + 420) ≤ 300 * dd + 460; omega)⟩ rfl hl.1 rfl (Nat.le_of_ble_eq_true rfl) dX12_pick_26 ⟨Nat.le_of_ble_eq_true rfl, Nat.le_of_ble_eq_true rfl⟩) hP hD hK hS hA (fun u79 H locs w80 hP hD hK hS => ?_)
        obtain ⟨V90, L91⟩ := u79
        obtain ⟨hMV90, ajV90, axL91, t81, t82, t83, t84, t85, t86, t87, t88, t89⟩ := w80
        have alL91 : agL [35, 36, 37, 38, 45, 46, 47] L L91 := agL.tr alL34 axL91 (by decide)
        have hP : va_P D vwCl (mw ad kk ks.1 V90 L91) H := hP
        have hD : va_D A (mw ad kk ks.1 V90 L91) := hD
        have hMV90 : rgd bM V90 := hMV90
        have ajV90 : agr [(0, 7), (0, 8), (0, 48), (0, 50)] [35, 36, 37, 38, 45, 46, 47] V70 V90 := ajV90
        have agV90 : agr [(0, 7), (0, 8), (0, 48), (0, 50)] [35, 36, 37, 38, 45, 46, 47] V V90 := agV70.tr ajV90 (by decide) (by decide)
        have t81 : Imp ((V90 0 8).toInt = 0) ((V90 0 48).toInt - (V70 0 48).toInt ≤ 2 * ((V90 0 7).toInt - (V70 0 7).toInt)) := t81
        have t82 : (V90 0 48).toInt ≤ 8051 - 6 * (V70 0 50).toInt := t82
        have t83 : (V90 0 50).toInt = (V70 0 50).toInt := t83
        have t84 : (V70 0 48).toInt ≤ (V90 0 48).toInt := t84
        have t85 : RdM (gT) ((nx sx39 1)) (fun k => Iexpr (gd) :: k) (fun k => k) (V90 0 8).toInt (fun s9 => RelM V90 L91 (bq) (gn) (gT) s9 (gl) ∧ keepS ((nx sx39 1)) 1 s9) := t85
        have t86 : RoV 35 (bq) V70 V90 := t86
        have t87 : RoV 37 (bq) V70 V90 := t87
        have t88 : RoL 36 20 (bq) L34 L91 := t88
        have t89 : RoL 38 20 (bq) L34 L91 := t89
        have r92 : 0 ≤ ((V90 0 48)).toInt ∧ ((V90 0 48)).toInt ≤ 10000 := hMV90 0 48
        have r93 : 0 ≤ ((V90 0 8)).toInt ∧ ((V90 0 8)).toInt ≤ 70000 := hMV90 0 8
        have r94 : 0 ≤ ((V90 0 50)).toInt ∧ ((V90 0 50)).toInt ≤ 9 := hMV90 0 50
        rcases t85 with ⟨q95, sx96, h97, rl98, kp99⟩ | ⟨q95, h97⟩
        · skip
          have hr100 : ∀ k, Rc gT (Crun gs (Itake 40 :: Iexpr gd :: Itake 44 :: Iexpr gd :: Itake 44 :: Iexpr gd :: Itake 41 :: k)) (Crun sx96 (Itake 44 :: Iexpr gd :: Itake 41 :: k)) := fun k => (hr57 k).tr (h97 (Itake 44 :: Iexpr gd :: Itake 41 :: k))
          have fz101 := RelM.rg rl98
          have ps102 := (kp99).1
          refine lv_aload_n hx hb dX12_pick_29 rfl (lv_at hl 1 rfl) ?_
          refine lv_bipush (v := 44) hx hb dX12_pick_30 (by decide) ?_
          refine gA_void (gA_runV (As := [.int 44]) (rest := []) (ci := 12) (q0 := 0) hx hb hml hown hg hP hD hK hS hA hnw hgk (s_takeSignA l D ks H.size ad kk V90 L91 44 (bq) (gn) (gT) (sx96) (gl) hMV90 rl98 (sg_yes (j := 44) (by decide) (by decide) (by decide))) w2079 w2081 w96 w172 w2082 rfl rfl hdV_yX12_takeSign ⟨(by show 1 + 1 ≤ 10 * dd + 14; omega), (by show 8 + (2 + 11) + (21) ≤ 300 * dd + 460; omega)⟩ rfl hl.1 rfl (Nat.le_of_ble_eq_true rfl) dX12_pick_32 ⟨Nat.le_of_ble_eq_true rfl, Nat.le_of_ble_eq_true rfl⟩) hP hD hK hS hA (fun u104 H locs w105 hP hD hK hS => ?_)
          obtain ⟨V107, L108⟩ := u104
          obtain ⟨hMV107, ajV107, axL108, t106⟩ := w105
          have axL108 : L91 = L108 := Eq.symm axL108
          subst axL108
          have hP : va_P D vwCl (mw ad kk ks.1 V107 L91) H := hP
          have hD : va_D A (mw ad kk ks.1 V107 L91) := hD
          have hMV107 : rgd bM V107 := hMV107
          have ajV107 : agr [(0, 7), (0, 8)] [] V90 V107 := ajV107
          have agV107 : agr [(0, 7), (0, 8), (0, 48), (0, 50)] [35, 36, 37, 38, 45, 46, 47] V V107 := agV90.tr ajV107 (by decide) (by decide)
          have t106 : ((V107 0 8).toInt = 0 ∧ (gT).1 ((sx96).1 0) = (Int32.toInt 44) ∧ RelM V107 L91 (bq) (gn) (gT) (nx (sx96) 1) (gl)) ∨ (1 ≤ (V107 0 8).toInt ∧ (gT).1 ((sx96).1 0) ≠ (Int32.toInt 44) ∧ (V107 0 8).toInt = 1 + 16 * (gT).2.2 ((sx96).1 0)) := t106
          rcases t106 with ⟨q109, h110, rl111⟩ | ⟨q109, h110, rl111⟩
          · skip
            have kd112 : gT.1 (sx96.1 0) = 44 := h110.trans (by decide)
            have hr113 : ∀ k, Rc gT (Crun gs (Itake 40 :: Iexpr gd :: Itake 44 :: Iexpr gd :: Itake 44 :: Iexpr gd :: Itake 41 :: k)) (Crun (nx sx96 1) (Iexpr gd :: Itake 41 :: k)) := fun k => Rc.go1 (hr100 k) (tk_y kd112)
            have ps114 : (nx sx96 1).1 0 = sx96.1 0 + 1 := rfl
            have fz115 := RelM.rg rl111
            have r116 : 0 ≤ ((V107 0 8)).toInt ∧ ((V107 0 8)).toInt ≤ 70000 := hMV107 0 8
            refine lv_aload_n hx hb dX12_pick_35 rfl (lv_at hl 1 rfl) ?_
            refine lv_bipush (v := 13) hx hb dX12_pick_36 (by decide) ?_
            refine lv_iconst (v := 0) hx hb dX12_pick_38 (by decide) ?_
            refine lv_iconst (v := 0) hx hb dX12_pick_39 (by decide) ?_
            have r117 : Int32.toInt 13 = 13 := by decide
            have pq118 : (V107 0 48).toInt = ((V90 0 48)).toInt := congrArg Int32.toInt (ajV107 0 48 rfl)
            refine gA_int (gA_runV (As := [.int 13, .int 0, .int 0]) (rest := []) (ci := 12) (q0 := 0) hx hb hml hown hg hP hD hK hS hA hnw hgk (s_emit3 l D ks H.size ad kk V107 L91 13 0 0 hMV107 (show (V107 0 48).toInt ≤ 9999 from by first | omega | ((try (have i_t81 := Imp.go t81 (by omega))); (try (have i_t24 := Imp.go t24 (by omega))); (try (have i_t24 := Imp.go t24 (by omega))); (try (have i_t81 := Imp.go t81 (by omega))); omega))) w2140 w2142 w111 w172 w2143 rfl rfl hdV_yX12_emit ⟨(by show 0 + 1 ≤ 10 * dd + 14; omega), (by show 8 + (4 + 11) + (0) ≤ 300 * dd + 460; omega)⟩ rfl hl.1 rfl (Nat.le_of_ble_eq_true rfl) dX12_pick_40 ⟨Nat.le_of_ble_eq_true rfl, Nat.le_of_ble_eq_true rfl⟩) hP hD hK hS hA (fun z119 u120 H locs w121 hP hD hK hS => ?_)
            obtain ⟨V125, L126⟩ := u120
            obtain ⟨hMV125, ajV125, axL126, rgz119, t122, t123, t124⟩ := w121
            have axL126 : L91 = L126 := Eq.symm axL126
            subst axL126
            have hP : va_P D vwCl (mw ad kk ks.1 V125 L91) H := hP
            have hD : va_D A (mw ad kk ks.1 V125 L91) := hD
            have hMV125 : rgd bM V125 := hMV125
            have ajV125 : agr [(0, 48)] [45, 46, 47] V107 V125 := ajV125
            have agV125 : agr [(0, 7), (0, 8), (0, 48), (0, 50)] [35, 36, 37, 38, 45, 46, 47] V V125 := agV107.tr ajV125 (by decide) (by decide)
            have rgz119 : 0 ≤ z119.toInt ∧ z119.toInt ≤ 20000 := rgz119
            have t122 : (V125 0 48).toInt = (V107 0 48).toInt + 1 := t122
            have t123 : z119.toInt = (V107 0 49).toInt + (V107 0 48).toInt := t123
            have t124 : emitted V107 V125 (pA V107) 13 0 0 := t124
            have r127 : 0 ≤ ((V125 0 48)).toInt ∧ ((V125 0 48)).toInt ≤ 10000 := hMV125 0 48
            have pq128 : (V107 0 49).toInt = ((V 0 49)).toInt := congrArg Int32.toInt ((ajV107 0 49 rfl).trans ((ajV90 0 49 rfl).trans ((ajV70 0 49 rfl).trans ((ajV51 0 49 rfl).trans ((ajV33 0 49 rfl).trans (ajV8 0 49 rfl))))))
            refine lv_istore_n (lv' := [(2, .int z119), (1, .int z64), (0, .ref (ad 0))]) hx hb dX12_pick_43 rfl hl (by decide) rfl (fun ls hl => ?_)
            refine lv_aload_n hx hb dX12_pick_44 rfl (lv_at hl 2 rfl) ?_
            refine va_get (D := D) (ci := 12) (v := .ref (ad 46)) (C := RX12) (T := TX12) (N := 100) hx hb hg inX12 hown hK hP 0 rfl rfl 46 (by decide) (hg _ w1756) (fun _ h9 => h9) rfl dX12_pick_45 ?_
            refine lv_iload_n hx hb dX12_pick_48 rfl (lv_at hl 1 rfl) ?_
            refine lv_aload_n hx hb dX12_pick_49 rfl (lv_at hl 2 rfl) ?_
            refine va_get (D := D) (ci := 12) (v := .int (V125 0 49)) (C := RX12) (T := TX12) (N := 100) hx hb hg inX12 hown hK hP 0 rfl rfl 49 (by decide) (hg _ w1759) (fun _ h9 => h9) rfl dX12_pick_50 ?_
            refine g_top (v := (V 0 49)) ((ajV125 0 49 rfl).trans ((ajV107 0 49 rfl).trans ((ajV90 0 49 rfl).trans ((ajV70 0 49 rfl).trans ((ajV51 0 49 rfl).trans ((ajV33 0 49 rfl).trans (ajV8 0 49 rfl))))))) ?_
            refine lv_aload_n hx hb dX12_pick_53 rfl (lv_at hl 2 rfl) ?_
            refine va_get (D := D) (ci := 12) (v := .int (V125 0 48)) (C := RX12) (T := TX12) (N := 100) hx hb hg inX12 hown hK hP 0 rfl rfl 48 (by decide) (hg _ w1758) (fun _ h9 => h9) rfl dX12_pick_54 ?_
            refine lv_iadd hx hb dX12_pick_57 ?_
            refine lv_topi (fun z129 ez129 => ?_)
            have hz129 : z129.toInt = ((V 0 49)).toInt + ((V125 0 48)).toInt := i_add ez129 rfl rfl (by omega)
            refine va_iast (D := D) (i := z64) (x := z129) hx hb hK hP hD hS 39 38 rfl rfl (i_in (a := z64.toInt) rfl (by first | omega | ((try (have i_t81 := Imp.go t81 (by omega))); (try (have i_t24 := Imp.go t24 (by omega))); (try (have i_t24 := Imp.go t24 (by omega))); (try (have i_t81 := Imp.go t81 (by omega))); omega))) dX12_pick_58 (fun H locs hP hD hS => ?_)
            obtain ⟨V130, hV130⟩ : ∃ z, z = up2 V125 46 (Int32.toNatClampNeg z64) z129 := ⟨_, rfl⟩
            have hP : va_P D vwCl (mw ad kk ks.1 V130 L91) H := by rw [hV130]; exact hP
            have hD : va_D A (mw ad kk ks.1 V130 L91) := by rw [hV130]; exact hD
            have hMV130 : rgd bM V130 := hMV125.put hV130 (i_full _)
            have agV130 : agr [(0, 7), (0, 8), (0, 48), (0, 50)] [35, 36, 37, 38, 45, 46, 47] V V130 := agV125.up hV130 rfl
            refine lv_aload_n hx hb dX12_pick_59 rfl (lv_at hl 2 rfl) ?_
            have rl131 : RelM V130 L91 bq gn gT (nx sx96 1) gl := RelM.ag rl111 (show agr [(0, 48)] [45, 46, 47] V107 V130 from (agr.up (agr.tr agr.rf ajV125 (by decide) (by decide)) hV130 rfl)) (by decide) (show agL [] L91 L91 from agL.rf) (by decide)
            have pq132 : (V130 0 7).toInt = ((V107 0 7)).toInt := congrArg Int32.toInt ((up2_o hV130 (by decide)).trans (ajV125 0 7 rfl))
            have pq133 : (V130 0 48).toInt = ((V125 0 48)).toInt := congrArg Int32.toInt (up2_o hV130 (by decide))
            have pq134 : (V130 0 50).toInt = ((V90 0 50)).toInt := congrArg Int32.toInt ((up2_o hV130 (by decide)).trans ((ajV125 0 50 rfl).trans (ajV107 0 50 rfl)))
            refine gA_void (gA_runV (As := []) (rest := []) (ci := 12) (q0 := 0) hx hb hml hown hg hP hD hK hS hA hnw hgk (hk_s_expressionA H.size ad kk V130 L91 (bq) (gn) (gT) ((nx sx96 1)) (gl) (gd) hMV130 rl131 (show (V130 0 48).toInt ≤ 2 * (V130 0 7).toInt from by first | omega | ((try (have i_t81 := Imp.go t81 (by omega))); (try (have i_t24 := Imp.go t24 (by omega))); (try (have i_t24 := Imp.go t24 (by omega))); (try (have i_t81 := Imp.go t81 (by omega))); omega)) (show (V130 0 50).toInt = ((gd) : Int) from by first | omega | ((try (have i_t81 := Imp.go t81 (by omega))); (try (have i_t24 := Imp.go t24 (by omega))); (try (have i_t24 := Imp.go t24 (by omega))); (try (have i_t81 := Imp.go t81 (by omega))); omega)) (show (V130 0 50).toInt + (dd : Int) = 8 from by first | omega | ((try (have i_t81 := Imp.go t81 (by omega))); (try (have i_t24 := Imp.go t24 (by omega))); (try (have i_t24 := Imp.go t24 (by omega))); (try (have i_t81 := Imp.go t81 (by omega))); omega)) (EM.mv em ((up2_o hV130 (by decide)).trans ((ajV125 0 51 rfl).trans ((ajV107 0 51 rfl).trans ((ajV90 0 51 rfl).trans ((ajV70 0 51 rfl).trans ((ajV51 0 51 rfl).trans ((ajV33 0 51 rfl).trans (ajV8 0 51 rfl)))))))) ((up2_o hV130 (by decide)).trans ((ajV125 0 52 rfl).trans ((ajV107 0 52 rfl).trans ((ajV90 0 52 rfl).trans ((ajV70 0 52 rfl).trans ((ajV51 0 52 rfl).trans ((ajV33 0 52 rfl).trans (ajV8 0 52 rfl)))))))) (by rw [(up2_fo hV130 (by decide) : V130 27 = V125 27), (funext (fun q => ajV125 27 q rfl) : V125 27 = V107 27), (funext (fun q => ajV107 27 q rfl) : V107 27 = V90 27), (funext (fun q => ajV90 27 q rfl) : V90 27 = V70 27), (funext (fun q => ajV70 27 q rfl) : V70 27 = V51 27), (funext (fun q => ajV51 27 q rfl) : V51 27 = V33 27), (funext (fun q => ajV33 27 q rfl) : V33 27 = V8 27), (funext (fun q => ajV8 27 q rfl) : V8 27 = V 27)] : V130 27 = V 27) ((keepS.tr (keepS.tr (keepS.tr (keepS.tr (keepS.tr (keepS.rf : keepS gs 0 gs) (keepS.n1 1)) kp42) (keepS.n1 1)) kp99) (keepS.n1 1))).2.1)) w2120 w2122 w106 w172 w2123 rfl rfl hdV_yX12_expression ⟨(by show 10 * dd + 13 + 1 ≤ 10 * dd + 14; omega), (by show 8 + (3 + 11) + (300 * dd + 420) ≤ 300 * dd + 460; omega)⟩ rfl hl.1 rfl (Nat.le_of_ble_eq_true rfl) dX12_pick_60 ⟨Nat.le_of_ble_eq_true rfl, Nat.le_of_ble_eq_true rfl⟩) hP hD hK hS hA (fun u136 H locs w137 hP hD hK hS => ?_)
            obtain ⟨V147, L148⟩ := u136
            obtain ⟨hMV147, ajV147, axL148, t138, t139, t140, t141, t142, t143, t144, t145, t146⟩ := w137
            have alL148 : agL [35, 36, 37, 38, 45, 46, 47] L L148 := agL.tr alL91 axL148 (by decide)
            have hP : va_P D vwCl (mw ad kk ks.1 V147 L148) H := hP
            have hD : va_D A (mw ad kk ks.1 V147 L148) := hD
            have hMV147 : rgd bM V147 := hMV147
            have ajV147 : agr [(0, 7), (0, 8), (0, 48), (0, 50)] [35, 36, 37, 38, 45, 46, 47] V130 V147 := ajV147
            have agV147 : agr [(0, 7), (0, 8), (0, 48), (0, 50)] [35, 36, 37, 38, 45, 46, 47] V V147 := agV130.tr ajV147 (by decide) (by decide)
            have t138 : Imp ((V147 0 8).toInt = 0) ((V147 0 48).toInt - (V130 0 48).toInt ≤ 2 * ((V147 0 7).toInt - (V130 0 7).toInt)) := t138
            have t139 : (V147 0 48).toInt ≤ 8051 - 6 * (V130 0 50).toInt := t139
            have t140 : (V147 0 50).toInt = (V130 0 50).toInt := t140
            have t141 : (V130 0 48).toInt ≤ (V147 0 48).toInt := t141
            have t142 : RdM (gT) ((nx sx96 1)) (fun k => Iexpr (gd) :: k) (fun k => k) (V147 0 8).toInt (fun s9 => RelM V147 L148 (bq) (gn) (gT) s9 (gl) ∧ keepS ((nx sx96 1)) 1 s9) := t142
            have t143 : RoV 35 (bq) V130 V147 := t143
            have t144 : RoV 37 (bq) V130 V147 := t144
            have t145 : RoL 36 20 (bq) L91 L148 := t145
            have t146 : RoL 38 20 (bq) L91 L148 := t146
            have r149 : 0 ≤ ((V147 0 48)).toInt ∧ ((V147 0 48)).toInt ≤ 10000 := hMV147 0 48
            have r150 : 0 ≤ ((V147 0 8)).toInt ∧ ((V147 0 8)).toInt ≤ 70000 := hMV147 0 8
            have r151 : 0 ≤ ((V147 0 50)).toInt ∧ ((V147 0 50)).toInt ≤ 9 := hMV147 0 50
            rcases t142 with ⟨q152, sx153, h154, rl155, kp156⟩ | ⟨q152, h154⟩
            · skip
              have hr157 : ∀ k, Rc gT (Crun gs (Itake 40 :: Iexpr gd :: Itake 44 :: Iexpr gd :: Itake 44 :: Iexpr gd :: Itake 41 :: k)) (Crun sx153 (Itake 41 :: k)) := fun k => (hr113 k).tr (h154 (Itake 41 :: k))
              have fz158 := RelM.rg rl155
              have ps159 := (kp156).1
              refine lv_aload_n hx hb dX12_pick_63 rfl (lv_at hl 2 rfl) ?_
              refine lv_bipush (v := 41) hx hb dX12_pick_64 (by decide) ?_
              have r160 : Int32.toInt 41 = 41 := by decide
              refine gA_void (gA_runV (As := [.int 41]) (rest := []) (ci := 12) (q0 := 0) hx hb hml hown hg hP hD hK hS hA hnw hgk (s_takeSignA l D ks H.size ad kk V147 L148 41 (bq) (gn) (gT) (sx153) (gl) hMV147 rl155 (sg_yes (j := 41) (by decide) (by decide) (by decide))) w2079 w2081 w96 w172 w2082 rfl rfl hdV_yX12_takeSign ⟨(by show 1 + 1 ≤ 10 * dd + 14; omega), (by show 8 + (2 + 11) + (21) ≤ 300 * dd + 460; omega)⟩ rfl hl.1 rfl (Nat.le_of_ble_eq_true rfl) dX12_pick_66 ⟨Nat.le_of_ble_eq_true rfl, Nat.le_of_ble_eq_true rfl⟩) hP hD hK hS hA (fun u162 H locs w163 hP hD hK hS => ?_)
              obtain ⟨V165, L166⟩ := u162
              obtain ⟨hMV165, ajV165, axL166, t164⟩ := w163
              have axL166 : L148 = L166 := Eq.symm axL166
              subst axL166
              have hP : va_P D vwCl (mw ad kk ks.1 V165 L148) H := hP
              have hD : va_D A (mw ad kk ks.1 V165 L148) := hD
              have hMV165 : rgd bM V165 := hMV165
              have ajV165 : agr [(0, 7), (0, 8)] [] V147 V165 := ajV165
              have agV165 : agr [(0, 7), (0, 8), (0, 48), (0, 50)] [35, 36, 37, 38, 45, 46, 47] V V165 := agV147.tr ajV165 (by decide) (by decide)
              have t164 : ((V165 0 8).toInt = 0 ∧ (gT).1 ((sx153).1 0) = (Int32.toInt 41) ∧ RelM V165 L148 (bq) (gn) (gT) (nx (sx153) 1) (gl)) ∨ (1 ≤ (V165 0 8).toInt ∧ (gT).1 ((sx153).1 0) ≠ (Int32.toInt 41) ∧ (V165 0 8).toInt = 1 + 16 * (gT).2.2 ((sx153).1 0)) := t164
              rcases t164 with ⟨q167, h168, rl169⟩ | ⟨q167, h168, rl169⟩
              · skip
                have kd170 : gT.1 (sx153.1 0) = 41 := h168.trans (by decide)
                have hr171 : ∀ k, Rc gT (Crun gs (Itake 40 :: Iexpr gd :: Itake 44 :: Iexpr gd :: Itake 44 :: Iexpr gd :: Itake 41 :: k)) (Crun (nx sx153 1) (k)) := fun k => Rc.go1 (hr157 k) (tk_y kd170)
                have ps172 : (nx sx153 1).1 0 = sx153.1 0 + 1 := rfl
                have fz173 := RelM.rg rl169
                have r174 : 0 ≤ ((V165 0 8)).toInt ∧ ((V165 0 8)).toInt ≤ 70000 := hMV165 0 8
                refine lv_aload_n hx hb dX12_pick_69 rfl (lv_at hl 2 rfl) ?_
                refine va_get (D := D) (ci := 12) (v := .ref (ad 46)) (C := RX12) (T := TX12) (N := 100) hx hb hg inX12 hown hK hP 0 rfl rfl 46 (by decide) (hg _ w1756) (fun _ h9 => h9) rfl dX12_pick_70 ?_
                refine lv_iload_n hx hb dX12_pick_73 rfl (lv_at hl 0 rfl) ?_
                refine lv_aload_n hx hb dX12_pick_74 rfl (lv_at hl 2 rfl) ?_
                refine va_get (D := D) (ci := 12) (v := .int (V165 0 49)) (C := RX12) (T := TX12) (N := 100) hx hb hg inX12 hown hK hP 0 rfl rfl 49 (by decide) (hg _ w1759) (fun _ h9 => h9) rfl dX12_pick_75 ?_
                refine g_top (v := (V 0 49)) ((ajV165 0 49 rfl).trans ((ajV147 0 49 rfl).trans ((up2_o hV130 (by decide)).trans ((ajV125 0 49 rfl).trans ((ajV107 0 49 rfl).trans ((ajV90 0 49 rfl).trans ((ajV70 0 49 rfl).trans ((ajV51 0 49 rfl).trans ((ajV33 0 49 rfl).trans (ajV8 0 49 rfl)))))))))) ?_
                refine lv_aload_n hx hb dX12_pick_78 rfl (lv_at hl 2 rfl) ?_
                refine va_get (D := D) (ci := 12) (v := .int (V165 0 48)) (C := RX12) (T := TX12) (N := 100) hx hb hg inX12 hown hK hP 0 rfl rfl 48 (by decide) (hg _ w1758) (fun _ h9 => h9) rfl dX12_pick_79 ?_
                refine g_top (v := (V147 0 48)) (ajV165 0 48 rfl) ?_
                refine lv_iadd hx hb dX12_pick_82 ?_
                refine lv_topi (fun z175 ez175 => ?_)
                have hz175 : z175.toInt = ((V 0 49)).toInt + ((V147 0 48)).toInt := i_add ez175 rfl rfl (by omega)
                refine va_iast (D := D) (i := z119) (x := z175) hx hb hK hP hD hS 39 38 rfl rfl (i_in (a := z119.toInt) rfl (by first | omega | ((try (have i_t138 := Imp.go t138 (by omega))); (try (have i_t81 := Imp.go t81 (by omega))); (try (have i_t24 := Imp.go t24 (by omega))); (try (have i_t24 := Imp.go t24 (by omega))); (try (have i_t81 := Imp.go t81 (by omega))); (try (have i_t138 := Imp.go t138 (by omega))); omega))) dX12_pick_83 (fun H locs hP hD hS => ?_)
                obtain ⟨V176, hV176⟩ : ∃ z, z = up2 V165 46 (Int32.toNatClampNeg z119) z175 := ⟨_, rfl⟩
                have hP : va_P D vwCl (mw ad kk ks.1 V176 L148) H := by rw [hV176]; exact hP
                have hD : va_D A (mw ad kk ks.1 V176 L148) := by rw [hV176]; exact hD
                have hMV176 : rgd bM V176 := hMV165.put hV176 (i_full _)
                have agV176 : agr [(0, 7), (0, 8), (0, 48), (0, 50)] [35, 36, 37, 38, 45, 46, 47] V V176 := agV165.up hV176 rfl
                have pq177 : (V176 0 7).toInt = ((V165 0 7)).toInt := congrArg Int32.toInt (up2_o hV176 (by decide))
                have pq178 : (V176 0 48).toInt = ((V147 0 48)).toInt := congrArg Int32.toInt ((up2_o hV176 (by decide)).trans (ajV165 0 48 rfl))
                have pq179 : (V176 0 8).toInt = ((V165 0 8)).toInt := congrArg Int32.toInt (up2_o hV176 (by decide))
                have pq180 : (V176 0 50).toInt = ((V147 0 50)).toInt := congrArg Int32.toInt ((up2_o hV176 (by decide)).trans (ajV165 0 50 rfl))
                have rl181 : RelM V176 L148 bq gn gT (nx sx153 1) gl := RelM.ag rl169 (show agr [] [46] V165 V176 from (agr.up agr.rf hV176 rfl)) (by decide) (show agL [] L148 L148 from agL.rf) (by decide)
                have rw182 : RoV 35 bq V V176 := (fun k hk => ((up2_o hV176 (by decide)).trans ((ajV165 35 k rfl).trans ((t143 k hk).trans ((up2_o hV130 (by decide)).trans ((ajV125 35 k rfl).trans ((ajV107 35 k rfl).trans ((t86 k hk).trans ((ajV70 35 k rfl).trans ((ajV51 35 k rfl).trans ((t29 k hk).trans ((ajV8 35 k rfl).trans rfl))))))))))))
                have rw183 : RoV 37 bq V V176 := (fun k hk => ((up2_o hV176 (by decide)).trans ((ajV165 37 k rfl).trans ((t144 k hk).trans ((up2_o hV130 (by decide)).trans ((ajV125 37 k rfl).trans ((ajV107 37 k rfl).trans ((t87 k hk).trans ((ajV70 37 k rfl).trans ((ajV51 37 k rfl).trans ((t30 k hk).trans ((ajV8 37 k rfl).trans rfl))))))))))))
                have rw184 : RoL 36 20 bq L L148 := (fun k hk => ((t145 k hk).trans ((t88 k hk).trans ((t31 k hk).trans rfl))))
                have rw185 : RoL 38 20 bq L L148 := (fun k hk => ((t146 k hk).trans ((t89 k hk).trans ((t32 k hk).trans rfl))))
                exact W.vret hx hb hr (fun t ht hW => ⟨⟨(V176, L148), rfl, ⟨hMV176, agV176, alL148, (Imp.mk (fun hp => have hp : (V176 0 8).toInt = 0 := hp; (show (V176 0 48).toInt - (V 0 48).toInt ≤ 2 * ((V176 0 7).toInt - (V 0 7).toInt) from by first | omega | ((try (have i_t138 := Imp.go t138 (by omega))); (try (have i_t81 := Imp.go t81 (by omega))); (try (have i_t24 := Imp.go t24 (by omega))); (try (have i_t24 := Imp.go t24 (by omega))); (try (have i_t81 := Imp.go t81 (by omega))); (try (have i_t138 := Imp.go t138 (by omega))); omega)))), (show (V176 0 48).toInt ≤ 8053 - 6 * (V 0 50).toInt from by first | omega | ((try (have i_t138 := Imp.go t138 (by omega))); (try (have i_t81 := Imp.go t81 (by omega))); (try (have i_t24 := Imp.go t24 (by omega))); (try (have i_t24 := Imp.go t24 (by omega))); (try (have i_t81 := Imp.go t81 (by omega))); (try (have i_t138 := Imp.go t138 (by omega))); omega)), (show (V176 0 50).toInt = (V 0 50).toInt from by first | omega | ((try (have i_t138 := Imp.go t138 (by omega))); (try (have i_t81 := Imp.go t81 (by omega))); (try (have i_t24 := Imp.go t24 (by omega))); (try (have i_t24 := Imp.go t24 (by omega))); (try (have i_t81 := Imp.go t81 (by omega))); (try (have i_t138 := Imp.go t138 (by omega))); omega)), (show (V 0 48).toInt ≤ (V176 0 48).toInt from by first | omega | ((try (have i_t138 := Imp.go t138 (by omega))); (try (have i_t81 := Imp.go t81 (by omega))); (try (have i_t24 := Imp.go t24 (by omega))); (try (have i_t24 := Imp.go t24 (by omega))); (try (have i_t81 := Imp.go t81 (by omega))); (try (have i_t138 := Imp.go t138 (by omega))); omega)), (Or.inl ⟨W0 rl181, (nx sx153 1), hr171, rl181, keepS.le (keepS.tr (keepS.tr (keepS.tr (keepS.tr (keepS.tr (keepS.tr (keepS.tr (keepS.rf : keepS gs 0 gs) (keepS.n1 1)) kp42) (keepS.n1 1)) kp99) (keepS.n1 1)) kp156) (keepS.n1 1)) (by decide)⟩), rw182, rw183, rw184, rw185⟩, by rw [ht]; exact hP, va_K.moved hW.alike hK, hD⟩, hS.F ht⟩) hS.2.2 dX12_pick_84
              · skip
                have kd186 : gT.1 (sx153.1 0) ≠ 41 := fun h9 => h168 (h9.trans (by decide))
                have hb187 : ∀ k, Rc gT (Crun gs (Itake 40 :: Iexpr gd :: Itake 44 :: Iexpr gd :: Itake 44 :: Iexpr gd :: Itake 41 :: k)) (Cbad (V165 0 8).toInt) := fun k => Rc.go1 (hr157 k) ((tk_n kd186).trans (fl_eq rfl rl169))
                have r188 : 0 ≤ ((V165 0 8)).toInt ∧ ((V165 0 8)).toInt ≤ 70000 := hMV165 0 8
                refine lv_aload_n hx hb dX12_pick_69 rfl (lv_at hl 2 rfl) ?_
                refine va_get (D := D) (ci := 12) (v := .ref (ad 46)) (C := RX12) (T := TX12) (N := 100) hx hb hg inX12 hown hK hP 0 rfl rfl 46 (by decide) (hg _ w1756) (fun _ h9 => h9) rfl dX12_pick_70 ?_
                refine lv_iload_n hx hb dX12_pick_73 rfl (lv_at hl 0 rfl) ?_
                refine lv_aload_n hx hb dX12_pick_74 rfl (lv_at hl 2 rfl) ?_
                refine va_get (D := D) (ci := 12) (v := .int (V165 0 49)) (C := RX12) (T := TX12) (N := 100) hx hb hg inX12 hown hK hP 0 rfl rfl 49 (by decide) (hg _ w1759) (fun _ h9 => h9) rfl dX12_pick_75 ?_
                refine g_top (v := (V 0 49)) ((ajV165 0 49 rfl).trans ((ajV147 0 49 rfl).trans ((up2_o hV130 (by decide)).trans ((ajV125 0 49 rfl).trans ((ajV107 0 49 rfl).trans ((ajV90 0 49 rfl).trans ((ajV70 0 49 rfl).trans ((ajV51 0 49 rfl).trans ((ajV33 0 49 rfl).trans (ajV8 0 49 rfl)))))))))) ?_
                refine lv_aload_n hx hb dX12_pick_78 rfl (lv_at hl 2 rfl) ?_
                refine va_get (D := D) (ci := 12) (v := .int (V165 0 48)) (C := RX12) (T := TX12) (N := 100) hx hb hg inX12 hown hK hP 0 rfl rfl 48 (by decide) (hg _ w1758) (fun _ h9 => h9) rfl dX12_pick_79 ?_
                refine g_top (v := (V147 0 48)) (ajV165 0 48 rfl) ?_
                refine lv_iadd hx hb dX12_pick_82 ?_
                refine lv_topi (fun z189 ez189 => ?_)
                have hz189 : z189.toInt = ((V 0 49)).toInt + ((V147 0 48)).toInt := i_add ez189 rfl rfl (by omega)
                refine va_iast (D := D) (i := z119) (x := z189) hx hb hK hP hD hS 39 38 rfl rfl (i_in (a := z119.toInt) rfl (by first | omega | ((try (have i_t138 := Imp.go t138 (by omega))); (try (have i_t81 := Imp.go t81 (by omega))); (try (have i_t24 := Imp.go t24 (by omega))); (try (have i_t24 := Imp.go t24 (by omega))); (try (have i_t81 := Imp.go t81 (by omega))); (try (have i_t138 := Imp.go t138 (by omega))); omega))) dX12_pick_83 (fun H locs hP hD hS => ?_)
                obtain ⟨V190, hV190⟩ : ∃ z, z = up2 V165 46 (Int32.toNatClampNeg z119) z189 := ⟨_, rfl⟩
                have hP : va_P D vwCl (mw ad kk ks.1 V190 L148) H := by rw [hV190]; exact hP
                have hD : va_D A (mw ad kk ks.1 V190 L148) := by rw [hV190]; exact hD
                have hMV190 : rgd bM V190 := hMV165.put hV190 (i_full _)
                have agV190 : agr [(0, 7), (0, 8), (0, 48), (0, 50)] [35, 36, 37, 38, 45, 46, 47] V V190 := agV165.up hV190 rfl
                have pq191 : (V190 0 7).toInt = ((V165 0 7)).toInt := congrArg Int32.toInt (up2_o hV190 (by decide))
                have pq192 : (V190 0 48).toInt = ((V147 0 48)).toInt := congrArg Int32.toInt ((up2_o hV190 (by decide)).trans (ajV165 0 48 rfl))
                have pq193 : (V190 0 8).toInt = ((V165 0 8)).toInt := congrArg Int32.toInt (up2_o hV190 (by decide))
                have pq194 : (V190 0 50).toInt = ((V147 0 50)).toInt := congrArg Int32.toInt ((up2_o hV190 (by decide)).trans (ajV165 0 50 rfl))
                have rw195 : RoV 35 bq V V190 := (fun k hk => ((up2_o hV190 (by decide)).trans ((ajV165 35 k rfl).trans ((t143 k hk).trans ((up2_o hV130 (by decide)).trans ((ajV125 35 k rfl).trans ((ajV107 35 k rfl).trans ((t86 k hk).trans ((ajV70 35 k rfl).trans ((ajV51 35 k rfl).trans ((t29 k hk).trans ((ajV8 35 k rfl).trans rfl))))))))))))
                have rw196 : RoV 37 bq V V190 := (fun k hk => ((up2_o hV190 (by decide)).trans ((ajV165 37 k rfl).trans ((t144 k hk).trans ((up2_o hV130 (by decide)).trans ((ajV125 37 k rfl).trans ((ajV107 37 k rfl).trans ((t87 k hk).trans ((ajV70 37 k rfl).trans ((ajV51 37 k rfl).trans ((t30 k hk).trans ((ajV8 37 k rfl).trans rfl))))))))))))
                have rw197 : RoL 36 20 bq L L148 := (fun k hk => ((t145 k hk).trans ((t88 k hk).trans ((t31 k hk).trans rfl))))
                have rw198 : RoL 38 20 bq L L148 := (fun k hk => ((t146 k hk).trans ((t89 k hk).trans ((t32 k hk).trans rfl))))
                exact W.vret hx hb hr (fun t ht hW => ⟨⟨(V190, L148), rfl, ⟨hMV190, agV190, alL148, (Imp.mk (fun hp => have hp : (V190 0 8).toInt = 0 := hp; (show (V190 0 48).toInt - (V 0 48).toInt ≤ 2 * ((V190 0 7).toInt - (V 0 7).toInt) from by first | omega | ((try (have i_t138 := Imp.go t138 (by omega))); (try (have i_t81 := Imp.go t81 (by omega))); (try (have i_t24 := Imp.go t24 (by omega))); (try (have i_t24 := Imp.go t24 (by omega))); (try (have i_t81 := Imp.go t81 (by omega))); (try (have i_t138 := Imp.go t138 (by omega))); omega)))), (show (V190 0 48).toInt ≤ 8053 - 6 * (V 0 50).toInt from by first | omega | ((try (have i_t138 := Imp.go t138 (by omega))); (try (have i_t81 := Imp.go t81 (by omega))); (try (have i_t24 := Imp.go t24 (by omega))); (try (have i_t24 := Imp.go t24 (by omega))); (try (have i_t81 := Imp.go t81 (by omega))); (try (have i_t138 := Imp.go t138 (by omega))); omega)), (show (V190 0 50).toInt = (V 0 50).toInt from by first | omega | ((try (have i_t138 := Imp.go t138 (by omega))); (try (have i_t81 := Imp.go t81 (by omega))); (try (have i_t24 := Imp.go t24 (by omega))); (try (have i_t24 := Imp.go t24 (by omega))); (try (have i_t81 := Imp.go t81 (by omega))); (try (have i_t138 := Imp.go t138 (by omega))); omega)), (show (V 0 48).toInt ≤ (V190 0 48).toInt from by first | omega | ((try (have i_t138 := Imp.go t138 (by omega))); (try (have i_t81 := Imp.go t81 (by omega))); (try (have i_t24 := Imp.go t24 (by omega))); (try (have i_t24 := Imp.go t24 (by omega))); (try (have i_t81 := Imp.go t81 (by omega))); (try (have i_t138 := Imp.go t138 (by omega))); omega)), (Or.inr ⟨(show 1 ≤ (V190 0 8).toInt from by omega), (fun k => by rw [show (V190 0 8).toInt = (V165 0 8).toInt from by omega]; exact hb187 k)⟩), rw195, rw196, rw197, rw198⟩, by rw [ht]; exact hP, va_K.moved hW.alike hK, hD⟩, hS.F ht⟩) hS.2.2 dX12_pick_84
            · skip
              have hb199 : ∀ k, Rc gT (Crun gs (Itake 40 :: Iexpr gd :: Itake 44 :: Iexpr gd :: Itake 44 :: Iexpr gd :: Itake 41 :: k)) (Cbad (V147 0 8).toInt) := fun k => (hr113 k).tr (h154 (Itake 41 :: k))
              refine lv_aload_n hx hb dX12_pick_63 rfl (lv_at hl 2 rfl) ?_
              refine lv_bipush (v := 41) hx hb dX12_pick_64 (by decide) ?_
              have r200 : Int32.toInt 41 = 41 := by decide
              refine gA_void (gA_runV (As := [.int 41]) (rest := []) (ci := 12) (q0 := 0) hx hb hml hown hg hP hD hK hS hA hnw hgk (s_takeSignB l D ks H.size ad kk V147 L148 41 hMV147 (show 1 ≤ (V147 0 8).toInt from by first | omega | ((try (have i_t138 := Imp.go t138 (by omega))); (try (have i_t81 := Imp.go t81 (by omega))); (try (have i_t24 := Imp.go t24 (by omega))); (try (have i_t24 := Imp.go t24 (by omega))); (try (have i_t81 := Imp.go t81 (by omega))); (try (have i_t138 := Imp.go t138 (by omega))); omega))) w2079 w2081 w96 w172 w2082 rfl rfl hdV_yX12_takeSign ⟨(by show 1 + 1 ≤ 10 * dd + 14; omega), (by show 8 + (2 + 11) + (21) ≤ 300 * dd + 460; omega)⟩ rfl hl.1 rfl (Nat.le_of_ble_eq_true rfl) dX12_pick_66 ⟨Nat.le_of_ble_eq_true rfl, Nat.le_of_ble_eq_true rfl⟩) hP hD hK hS hA (fun u202 H locs w203 hP hD hK hS => ?_)
              obtain ⟨V205, L206⟩ := u202
              obtain ⟨hMV205, ajV205, axL206, t204⟩ := w203
              have axL206 : L148 = L206 := Eq.symm axL206
              subst axL206
              have hP : va_P D vwCl (mw ad kk ks.1 V205 L148) H := hP
              have hD : va_D A (mw ad kk ks.1 V205 L148) := hD
              have hMV205 : rgd bM V205 := hMV205
              have ajV205 : agr [(0, 7), (0, 8)] [] V147 V205 := ajV205
              have agV205 : agr [(0, 7), (0, 8), (0, 48), (0, 50)] [35, 36, 37, 38, 45, 46, 47] V V205 := agV147.tr ajV205 (by decide) (by decide)
              have t204 : (V205 0 8).toInt = (V147 0 8).toInt := t204
              have r207 : 0 ≤ ((V205 0 8)).toInt ∧ ((V205 0 8)).toInt ≤ 70000 := hMV205 0 8
              refine lv_aload_n hx hb dX12_pick_69 rfl (lv_at hl 2 rfl) ?_
              refine va_get (D := D) (ci := 12) (v := .ref (ad 46)) (C := RX12) (T := TX12) (N := 100) hx hb hg inX12 hown hK hP 0 rfl rfl 46 (by decide) (hg _ w1756) (fun _ h9 => h9) rfl dX12_pick_70 ?_
              refine lv_iload_n hx hb dX12_pick_73 rfl (lv_at hl 0 rfl) ?_
              refine lv_aload_n hx hb dX12_pick_74 rfl (lv_at hl 2 rfl) ?_
              refine va_get (D := D) (ci := 12) (v := .int (V205 0 49)) (C := RX12) (T := TX12) (N := 100) hx hb hg inX12 hown hK hP 0 rfl rfl 49 (by decide) (hg _ w1759) (fun _ h9 => h9) rfl dX12_pick_75 ?_
              refine g_top (v := (V 0 49)) ((ajV205 0 49 rfl).trans ((ajV147 0 49 rfl).trans ((up2_o hV130 (by decide)).trans ((ajV125 0 49 rfl).trans ((ajV107 0 49 rfl).trans ((ajV90 0 49 rfl).trans ((ajV70 0 49 rfl).trans ((ajV51 0 49 rfl).trans ((ajV33 0 49 rfl).trans (ajV8 0 49 rfl)))))))))) ?_
              refine lv_aload_n hx hb dX12_pick_78 rfl (lv_at hl 2 rfl) ?_
              refine va_get (D := D) (ci := 12) (v := .int (V205 0 48)) (C := RX12) (T := TX12) (N := 100) hx hb hg inX12 hown hK hP 0 rfl rfl 48 (by decide) (hg _ w1758) (fun _ h9 => h9) rfl dX12_pick_79 ?_
              refine g_top (v := (V147 0 48)) (ajV205 0 48 rfl) ?_
              refine lv_iadd hx hb dX12_pick_82 ?_
              refine lv_topi (fun z208 ez208 => ?_)
              have hz208 : z208.toInt = ((V 0 49)).toInt + ((V147 0 48)).toInt := i_add ez208 rfl rfl (by omega)
              refine va_iast (D := D) (i := z119) (x := z208) hx hb hK hP hD hS 39 38 rfl rfl (i_in (a := z119.toInt) rfl (by first | omega | ((try (have i_t138 := Imp.go t138 (by omega))); (try (have i_t81 := Imp.go t81 (by omega))); (try (have i_t24 := Imp.go t24 (by omega))); (try (have i_t24 := Imp.go t24 (by omega))); (try (have i_t81 := Imp.go t81 (by omega))); (try (have i_t138 := Imp.go t138 (by omega))); omega))) dX12_pick_83 (fun H locs hP hD hS => ?_)
              obtain ⟨V209, hV209⟩ : ∃ z, z = up2 V205 46 (Int32.toNatClampNeg z119) z208 := ⟨_, rfl⟩
              have hP : va_P D vwCl (mw ad kk ks.1 V209 L148) H := by rw [hV209]; exact hP
              have hD : va_D A (mw ad kk ks.1 V209 L148) := by rw [hV209]; exact hD
              have hMV209 : rgd bM V209 := hMV205.put hV209 (i_full _)
              have agV209 : agr [(0, 7), (0, 8), (0, 48), (0, 50)] [35, 36, 37, 38, 45, 46, 47] V V209 := agV205.up hV209 rfl
              have pq210 : (V209 0 7).toInt = ((V205 0 7)).toInt := congrArg Int32.toInt (up2_o hV209 (by decide))
              have pq211 : (V209 0 48).toInt = ((V147 0 48)).toInt := congrArg Int32.toInt ((up2_o hV209 (by decide)).trans (ajV205 0 48 rfl))
              have pq212 : (V209 0 8).toInt = ((V205 0 8)).toInt := congrArg Int32.toInt (up2_o hV209 (by decide))
              have pq213 : (V209 0 50).toInt = ((V147 0 50)).toInt := congrArg Int32.toInt ((up2_o hV209 (by decide)).trans (ajV205 0 50 rfl))
              have rw214 : RoV 35 bq V V209 := (fun k hk => ((up2_o hV209 (by decide)).trans ((ajV205 35 k rfl).trans ((t143 k hk).trans ((up2_o hV130 (by decide)).trans ((ajV125 35 k rfl).trans ((ajV107 35 k rfl).trans ((t86 k hk).trans ((ajV70 35 k rfl).trans ((ajV51 35 k rfl).trans ((t29 k hk).trans ((ajV8 35 k rfl).trans rfl))))))))))))
              have rw215 : RoV 37 bq V V209 := (fun k hk => ((up2_o hV209 (by decide)).trans ((ajV205 37 k rfl).trans ((t144 k hk).trans ((up2_o hV130 (by decide)).trans ((ajV125 37 k rfl).trans ((ajV107 37 k rfl).trans ((t87 k hk).trans ((ajV70 37 k rfl).trans ((ajV51 37 k rfl).trans ((t30 k hk).trans ((ajV8 37 k rfl).trans rfl))))))))))))
              have rw216 : RoL 36 20 bq L L148 := (fun k hk => ((t145 k hk).trans ((t88 k hk).trans ((t31 k hk).trans rfl))))
              have rw217 : RoL 38 20 bq L L148 := (fun k hk => ((t146 k hk).trans ((t89 k hk).trans ((t32 k hk).trans rfl))))
              exact W.vret hx hb hr (fun t ht hW => ⟨⟨(V209, L148), rfl, ⟨hMV209, agV209, alL148, (Imp.mk (fun hp => have hp : (V209 0 8).toInt = 0 := hp; (show (V209 0 48).toInt - (V 0 48).toInt ≤ 2 * ((V209 0 7).toInt - (V 0 7).toInt) from by first | omega | ((try (have i_t138 := Imp.go t138 (by omega))); (try (have i_t81 := Imp.go t81 (by omega))); (try (have i_t24 := Imp.go t24 (by omega))); (try (have i_t24 := Imp.go t24 (by omega))); (try (have i_t81 := Imp.go t81 (by omega))); (try (have i_t138 := Imp.go t138 (by omega))); omega)))), (show (V209 0 48).toInt ≤ 8053 - 6 * (V 0 50).toInt from by first | omega | ((try (have i_t138 := Imp.go t138 (by omega))); (try (have i_t81 := Imp.go t81 (by omega))); (try (have i_t24 := Imp.go t24 (by omega))); (try (have i_t24 := Imp.go t24 (by omega))); (try (have i_t81 := Imp.go t81 (by omega))); (try (have i_t138 := Imp.go t138 (by omega))); omega)), (show (V209 0 50).toInt = (V 0 50).toInt from by first | omega | ((try (have i_t138 := Imp.go t138 (by omega))); (try (have i_t81 := Imp.go t81 (by omega))); (try (have i_t24 := Imp.go t24 (by omega))); (try (have i_t24 := Imp.go t24 (by omega))); (try (have i_t81 := Imp.go t81 (by omega))); (try (have i_t138 := Imp.go t138 (by omega))); omega)), (show (V 0 48).toInt ≤ (V209 0 48).toInt from by first | omega | ((try (have i_t138 := Imp.go t138 (by omega))); (try (have i_t81 := Imp.go t81 (by omega))); (try (have i_t24 := Imp.go t24 (by omega))); (try (have i_t24 := Imp.go t24 (by omega))); (try (have i_t81 := Imp.go t81 (by omega))); (try (have i_t138 := Imp.go t138 (by omega))); omega)), (Or.inr ⟨(show 1 ≤ (V209 0 8).toInt from by omega), (fun k => by rw [show (V209 0 8).toInt = (V147 0 8).toInt from by omega]; exact hb199 k)⟩), rw214, rw215, rw216, rw217⟩, by rw [ht]; exact hP, va_K.moved hW.alike hK, hD⟩, hS.F ht⟩) hS.2.2 dX12_pick_84
          · skip
            have kd218 : gT.1 (sx96.1 0) ≠ 44 := fun h9 => h110 (h9.trans (by decide))
            have hb219 : ∀ k, Rc gT (Crun gs (Itake 40 :: Iexpr gd :: Itake 44 :: Iexpr gd :: Itake 44 :: Iexpr gd :: Itake 41 :: k)) (Cbad (V107 0 8).toInt) := fun k => Rc.go1 (hr100 k) ((tk_n kd218).trans (fl_eq rfl rl111))
            have r220 : 0 ≤ ((V107 0 8)).toInt ∧ ((V107 0 8)).toInt ≤ 70000 := hMV107 0 8
            refine lv_aload_n hx hb dX12_pick_35 rfl (lv_at hl 1 rfl) ?_
            refine lv_bipush (v := 13) hx hb dX12_pick_36 (by decide) ?_
            refine lv_iconst (v := 0) hx hb dX12_pick_38 (by decide) ?_
            refine lv_iconst (v := 0) hx hb dX12_pick_39 (by decide) ?_
            have r221 : Int32.toInt 13 = 13 := by decide
            have pq222 : (V107 0 48).toInt = ((V90 0 48)).toInt := congrArg Int32.toInt (ajV107 0 48 rfl)
            refine gA_int (gA_runV (As := [.int 13, .int 0, .int 0]) (rest := []) (ci := 12) (q0 := 0) hx hb hml hown hg hP hD hK hS hA hnw hgk (s_emit3 l D ks H.size ad kk V107 L91 13 0 0 hMV107 (show (V107 0 48).toInt ≤ 9999 from by first | omega | ((try (have i_t81 := Imp.go t81 (by omega))); (try (have i_t24 := Imp.go t24 (by omega))); (try (have i_t24 := Imp.go t24 (by omega))); (try (have i_t81 := Imp.go t81 (by omega))); omega))) w2140 w2142 w111 w172 w2143 rfl rfl hdV_yX12_emit ⟨(by show 0 + 1 ≤ 10 * dd + 14; omega), (by show 8 + (4 + 11) + (0) ≤ 300 * dd + 460; omega)⟩ rfl hl.1 rfl (Nat.le_of_ble_eq_true rfl) dX12_pick_40 ⟨Nat.le_of_ble_eq_true rfl, Nat.le_of_ble_eq_true rfl⟩) hP hD hK hS hA (fun z223 u224 H locs w225 hP hD hK hS => ?_)
            obtain ⟨V229, L230⟩ := u224
            obtain ⟨hMV229, ajV229, axL230, rgz223, t226, t227, t228⟩ := w225
            have axL230 : L91 = L230 := Eq.symm axL230
            subst axL230
            have hP : va_P D vwCl (mw ad kk ks.1 V229 L91) H := hP
            have hD : va_D A (mw ad kk ks.1 V229 L91) := hD
            have hMV229 : rgd bM V229 := hMV229
            have ajV229 : agr [(0, 48)] [45, 46, 47] V107 V229 := ajV229
            have agV229 : agr [(0, 7), (0, 8), (0, 48), (0, 50)] [35, 36, 37, 38, 45, 46, 47] V V229 := agV107.tr ajV229 (by decide) (by decide)
            have rgz223 : 0 ≤ z223.toInt ∧ z223.toInt ≤ 20000 := rgz223
            have t226 : (V229 0 48).toInt = (V107 0 48).toInt + 1 := t226
            have t227 : z223.toInt = (V107 0 49).toInt + (V107 0 48).toInt := t227
            have t228 : emitted V107 V229 (pA V107) 13 0 0 := t228
            have r231 : 0 ≤ ((V229 0 48)).toInt ∧ ((V229 0 48)).toInt ≤ 10000 := hMV229 0 48
            have pq232 : (V107 0 49).toInt = ((V 0 49)).toInt := congrArg Int32.toInt ((ajV107 0 49 rfl).trans ((ajV90 0 49 rfl).trans ((ajV70 0 49 rfl).trans ((ajV51 0 49 rfl).trans ((ajV33 0 49 rfl).trans (ajV8 0 49 rfl))))))
            refine lv_istore_n (lv' := [(2, .int z223), (1, .int z64), (0, .ref (ad 0))]) hx hb dX12_pick_43 rfl hl (by decide) rfl (fun ls hl => ?_)
            refine lv_aload_n hx hb dX12_pick_44 rfl (lv_at hl 2 rfl) ?_
            refine va_get (D := D) (ci := 12) (v := .ref (ad 46)) (C := RX12) (T := TX12) (N := 100) hx hb hg inX12 hown hK hP 0 rfl rfl 46 (by decide) (hg _ w1756) (fun _ h9 => h9) rfl dX12_pick_45 ?_
            refine lv_iload_n hx hb dX12_pick_48 rfl (lv_at hl 1 rfl) ?_
            refine lv_aload_n hx hb dX12_pick_49 rfl (lv_at hl 2 rfl) ?_
            refine va_get (D := D) (ci := 12) (v := .int (V229 0 49)) (C := RX12) (T := TX12) (N := 100) hx hb hg inX12 hown hK hP 0 rfl rfl 49 (by decide) (hg _ w1759) (fun _ h9 => h9) rfl dX12_pick_50 ?_
            refine g_top (v := (V 0 49)) ((ajV229 0 49 rfl).trans ((ajV107 0 49 rfl).trans ((ajV90 0 49 rfl).trans ((ajV70 0 49 rfl).trans ((ajV51 0 49 rfl).trans ((ajV33 0 49 rfl).trans (ajV8 0 49 rfl))))))) ?_
            refine lv_aload_n hx hb dX12_pick_53 rfl (lv_at hl 2 rfl) ?_
            refine va_get (D := D) (ci := 12) (v := .int (V229 0 48)) (C := RX12) (T := TX12) (N := 100) hx hb hg inX12 hown hK hP 0 rfl rfl 48 (by decide) (hg _ w1758) (fun _ h9 => h9) rfl dX12_pick_54 ?_
            refine lv_iadd hx hb dX12_pick_57 ?_
            refine lv_topi (fun z233 ez233 => ?_)
            have hz233 : z233.toInt = ((V 0 49)).toInt + ((V229 0 48)).toInt := i_add ez233 rfl rfl (by omega)
            refine va_iast (D := D) (i := z64) (x := z233) hx hb hK hP hD hS 39 38 rfl rfl (i_in (a := z64.toInt) rfl (by first | omega | ((try (have i_t81 := Imp.go t81 (by omega))); (try (have i_t24 := Imp.go t24 (by omega))); (try (have i_t24 := Imp.go t24 (by omega))); (try (have i_t81 := Imp.go t81 (by omega))); omega))) dX12_pick_58 (fun H locs hP hD hS => ?_)
            obtain ⟨V234, hV234⟩ : ∃ z, z = up2 V229 46 (Int32.toNatClampNeg z64) z233 := ⟨_, rfl⟩
            have hP : va_P D vwCl (mw ad kk ks.1 V234 L91) H := by rw [hV234]; exact hP
            have hD : va_D A (mw ad kk ks.1 V234 L91) := by rw [hV234]; exact hD
            have hMV234 : rgd bM V234 := hMV229.put hV234 (i_full _)
            have agV234 : agr [(0, 7), (0, 8), (0, 48), (0, 50)] [35, 36, 37, 38, 45, 46, 47] V V234 := agV229.up hV234 rfl
            refine lv_aload_n hx hb dX12_pick_59 rfl (lv_at hl 2 rfl) ?_
            have pq235 : (V234 0 8).toInt = ((V107 0 8)).toInt := congrArg Int32.toInt ((up2_o hV234 (by decide)).trans (ajV229 0 8 rfl))
            have pq236 : (V234 0 50).toInt = ((V90 0 50)).toInt := congrArg Int32.toInt ((up2_o hV234 (by decide)).trans ((ajV229 0 50 rfl).trans (ajV107 0 50 rfl)))
            refine gA_void (gA_runV (As := []) (rest := []) (ci := 12) (q0 := 0) hx hb hml hown hg hP hD hK hS hA hnw hgk (s_expressionB l D ks H.size ad kk V234 L91  hMV234 (show 1 ≤ (V234 0 8).toInt from by first | omega | ((try (have i_t81 := Imp.go t81 (by omega))); (try (have i_t24 := Imp.go t24 (by omega))); (try (have i_t24 := Imp.go t24 (by omega))); (try (have i_t81 := Imp.go t81 (by omega))); omega)) (show (V234 0 50).toInt ≤ 8 from by first | omega | ((try (have i_t81 := Imp.go t81 (by omega))); (try (have i_t24 := Imp.go t24 (by omega))); (try (have i_t24 := Imp.go t24 (by omega))); (try (have i_t81 := Imp.go t81 (by omega))); omega))) w2120 w2122 w106 w172 w2123 rfl rfl hdV_yX12_expression ⟨(by show 4 + 1 ≤ 10 * dd + 14; omega), (by show 8 + (3 + 11) + (86) ≤ 300 * dd + 460; omega)⟩ rfl hl.1 rfl (Nat.le_of_ble_eq_true rfl) dX12_pick_60 ⟨Nat.le_of_ble_eq_true rfl, Nat.le_of_ble_eq_true rfl⟩) hP hD hK hS hA (fun u238 H locs w239 hP hD hK hS => ?_)
            obtain ⟨V247, L248⟩ := u238
            obtain ⟨hMV247, ajV247, axL248, t240, t241, t242, t243, t244, t245, t246⟩ := w239
            have alL248 : agL [35, 36, 37, 38, 45, 46, 47] L L248 := agL.tr alL91 axL248 (by decide)
            have hP : va_P D vwCl (mw ad kk ks.1 V247 L248) H := hP
            have hD : va_D A (mw ad kk ks.1 V247 L248) := hD
            have hMV247 : rgd bM V247 := hMV247
            have ajV247 : agr [(0, 7), (0, 8), (0, 48), (0, 50)] [35, 36, 37, 38, 45, 46, 47] V234 V247 := ajV247
            have agV247 : agr [(0, 7), (0, 8), (0, 48), (0, 50)] [35, 36, 37, 38, 45, 46, 47] V V247 := agV234.tr ajV247 (by decide) (by decide)
            have t240 : (V247 0 48).toInt = (V234 0 48).toInt := t240
            have t241 : (V247 0 50).toInt = (V234 0 50).toInt := t241
            have t242 : (V247 0 8).toInt = (V234 0 8).toInt := t242
            have t243 : NoV 35 V234 V247 := t243
            have t244 : NoV 37 V234 V247 := t244
            have t245 : NoL 36 L91 L248 := t245
            have t246 : NoL 38 L91 L248 := t246
            have pq249 : (V234 0 48).toInt = ((V229 0 48)).toInt := congrArg Int32.toInt (up2_o hV234 (by decide))
            have r250 : 0 ≤ ((V247 0 48)).toInt ∧ ((V247 0 48)).toInt ≤ 10000 := hMV247 0 48
            have r251 : 0 ≤ ((V247 0 50)).toInt ∧ ((V247 0 50)).toInt ≤ 9 := hMV247 0 50
            have r252 : 0 ≤ ((V247 0 8)).toInt ∧ ((V247 0 8)).toInt ≤ 70000 := hMV247 0 8
            refine lv_aload_n hx hb dX12_pick_63 rfl (lv_at hl 2 rfl) ?_
            refine lv_bipush (v := 41) hx hb dX12_pick_64 (by decide) ?_
            have r253 : Int32.toInt 41 = 41 := by decide
            refine gA_void (gA_runV (As := [.int 41]) (rest := []) (ci := 12) (q0 := 0) hx hb hml hown hg hP hD hK hS hA hnw hgk (s_takeSignB l D ks H.size ad kk V247 L248 41 hMV247 (show 1 ≤ (V247 0 8).toInt from by first | omega | ((try (have i_t81 := Imp.go t81 (by omega))); (try (have i_t24 := Imp.go t24 (by omega))); (try (have i_t24 := Imp.go t24 (by omega))); (try (have i_t81 := Imp.go t81 (by omega))); omega))) w2079 w2081 w96 w172 w2082 rfl rfl hdV_yX12_takeSign ⟨(by show 1 + 1 ≤ 10 * dd + 14; omega), (by show 8 + (2 + 11) + (21) ≤ 300 * dd + 460; omega)⟩ rfl hl.1 rfl (Nat.le_of_ble_eq_true rfl) dX12_pick_66 ⟨Nat.le_of_ble_eq_true rfl, Nat.le_of_ble_eq_true rfl⟩) hP hD hK hS hA (fun u255 H locs w256 hP hD hK hS => ?_)
            obtain ⟨V258, L259⟩ := u255
            obtain ⟨hMV258, ajV258, axL259, t257⟩ := w256
            have axL259 : L248 = L259 := Eq.symm axL259
            subst axL259
            have hP : va_P D vwCl (mw ad kk ks.1 V258 L248) H := hP
            have hD : va_D A (mw ad kk ks.1 V258 L248) := hD
            have hMV258 : rgd bM V258 := hMV258
            have ajV258 : agr [(0, 7), (0, 8)] [] V247 V258 := ajV258
            have agV258 : agr [(0, 7), (0, 8), (0, 48), (0, 50)] [35, 36, 37, 38, 45, 46, 47] V V258 := agV247.tr ajV258 (by decide) (by decide)
            have t257 : (V258 0 8).toInt = (V247 0 8).toInt := t257
            have r260 : 0 ≤ ((V258 0 8)).toInt ∧ ((V258 0 8)).toInt ≤ 70000 := hMV258 0 8
            refine lv_aload_n hx hb dX12_pick_69 rfl (lv_at hl 2 rfl) ?_
            refine va_get (D := D) (ci := 12) (v := .ref (ad 46)) (C := RX12) (T := TX12) (N := 100) hx hb hg inX12 hown hK hP 0 rfl rfl 46 (by decide) (hg _ w1756) (fun _ h9 => h9) rfl dX12_pick_70 ?_
            refine lv_iload_n hx hb dX12_pick_73 rfl (lv_at hl 0 rfl) ?_
            refine lv_aload_n hx hb dX12_pick_74 rfl (lv_at hl 2 rfl) ?_
            refine va_get (D := D) (ci := 12) (v := .int (V258 0 49)) (C := RX12) (T := TX12) (N := 100) hx hb hg inX12 hown hK hP 0 rfl rfl 49 (by decide) (hg _ w1759) (fun _ h9 => h9) rfl dX12_pick_75 ?_
            refine g_top (v := (V 0 49)) ((ajV258 0 49 rfl).trans ((ajV247 0 49 rfl).trans ((up2_o hV234 (by decide)).trans ((ajV229 0 49 rfl).trans ((ajV107 0 49 rfl).trans ((ajV90 0 49 rfl).trans ((ajV70 0 49 rfl).trans ((ajV51 0 49 rfl).trans ((ajV33 0 49 rfl).trans (ajV8 0 49 rfl)))))))))) ?_
            refine lv_aload_n hx hb dX12_pick_78 rfl (lv_at hl 2 rfl) ?_
            refine va_get (D := D) (ci := 12) (v := .int (V258 0 48)) (C := RX12) (T := TX12) (N := 100) hx hb hg inX12 hown hK hP 0 rfl rfl 48 (by decide) (hg _ w1758) (fun _ h9 => h9) rfl dX12_pick_79 ?_
            refine g_top (v := (V247 0 48)) (ajV258 0 48 rfl) ?_
            refine lv_iadd hx hb dX12_pick_82 ?_
            refine lv_topi (fun z261 ez261 => ?_)
            have hz261 : z261.toInt = ((V 0 49)).toInt + ((V247 0 48)).toInt := i_add ez261 rfl rfl (by omega)
            refine va_iast (D := D) (i := z223) (x := z261) hx hb hK hP hD hS 39 38 rfl rfl (i_in (a := z223.toInt) rfl (by first | omega | ((try (have i_t81 := Imp.go t81 (by omega))); (try (have i_t24 := Imp.go t24 (by omega))); (try (have i_t24 := Imp.go t24 (by omega))); (try (have i_t81 := Imp.go t81 (by omega))); omega))) dX12_pick_83 (fun H locs hP hD hS => ?_)
            obtain ⟨V262, hV262⟩ : ∃ z, z = up2 V258 46 (Int32.toNatClampNeg z223) z261 := ⟨_, rfl⟩
            have hP : va_P D vwCl (mw ad kk ks.1 V262 L248) H := by rw [hV262]; exact hP
            have hD : va_D A (mw ad kk ks.1 V262 L248) := by rw [hV262]; exact hD
            have hMV262 : rgd bM V262 := hMV258.put hV262 (i_full _)
            have agV262 : agr [(0, 7), (0, 8), (0, 48), (0, 50)] [35, 36, 37, 38, 45, 46, 47] V V262 := agV258.up hV262 rfl
            have pq263 : (V262 0 7).toInt = ((V258 0 7)).toInt := congrArg Int32.toInt (up2_o hV262 (by decide))
            have pq264 : (V262 0 48).toInt = ((V247 0 48)).toInt := congrArg Int32.toInt ((up2_o hV262 (by decide)).trans (ajV258 0 48 rfl))
            have pq265 : (V262 0 8).toInt = ((V258 0 8)).toInt := congrArg Int32.toInt (up2_o hV262 (by decide))
            have pq266 : (V262 0 50).toInt = ((V247 0 50)).toInt := congrArg Int32.toInt ((up2_o hV262 (by decide)).trans (ajV258 0 50 rfl))
            have rw267 : RoV 35 bq V V262 := (fun k hk => ((up2_o hV262 (by decide)).trans ((ajV258 35 k rfl).trans ((t243 k).trans ((up2_o hV234 (by decide)).trans ((ajV229 35 k rfl).trans ((ajV107 35 k rfl).trans ((t86 k hk).trans ((ajV70 35 k rfl).trans ((ajV51 35 k rfl).trans ((t29 k hk).trans ((ajV8 35 k rfl).trans rfl))))))))))))
            have rw268 : RoV 37 bq V V262 := (fun k hk => ((up2_o hV262 (by decide)).trans ((ajV258 37 k rfl).trans ((t244 k).trans ((up2_o hV234 (by decide)).trans ((ajV229 37 k rfl).trans ((ajV107 37 k rfl).trans ((t87 k hk).trans ((ajV70 37 k rfl).trans ((ajV51 37 k rfl).trans ((t30 k hk).trans ((ajV8 37 k rfl).trans rfl))))))))))))
            have rw269 : RoL 36 20 bq L L248 := (fun k hk => ((t245 k).trans ((t88 k hk).trans ((t31 k hk).trans rfl))))
            have rw270 : RoL 38 20 bq L L248 := (fun k hk => ((t246 k).trans ((t89 k hk).trans ((t32 k hk).trans rfl))))
            exact W.vret hx hb hr (fun t ht hW => ⟨⟨(V262, L248), rfl, ⟨hMV262, agV262, alL248, (Imp.mk (fun hp => have hp : (V262 0 8).toInt = 0 := hp; (show (V262 0 48).toInt - (V 0 48).toInt ≤ 2 * ((V262 0 7).toInt - (V 0 7).toInt) from by first | omega | ((try (have i_t81 := Imp.go t81 (by omega))); (try (have i_t24 := Imp.go t24 (by omega))); (try (have i_t24 := Imp.go t24 (by omega))); (try (have i_t81 := Imp.go t81 (by omega))); omega)))), (show (V262 0 48).toInt ≤ 8053 - 6 * (V 0 50).toInt from by first | omega | ((try (have i_t81 := Imp.go t81 (by omega))); (try (have i_t24 := Imp.go t24 (by omega))); (try (have i_t24 := Imp.go t24 (by omega))); (try (have i_t81 := Imp.go t81 (by omega))); omega)), (show (V262 0 50).toInt = (V 0 50).toInt from by first | omega | ((try (have i_t81 := Imp.go t81 (by omega))); (try (have i_t24 := Imp.go t24 (by omega))); (try (have i_t24 := Imp.go t24 (by omega))); (try (have i_t81 := Imp.go t81 (by omega))); omega)), (show (V 0 48).toInt ≤ (V262 0 48).toInt from by first | omega | ((try (have i_t81 := Imp.go t81 (by omega))); (try (have i_t24 := Imp.go t24 (by omega))); (try (have i_t24 := Imp.go t24 (by omega))); (try (have i_t81 := Imp.go t81 (by omega))); omega)), (Or.inr ⟨(show 1 ≤ (V262 0 8).toInt from by omega), (fun k => by rw [show (V262 0 8).toInt = (V107 0 8).toInt from by omega]; exact hb219 k)⟩), rw267, rw268, rw269, rw270⟩, by rw [ht]; exact hP, va_K.moved hW.alike hK, hD⟩, hS.F ht⟩) hS.2.2 dX12_pick_84
        · skip
          have hb271 : ∀ k, Rc gT (Crun gs (Itake 40 :: Iexpr gd :: Itake 44 :: Iexpr gd :: Itake 44 :: Iexpr gd :: Itake 41 :: k)) (Cbad (V90 0 8).toInt) := fun k => (hr57 k).tr (h97 (Itake 44 :: Iexpr gd :: Itake 41 :: k))
          refine lv_aload_n hx hb dX12_pick_29 rfl (lv_at hl 1 rfl) ?_
          refine lv_bipush (v := 44) hx hb dX12_pick_30 (by decide) ?_
          refine gA_void (gA_runV (As := [.int 44]) (rest := []) (ci := 12) (q0 := 0) hx hb hml hown hg hP hD hK hS hA hnw hgk (s_takeSignB l D ks H.size ad kk V90 L91 44 hMV90 (show 1 ≤ (V90 0 8).toInt from by first | omega | ((try (have i_t81 := Imp.go t81 (by omega))); (try (have i_t24 := Imp.go t24 (by omega))); (try (have i_t24 := Imp.go t24 (by omega))); (try (have i_t81 := Imp.go t81 (by omega))); omega))) w2079 w2081 w96 w172 w2082 rfl rfl hdV_yX12_takeSign ⟨(by show 1 + 1 ≤ 10 * dd + 14; omega), (by show 8 + (2 + 11) + (21) ≤ 300 * dd + 460; omega)⟩ rfl hl.1 rfl (Nat.le_of_ble_eq_true rfl) dX12_pick_32 ⟨Nat.le_of_ble_eq_true rfl, Nat.le_of_ble_eq_true rfl⟩) hP hD hK hS hA (fun u273 H locs w274 hP hD hK hS => ?_)
          obtain ⟨V276, L277⟩ := u273
          obtain ⟨hMV276, ajV276, axL277, t275⟩ := w274
          have axL277 : L91 = L277 := Eq.symm axL277
          subst axL277
          have hP : va_P D vwCl (mw ad kk ks.1 V276 L91) H := hP
          have hD : va_D A (mw ad kk ks.1 V276 L91) := hD
          have hMV276 : rgd bM V276 := hMV276
          have ajV276 : agr [(0, 7), (0, 8)] [] V90 V276 := ajV276
          have agV276 : agr [(0, 7), (0, 8), (0, 48), (0, 50)] [35, 36, 37, 38, 45, 46, 47] V V276 := agV90.tr ajV276 (by decide) (by decide)
          have t275 : (V276 0 8).toInt = (V90 0 8).toInt := t275
          have r278 : 0 ≤ ((V276 0 8)).toInt ∧ ((V276 0 8)).toInt ≤ 70000 := hMV276 0 8
          refine lv_aload_n hx hb dX12_pick_35 rfl (lv_at hl 1 rfl) ?_
          refine lv_bipush (v := 13) hx hb dX12_pick_36 (by decide) ?_
          refine lv_iconst (v := 0) hx hb dX12_pick_38 (by decide) ?_
          refine lv_iconst (v := 0) hx hb dX12_pick_39 (by decide) ?_
          have r279 : Int32.toInt 13 = 13 := by decide
          have pq280 : (V276 0 48).toInt = ((V90 0 48)).toInt := congrArg Int32.toInt (ajV276 0 48 rfl)
          refine gA_int (gA_runV (As := [.int 13, .int 0, .int 0]) (rest := []) (ci := 12) (q0 := 0) hx hb hml hown hg hP hD hK hS hA hnw hgk (s_emit3 l D ks H.size ad kk V276 L91 13 0 0 hMV276 (show (V276 0 48).toInt ≤ 9999 from by first | omega | ((try (have i_t81 := Imp.go t81 (by omega))); (try (have i_t24 := Imp.go t24 (by omega))); (try (have i_t24 := Imp.go t24 (by omega))); (try (have i_t81 := Imp.go t81 (by omega))); omega))) w2140 w2142 w111 w172 w2143 rfl rfl hdV_yX12_emit ⟨(by show 0 + 1 ≤ 10 * dd + 14; omega), (by show 8 + (4 + 11) + (0) ≤ 300 * dd + 460; omega)⟩ rfl hl.1 rfl (Nat.le_of_ble_eq_true rfl) dX12_pick_40 ⟨Nat.le_of_ble_eq_true rfl, Nat.le_of_ble_eq_true rfl⟩) hP hD hK hS hA (fun z281 u282 H locs w283 hP hD hK hS => ?_)
          obtain ⟨V287, L288⟩ := u282
          obtain ⟨hMV287, ajV287, axL288, rgz281, t284, t285, t286⟩ := w283
          have axL288 : L91 = L288 := Eq.symm axL288
          subst axL288
          have hP : va_P D vwCl (mw ad kk ks.1 V287 L91) H := hP
          have hD : va_D A (mw ad kk ks.1 V287 L91) := hD
          have hMV287 : rgd bM V287 := hMV287
          have ajV287 : agr [(0, 48)] [45, 46, 47] V276 V287 := ajV287
          have agV287 : agr [(0, 7), (0, 8), (0, 48), (0, 50)] [35, 36, 37, 38, 45, 46, 47] V V287 := agV276.tr ajV287 (by decide) (by decide)
          have rgz281 : 0 ≤ z281.toInt ∧ z281.toInt ≤ 20000 := rgz281
          have t284 : (V287 0 48).toInt = (V276 0 48).toInt + 1 := t284
          have t285 : z281.toInt = (V276 0 49).toInt + (V276 0 48).toInt := t285
          have t286 : emitted V276 V287 (pA V276) 13 0 0 := t286
          have r289 : 0 ≤ ((V287 0 48)).toInt ∧ ((V287 0 48)).toInt ≤ 10000 := hMV287 0 48
          have pq290 : (V276 0 49).toInt = ((V 0 49)).toInt := congrArg Int32.toInt ((ajV276 0 49 rfl).trans ((ajV90 0 49 rfl).trans ((ajV70 0 49 rfl).trans ((ajV51 0 49 rfl).trans ((ajV33 0 49 rfl).trans (ajV8 0 49 rfl))))))
          refine lv_istore_n (lv' := [(2, .int z281), (1, .int z64), (0, .ref (ad 0))]) hx hb dX12_pick_43 rfl hl (by decide) rfl (fun ls hl => ?_)
          refine lv_aload_n hx hb dX12_pick_44 rfl (lv_at hl 2 rfl) ?_
          refine va_get (D := D) (ci := 12) (v := .ref (ad 46)) (C := RX12) (T := TX12) (N := 100) hx hb hg inX12 hown hK hP 0 rfl rfl 46 (by decide) (hg _ w1756) (fun _ h9 => h9) rfl dX12_pick_45 ?_
          refine lv_iload_n hx hb dX12_pick_48 rfl (lv_at hl 1 rfl) ?_
          refine lv_aload_n hx hb dX12_pick_49 rfl (lv_at hl 2 rfl) ?_
          refine va_get (D := D) (ci := 12) (v := .int (V287 0 49)) (C := RX12) (T := TX12) (N := 100) hx hb hg inX12 hown hK hP 0 rfl rfl 49 (by decide) (hg _ w1759) (fun _ h9 => h9) rfl dX12_pick_50 ?_
          refine g_top (v := (V 0 49)) ((ajV287 0 49 rfl).trans ((ajV276 0 49 rfl).trans ((ajV90 0 49 rfl).trans ((ajV70 0 49 rfl).trans ((ajV51 0 49 rfl).trans ((ajV33 0 49 rfl).trans (ajV8 0 49 rfl))))))) ?_
          refine lv_aload_n hx hb dX12_pick_53 rfl (lv_at hl 2 rfl) ?_
          refine va_get (D := D) (ci := 12) (v := .int (V287 0 48)) (C := RX12) (T := TX12) (N := 100) hx hb hg inX12 hown hK hP 0 rfl rfl 48 (by decide) (hg _ w1758) (fun _ h9 => h9) rfl dX12_pick_54 ?_
          refine lv_iadd hx hb dX12_pick_57 ?_
          refine lv_topi (fun z291 ez291 => ?_)
          have hz291 : z291.toInt = ((V 0 49)).toInt + ((V287 0 48)).toInt := i_add ez291 rfl rfl (by omega)
          refine va_iast (D := D) (i := z64) (x := z291) hx hb hK hP hD hS 39 38 rfl rfl (i_in (a := z64.toInt) rfl (by first | omega | ((try (have i_t81 := Imp.go t81 (by omega))); (try (have i_t24 := Imp.go t24 (by omega))); (try (have i_t24 := Imp.go t24 (by omega))); (try (have i_t81 := Imp.go t81 (by omega))); omega))) dX12_pick_58 (fun H locs hP hD hS => ?_)
          obtain ⟨V292, hV292⟩ : ∃ z, z = up2 V287 46 (Int32.toNatClampNeg z64) z291 := ⟨_, rfl⟩
          have hP : va_P D vwCl (mw ad kk ks.1 V292 L91) H := by rw [hV292]; exact hP
          have hD : va_D A (mw ad kk ks.1 V292 L91) := by rw [hV292]; exact hD
          have hMV292 : rgd bM V292 := hMV287.put hV292 (i_full _)
          have agV292 : agr [(0, 7), (0, 8), (0, 48), (0, 50)] [35, 36, 37, 38, 45, 46, 47] V V292 := agV287.up hV292 rfl
          refine lv_aload_n hx hb dX12_pick_59 rfl (lv_at hl 2 rfl) ?_
          have pq293 : (V292 0 8).toInt = ((V276 0 8)).toInt := congrArg Int32.toInt ((up2_o hV292 (by decide)).trans (ajV287 0 8 rfl))
          have pq294 : (V292 0 50).toInt = ((V90 0 50)).toInt := congrArg Int32.toInt ((up2_o hV292 (by decide)).trans ((ajV287 0 50 rfl).trans (ajV276 0 50 rfl)))
          refine gA_void (gA_runV (As := []) (rest := []) (ci := 12) (q0 := 0) hx hb hml hown hg hP hD hK hS hA hnw hgk (s_expressionB l D ks H.size ad kk V292 L91  hMV292 (show 1 ≤ (V292 0 8).toInt from by first | omega | ((try (have i_t81 := Imp.go t81 (by omega))); (try (have i_t24 := Imp.go t24 (by omega))); (try (have i_t24 := Imp.go t24 (by omega))); (try (have i_t81 := Imp.go t81 (by omega))); omega)) (show (V292 0 50).toInt ≤ 8 from by first | omega | ((try (have i_t81 := Imp.go t81 (by omega))); (try (have i_t24 := Imp.go t24 (by omega))); (try (have i_t24 := Imp.go t24 (by omega))); (try (have i_t81 := Imp.go t81 (by omega))); omega))) w2120 w2122 w106 w172 w2123 rfl rfl hdV_yX12_expression ⟨(by show 4 + 1 ≤ 10 * dd + 14; omega), (by show 8 + (3 + 11) + (86) ≤ 300 * dd + 460; omega)⟩ rfl hl.1 rfl (Nat.le_of_ble_eq_true rfl) dX12_pick_60 ⟨Nat.le_of_ble_eq_true rfl, Nat.le_of_ble_eq_true rfl⟩) hP hD hK hS hA (fun u296 H locs w297 hP hD hK hS => ?_)
          obtain ⟨V305, L306⟩ := u296
          obtain ⟨hMV305, ajV305, axL306, t298, t299, t300, t301, t302, t303, t304⟩ := w297
          have alL306 : agL [35, 36, 37, 38, 45, 46, 47] L L306 := agL.tr alL91 axL306 (by decide)
          have hP : va_P D vwCl (mw ad kk ks.1 V305 L306) H := hP
          have hD : va_D A (mw ad kk ks.1 V305 L306) := hD
          have hMV305 : rgd bM V305 := hMV305
          have ajV305 : agr [(0, 7), (0, 8), (0, 48), (0, 50)] [35, 36, 37, 38, 45, 46, 47] V292 V305 := ajV305
          have agV305 : agr [(0, 7), (0, 8), (0, 48), (0, 50)] [35, 36, 37, 38, 45, 46, 47] V V305 := agV292.tr ajV305 (by decide) (by decide)
          have t298 : (V305 0 48).toInt = (V292 0 48).toInt := t298
          have t299 : (V305 0 50).toInt = (V292 0 50).toInt := t299
          have t300 : (V305 0 8).toInt = (V292 0 8).toInt := t300
          have t301 : NoV 35 V292 V305 := t301
          have t302 : NoV 37 V292 V305 := t302
          have t303 : NoL 36 L91 L306 := t303
          have t304 : NoL 38 L91 L306 := t304
          have pq307 : (V292 0 48).toInt = ((V287 0 48)).toInt := congrArg Int32.toInt (up2_o hV292 (by decide))
          have r308 : 0 ≤ ((V305 0 48)).toInt ∧ ((V305 0 48)).toInt ≤ 10000 := hMV305 0 48
          have r309 : 0 ≤ ((V305 0 50)).toInt ∧ ((V305 0 50)).toInt ≤ 9 := hMV305 0 50
          have r310 : 0 ≤ ((V305 0 8)).toInt ∧ ((V305 0 8)).toInt ≤ 70000 := hMV305 0 8
          refine lv_aload_n hx hb dX12_pick_63 rfl (lv_at hl 2 rfl) ?_
          refine lv_bipush (v := 41) hx hb dX12_pick_64 (by decide) ?_
          have r311 : Int32.toInt 41 = 41 := by decide
          refine gA_void (gA_runV (As := [.int 41]) (rest := []) (ci := 12) (q0 := 0) hx hb hml hown hg hP hD hK hS hA hnw hgk (s_takeSignB l D ks H.size ad kk V305 L306 41 hMV305 (show 1 ≤ (V305 0 8).toInt from by first | omega | ((try (have i_t81 := Imp.go t81 (by omega))); (try (have i_t24 := Imp.go t24 (by omega))); (try (have i_t24 := Imp.go t24 (by omega))); (try (have i_t81 := Imp.go t81 (by omega))); omega))) w2079 w2081 w96 w172 w2082 rfl rfl hdV_yX12_takeSign ⟨(by show 1 + 1 ≤ 10 * dd + 14; omega), (by show 8 + (2 + 11) + (21) ≤ 300 * dd + 460; omega)⟩ rfl hl.1 rfl (Nat.le_of_ble_eq_true rfl) dX12_pick_66 ⟨Nat.le_of_ble_eq_true rfl, Nat.le_of_ble_eq_true rfl⟩) hP hD hK hS hA (fun u313 H locs w314 hP hD hK hS => ?_)
          obtain ⟨V316, L317⟩ := u313
          obtain ⟨hMV316, ajV316, axL317, t315⟩ := w314
          have axL317 : L306 = L317 := Eq.symm axL317
          subst axL317
          have hP : va_P D vwCl (mw ad kk ks.1 V316 L306) H := hP
          have hD : va_D A (mw ad kk ks.1 V316 L306) := hD
          have hMV316 : rgd bM V316 := hMV316
          have ajV316 : agr [(0, 7), (0, 8)] [] V305 V316 := ajV316
          have agV316 : agr [(0, 7), (0, 8), (0, 48), (0, 50)] [35, 36, 37, 38, 45, 46, 47] V V316 := agV305.tr ajV316 (by decide) (by decide)
          have t315 : (V316 0 8).toInt = (V305 0 8).toInt := t315
          have r318 : 0 ≤ ((V316 0 8)).toInt ∧ ((V316 0 8)).toInt ≤ 70000 := hMV316 0 8
          refine lv_aload_n hx hb dX12_pick_69 rfl (lv_at hl 2 rfl) ?_
          refine va_get (D := D) (ci := 12) (v := .ref (ad 46)) (C := RX12) (T := TX12) (N := 100) hx hb hg inX12 hown hK hP 0 rfl rfl 46 (by decide) (hg _ w1756) (fun _ h9 => h9) rfl dX12_pick_70 ?_
          refine lv_iload_n hx hb dX12_pick_73 rfl (lv_at hl 0 rfl) ?_
          refine lv_aload_n hx hb dX12_pick_74 rfl (lv_at hl 2 rfl) ?_
          refine va_get (D := D) (ci := 12) (v := .int (V316 0 49)) (C := RX12) (T := TX12) (N := 100) hx hb hg inX12 hown hK hP 0 rfl rfl 49 (by decide) (hg _ w1759) (fun _ h9 => h9) rfl dX12_pick_75 ?_
          refine g_top (v := (V 0 49)) ((ajV316 0 49 rfl).trans ((ajV305 0 49 rfl).trans ((up2_o hV292 (by decide)).trans ((ajV287 0 49 rfl).trans ((ajV276 0 49 rfl).trans ((ajV90 0 49 rfl).trans ((ajV70 0 49 rfl).trans ((ajV51 0 49 rfl).trans ((ajV33 0 49 rfl).trans (ajV8 0 49 rfl)))))))))) ?_
          refine lv_aload_n hx hb dX12_pick_78 rfl (lv_at hl 2 rfl) ?_
          refine va_get (D := D) (ci := 12) (v := .int (V316 0 48)) (C := RX12) (T := TX12) (N := 100) hx hb hg inX12 hown hK hP 0 rfl rfl 48 (by decide) (hg _ w1758) (fun _ h9 => h9) rfl dX12_pick_79 ?_
          refine g_top (v := (V305 0 48)) (ajV316 0 48 rfl) ?_
          refine lv_iadd hx hb dX12_pick_82 ?_
          refine lv_topi (fun z319 ez319 => ?_)
          have hz319 : z319.toInt = ((V 0 49)).toInt + ((V305 0 48)).toInt := i_add ez319 rfl rfl (by omega)
          refine va_iast (D := D) (i := z281) (x := z319) hx hb hK hP hD hS 39 38 rfl rfl (i_in (a := z281.toInt) rfl (by first | omega | ((try (have i_t81 := Imp.go t81 (by omega))); (try (have i_t24 := Imp.go t24 (by omega))); (try (have i_t24 := Imp.go t24 (by omega))); (try (have i_t81 := Imp.go t81 (by omega))); omega))) dX12_pick_83 (fun H locs hP hD hS => ?_)
          obtain ⟨V320, hV320⟩ : ∃ z, z = up2 V316 46 (Int32.toNatClampNeg z281) z319 := ⟨_, rfl⟩
          have hP : va_P D vwCl (mw ad kk ks.1 V320 L306) H := by rw [hV320]; exact hP
          have hD : va_D A (mw ad kk ks.1 V320 L306) := by rw [hV320]; exact hD
          have hMV320 : rgd bM V320 := hMV316.put hV320 (i_full _)
          have agV320 : agr [(0, 7), (0, 8), (0, 48), (0, 50)] [35, 36, 37, 38, 45, 46, 47] V V320 := agV316.up hV320 rfl
          have pq321 : (V320 0 7).toInt = ((V316 0 7)).toInt := congrArg Int32.toInt (up2_o hV320 (by decide))
          have pq322 : (V320 0 48).toInt = ((V305 0 48)).toInt := congrArg Int32.toInt ((up2_o hV320 (by decide)).trans (ajV316 0 48 rfl))
          have pq323 : (V320 0 8).toInt = ((V316 0 8)).toInt := congrArg Int32.toInt (up2_o hV320 (by decide))
          have pq324 : (V320 0 50).toInt = ((V305 0 50)).toInt := congrArg Int32.toInt ((up2_o hV320 (by decide)).trans (ajV316 0 50 rfl))
          have rw325 : RoV 35 bq V V320 := (fun k hk => ((up2_o hV320 (by decide)).trans ((ajV316 35 k rfl).trans ((t301 k).trans ((up2_o hV292 (by decide)).trans ((ajV287 35 k rfl).trans ((ajV276 35 k rfl).trans ((t86 k hk).trans ((ajV70 35 k rfl).trans ((ajV51 35 k rfl).trans ((t29 k hk).trans ((ajV8 35 k rfl).trans rfl))))))))))))
          have rw326 : RoV 37 bq V V320 := (fun k hk => ((up2_o hV320 (by decide)).trans ((ajV316 37 k rfl).trans ((t302 k).trans ((up2_o hV292 (by decide)).trans ((ajV287 37 k rfl).trans ((ajV276 37 k rfl).trans ((t87 k hk).trans ((ajV70 37 k rfl).trans ((ajV51 37 k rfl).trans ((t30 k hk).trans ((ajV8 37 k rfl).trans rfl))))))))))))
          have rw327 : RoL 36 20 bq L L306 := (fun k hk => ((t303 k).trans ((t88 k hk).trans ((t31 k hk).trans rfl))))
          have rw328 : RoL 38 20 bq L L306 := (fun k hk => ((t304 k).trans ((t89 k hk).trans ((t32 k hk).trans rfl))))
          exact W.vret hx hb hr (fun t ht hW => ⟨⟨(V320, L306), rfl, ⟨hMV320, agV320, alL306, (Imp.mk (fun hp => have hp : (V320 0 8).toInt = 0 := hp; (show (V320 0 48).toInt - (V 0 48).toInt ≤ 2 * ((V320 0 7).toInt - (V 0 7).toInt) from by first | omega | ((try (have i_t81 := Imp.go t81 (by omega))); (try (have i_t24 := Imp.go t24 (by omega))); (try (have i_t24 := Imp.go t24 (by omega))); (try (have i_t81 := Imp.go t81 (by omega))); omega)))), (show (V320 0 48).toInt ≤ 8053 - 6 * (V 0 50).toInt from by first | omega | ((try (have i_t81 := Imp.go t81 (by omega))); (try (have i_t24 := Imp.go t24 (by omega))); (try (have i_t24 := Imp.go t24 (by omega))); (try (have i_t81 := Imp.go t81 (by omega))); omega)), (show (V320 0 50).toInt = (V 0 50).toInt from by first | omega | ((try (have i_t81 := Imp.go t81 (by omega))); (try (have i_t24 := Imp.go t24 (by omega))); (try (have i_t24 := Imp.go t24 (by omega))); (try (have i_t81 := Imp.go t81 (by omega))); omega)), (show (V 0 48).toInt ≤ (V320 0 48).toInt from by first | omega | ((try (have i_t81 := Imp.go t81 (by omega))); (try (have i_t24 := Imp.go t24 (by omega))); (try (have i_t24 := Imp.go t24 (by omega))); (try (have i_t81 := Imp.go t81 (by omega))); omega)), (Or.inr ⟨(show 1 ≤ (V320 0 8).toInt from by omega), (fun k => by rw [show (V320 0 8).toInt = (V90 0 8).toInt from by omega]; exact hb271 k)⟩), rw325, rw326, rw327, rw328⟩, by rw [ht]; exact hP, va_K.moved hW.alike hK, hD⟩, hS.F ht⟩) hS.2.2 dX12_pick_84
      · skip
        have kd329 : gT.1 (sx39.1 0) ≠ 44 := fun h9 => h54 (h9.trans (by decide))
        have hb330 : ∀ k, Rc gT (Crun gs (Itake 40 :: Iexpr gd :: Itake 44 :: Iexpr gd :: Itake 44 :: Iexpr gd :: Itake 41 :: k)) (Cbad (V51 0 8).toInt) := fun k => Rc.go1 (hr43 k) ((tk_n kd329).trans (fl_eq rfl rl55))
        have r331 : 0 ≤ ((V51 0 8)).toInt ∧ ((V51 0 8)).toInt ≤ 70000 := hMV51 0 8
        refine lv_aload_n hx hb dX12_pick_16 rfl (lv_at hl 0 rfl) ?_
        refine lv_bipush (v := 12) hx hb dX12_pick_17 (by decide) ?_
        refine lv_iconst (v := 0) hx hb dX12_pick_19 (by decide) ?_
        refine lv_iconst (v := 0) hx hb dX12_pick_20 (by decide) ?_
        have r332 : Int32.toInt 12 = 12 := by decide
        have r333 : Int32.toInt 0 = 0 := by decide
        have pq334 : (V51 0 48).toInt = ((V33 0 48)).toInt := congrArg Int32.toInt (ajV51 0 48 rfl)
        refine gA_int (gA_runV (As := [.int 12, .int 0, .int 0]) (rest := []) (ci := 12) (q0 := 0) hx hb hml hown hg hP hD hK hS hA hnw hgk (s_emit3 l D ks H.size ad kk V51 L34 12 0 0 hMV51 (show (V51 0 48).toInt ≤ 9999 from by first | omega | ((try (have i_t24 := Imp.go t24 (by omega))); omega))) w2140 w2142 w111 w172 w2143 rfl rfl hdV_yX12_emit ⟨(by show 0 + 1 ≤ 10 * dd + 14; omega), (by show 8 + (4 + 11) + (0) ≤ 300 * dd + 460; omega)⟩ rfl hl.1 rfl (Nat.le_of_ble_eq_true rfl) dX12_pick_21 ⟨Nat.le_of_ble_eq_true rfl, Nat.le_of_ble_eq_true rfl⟩) hP hD hK hS hA (fun z335 u336 H locs w337 hP hD hK hS => ?_)
        obtain ⟨V341, L342⟩ := u336
        obtain ⟨hMV341, ajV341, axL342, rgz335, t338, t339, t340⟩ := w337
        have axL342 : L34 = L342 := Eq.symm axL342
        subst axL342
        have hP : va_P D vwCl (mw ad kk ks.1 V341 L34) H := hP
        have hD : va_D A (mw ad kk ks.1 V341 L34) := hD
        have hMV341 : rgd bM V341 := hMV341
        have ajV341 : agr [(0, 48)] [45, 46, 47] V51 V341 := ajV341
        have agV341 : agr [(0, 7), (0, 8), (0, 48), (0, 50)] [35, 36, 37, 38, 45, 46, 47] V V341 := agV51.tr ajV341 (by decide) (by decide)
        have rgz335 : 0 ≤ z335.toInt ∧ z335.toInt ≤ 20000 := rgz335
        have t338 : (V341 0 48).toInt = (V51 0 48).toInt + 1 := t338
        have t339 : z335.toInt = (V51 0 49).toInt + (V51 0 48).toInt := t339
        have t340 : emitted V51 V341 (pA V51) 12 0 0 := t340
        have r343 : 0 ≤ ((V341 0 48)).toInt ∧ ((V341 0 48)).toInt ≤ 10000 := hMV341 0 48
        have pq344 : (V51 0 49).toInt = ((V 0 49)).toInt := congrArg Int32.toInt ((ajV51 0 49 rfl).trans ((ajV33 0 49 rfl).trans (ajV8 0 49 rfl)))
        have r345 : 0 ≤ ((V 0 49)).toInt ∧ ((V 0 49)).toInt ≤ 10000 := hMV 0 49
        refine lv_istore_n (lv' := [(1, .int z335), (0, .ref (ad 0))]) hx hb dX12_pick_24 rfl hl (by decide) rfl (fun ls hl => ?_)
        refine lv_aload_n hx hb dX12_pick_25 rfl (lv_at hl 1 rfl) ?_
        have pq346 : (V341 0 8).toInt = ((V51 0 8)).toInt := congrArg Int32.toInt (ajV341 0 8 rfl)
        have pq347 : (V341 0 50).toInt = ((V33 0 50)).toInt := congrArg Int32.toInt ((ajV341 0 50 rfl).trans (ajV51 0 50 rfl))
        refine gA_void (gA_runV (As := []) (rest := []) (ci := 12) (q0 := 0) hx hb hml hown hg hP hD hK hS hA hnw hgk (s_expressionB l D ks H.size ad kk V341 L34  hMV341 (show 1 ≤ (V341 0 8).toInt from by first | omega | ((try (have i_t24 := Imp.go t24 (by omega))); omega)) (show (V341 0 50).toInt ≤ 8 from by first | omega | ((try (have i_t24 := Imp.go t24 (by omega))); omega))) w2120 w2122 w106 w172 w2123 rfl rfl hdV_yX12_expression ⟨(by show 4 + 1 ≤ 10 * dd + 14; omega), (by show 8 + (3 + 11) + (86) ≤ 300 * dd + 460; omega)⟩ rfl hl.1 rfl (Nat.le_of_ble_eq_true rfl) dX12_pick_26 ⟨Nat.le_of_ble_eq_true rfl, Nat.le_of_ble_eq_true rfl⟩) hP hD hK hS hA (fun u349 H locs w350 hP hD hK hS => ?_)
        obtain ⟨V358, L359⟩ := u349
        obtain ⟨hMV358, ajV358, axL359, t351, t352, t353, t354, t355, t356, t357⟩ := w350
        have alL359 : agL [35, 36, 37, 38, 45, 46, 47] L L359 := agL.tr alL34 axL359 (by decide)
        have hP : va_P D vwCl (mw ad kk ks.1 V358 L359) H := hP
        have hD : va_D A (mw ad kk ks.1 V358 L359) := hD
        have hMV358 : rgd bM V358 := hMV358
        have ajV358 : agr [(0, 7), (0, 8), (0, 48), (0, 50)] [35, 36, 37, 38, 45, 46, 47] V341 V358 := ajV358
        have agV358 : agr [(0, 7), (0, 8), (0, 48), (0, 50)] [35, 36, 37, 38, 45, 46, 47] V V358 := agV341.tr ajV358 (by decide) (by decide)
        have t351 : (V358 0 48).toInt = (V341 0 48).toInt := t351
        have t352 : (V358 0 50).toInt = (V341 0 50).toInt := t352
        have t353 : (V358 0 8).toInt = (V341 0 8).toInt := t353
        have t354 : NoV 35 V341 V358 := t354
        have t355 : NoV 37 V341 V358 := t355
        have t356 : NoL 36 L34 L359 := t356
        have t357 : NoL 38 L34 L359 := t357
        have r360 : 0 ≤ ((V358 0 48)).toInt ∧ ((V358 0 48)).toInt ≤ 10000 := hMV358 0 48
        have r361 : 0 ≤ ((V358 0 50)).toInt ∧ ((V358 0 50)).toInt ≤ 9 := hMV358 0 50
        have r362 : 0 ≤ ((V358 0 8)).toInt ∧ ((V358 0 8)).toInt ≤ 70000 := hMV358 0 8
        refine lv_aload_n hx hb dX12_pick_29 rfl (lv_at hl 1 rfl) ?_
        refine lv_bipush (v := 44) hx hb dX12_pick_30 (by decide) ?_
        refine gA_void (gA_runV (As := [.int 44]) (rest := []) (ci := 12) (q0 := 0) hx hb hml hown hg hP hD hK hS hA hnw hgk (s_takeSignB l D ks H.size ad kk V358 L359 44 hMV358 (show 1 ≤ (V358 0 8).toInt from by first | omega | ((try (have i_t24 := Imp.go t24 (by omega))); omega))) w2079 w2081 w96 w172 w2082 rfl rfl hdV_yX12_takeSign ⟨(by show 1 + 1 ≤ 10 * dd + 14; omega), (by show 8 + (2 + 11) + (21) ≤ 300 * dd + 460; omega)⟩ rfl hl.1 rfl (Nat.le_of_ble_eq_true rfl) dX12_pick_32 ⟨Nat.le_of_ble_eq_true rfl, Nat.le_of_ble_eq_true rfl⟩) hP hD hK hS hA (fun u364 H locs w365 hP hD hK hS => ?_)
        obtain ⟨V367, L368⟩ := u364
        obtain ⟨hMV367, ajV367, axL368, t366⟩ := w365
        have axL368 : L359 = L368 := Eq.symm axL368
        subst axL368
        have hP : va_P D vwCl (mw ad kk ks.1 V367 L359) H := hP
        have hD : va_D A (mw ad kk ks.1 V367 L359) := hD
        have hMV367 : rgd bM V367 := hMV367
        have ajV367 : agr [(0, 7), (0, 8)] [] V358 V367 := ajV367
        have agV367 : agr [(0, 7), (0, 8), (0, 48), (0, 50)] [35, 36, 37, 38, 45, 46, 47] V V367 := agV358.tr ajV367 (by decide) (by decide)
        have t366 : (V367 0 8).toInt = (V358 0 8).toInt := t366
        have r369 : 0 ≤ ((V367 0 8)).toInt ∧ ((V367 0 8)).toInt ≤ 70000 := hMV367 0 8
        refine lv_aload_n hx hb dX12_pick_35 rfl (lv_at hl 1 rfl) ?_
        refine lv_bipush (v := 13) hx hb dX12_pick_36 (by decide) ?_
        refine lv_iconst (v := 0) hx hb dX12_pick_38 (by decide) ?_
        refine lv_iconst (v := 0) hx hb dX12_pick_39 (by decide) ?_
        have r370 : Int32.toInt 13 = 13 := by decide
        have pq371 : (V367 0 48).toInt = ((V358 0 48)).toInt := congrArg Int32.toInt (ajV367 0 48 rfl)
        refine gA_int (gA_runV (As := [.int 13, .int 0, .int 0]) (rest := []) (ci := 12) (q0 := 0) hx hb hml hown hg hP hD hK hS hA hnw hgk (s_emit3 l D ks H.size ad kk V367 L359 13 0 0 hMV367 (show (V367 0 48).toInt ≤ 9999 from by first | omega | ((try (have i_t24 := Imp.go t24 (by omega))); omega))) w2140 w2142 w111 w172 w2143 rfl rfl hdV_yX12_emit ⟨(by show 0 + 1 ≤ 10 * dd + 14; omega), (by show 8 + (4 + 11) + (0) ≤ 300 * dd + 460; omega)⟩ rfl hl.1 rfl (Nat.le_of_ble_eq_true rfl) dX12_pick_40 ⟨Nat.le_of_ble_eq_true rfl, Nat.le_of_ble_eq_true rfl⟩) hP hD hK hS hA (fun z372 u373 H locs w374 hP hD hK hS => ?_)
        obtain ⟨V378, L379⟩ := u373
        obtain ⟨hMV378, ajV378, axL379, rgz372, t375, t376, t377⟩ := w374
        have axL379 : L359 = L379 := Eq.symm axL379
        subst axL379
        have hP : va_P D vwCl (mw ad kk ks.1 V378 L359) H := hP
        have hD : va_D A (mw ad kk ks.1 V378 L359) := hD
        have hMV378 : rgd bM V378 := hMV378
        have ajV378 : agr [(0, 48)] [45, 46, 47] V367 V378 := ajV378
        have agV378 : agr [(0, 7), (0, 8), (0, 48), (0, 50)] [35, 36, 37, 38, 45, 46, 47] V V378 := agV367.tr ajV378 (by decide) (by decide)
        have rgz372 : 0 ≤ z372.toInt ∧ z372.toInt ≤ 20000 := rgz372
        have t375 : (V378 0 48).toInt = (V367 0 48).toInt + 1 := t375
        have t376 : z372.toInt = (V367 0 49).toInt + (V367 0 48).toInt := t376
        have t377 : emitted V367 V378 (pA V367) 13 0 0 := t377
        have r380 : 0 ≤ ((V378 0 48)).toInt ∧ ((V378 0 48)).toInt ≤ 10000 := hMV378 0 48
        have pq381 : (V367 0 49).toInt = ((V 0 49)).toInt := congrArg Int32.toInt ((ajV367 0 49 rfl).trans ((ajV358 0 49 rfl).trans ((ajV341 0 49 rfl).trans ((ajV51 0 49 rfl).trans ((ajV33 0 49 rfl).trans (ajV8 0 49 rfl))))))
        refine lv_istore_n (lv' := [(2, .int z372), (1, .int z335), (0, .ref (ad 0))]) hx hb dX12_pick_43 rfl hl (by decide) rfl (fun ls hl => ?_)
        refine lv_aload_n hx hb dX12_pick_44 rfl (lv_at hl 2 rfl) ?_
        refine va_get (D := D) (ci := 12) (v := .ref (ad 46)) (C := RX12) (T := TX12) (N := 100) hx hb hg inX12 hown hK hP 0 rfl rfl 46 (by decide) (hg _ w1756) (fun _ h9 => h9) rfl dX12_pick_45 ?_
        refine lv_iload_n hx hb dX12_pick_48 rfl (lv_at hl 1 rfl) ?_
        refine lv_aload_n hx hb dX12_pick_49 rfl (lv_at hl 2 rfl) ?_
        refine va_get (D := D) (ci := 12) (v := .int (V378 0 49)) (C := RX12) (T := TX12) (N := 100) hx hb hg inX12 hown hK hP 0 rfl rfl 49 (by decide) (hg _ w1759) (fun _ h9 => h9) rfl dX12_pick_50 ?_
        refine g_top (v := (V 0 49)) ((ajV378 0 49 rfl).trans ((ajV367 0 49 rfl).trans ((ajV358 0 49 rfl).trans ((ajV341 0 49 rfl).trans ((ajV51 0 49 rfl).trans ((ajV33 0 49 rfl).trans (ajV8 0 49 rfl))))))) ?_
        refine lv_aload_n hx hb dX12_pick_53 rfl (lv_at hl 2 rfl) ?_
        refine va_get (D := D) (ci := 12) (v := .int (V378 0 48)) (C := RX12) (T := TX12) (N := 100) hx hb hg inX12 hown hK hP 0 rfl rfl 48 (by decide) (hg _ w1758) (fun _ h9 => h9) rfl dX12_pick_54 ?_
        refine lv_iadd hx hb dX12_pick_57 ?_
        refine lv_topi (fun z382 ez382 => ?_)
        have hz382 : z382.toInt = ((V 0 49)).toInt + ((V378 0 48)).toInt := i_add ez382 rfl rfl (by omega)
        refine va_iast (D := D) (i := z335) (x := z382) hx hb hK hP hD hS 39 38 rfl rfl (i_in (a := z335.toInt) rfl (by first | omega | ((try (have i_t24 := Imp.go t24 (by omega))); omega))) dX12_pick_58 (fun H locs hP hD hS => ?_)
        obtain ⟨V383, hV383⟩ : ∃ z, z = up2 V378 46 (Int32.toNatClampNeg z335) z382 := ⟨_, rfl⟩
        have hP : va_P D vwCl (mw ad kk ks.1 V383 L359) H := by rw [hV383]; exact hP
        have hD : va_D A (mw ad kk ks.1 V383 L359) := by rw [hV383]; exact hD
        have hMV383 : rgd bM V383 := hMV378.put hV383 (i_full _)
        have agV383 : agr [(0, 7), (0, 8), (0, 48), (0, 50)] [35, 36, 37, 38, 45, 46, 47] V V383 := agV378.up hV383 rfl
        refine lv_aload_n hx hb dX12_pick_59 rfl (lv_at hl 2 rfl) ?_
        have pq384 : (V383 0 8).toInt = ((V367 0 8)).toInt := congrArg Int32.toInt ((up2_o hV383 (by decide)).trans (ajV378 0 8 rfl))
        have pq385 : (V383 0 50).toInt = ((V358 0 50)).toInt := congrArg Int32.toInt ((up2_o hV383 (by decide)).trans ((ajV378 0 50 rfl).trans (ajV367 0 50 rfl)))
        refine gA_void (gA_runV (As := []) (rest := []) (ci := 12) (q0 := 0) hx hb hml hown hg hP hD hK hS hA hnw hgk (s_expressionB l D ks H.size ad kk V383 L359  hMV383 (show 1 ≤ (V383 0 8).toInt from by first | omega | ((try (have i_t24 := Imp.go t24 (by omega))); omega)) (show (V383 0 50).toInt ≤ 8 from by first | omega | ((try (have i_t24 := Imp.go t24 (by omega))); omega))) w2120 w2122 w106 w172 w2123 rfl rfl hdV_yX12_expression ⟨(by show 4 + 1 ≤ 10 * dd + 14; omega), (by show 8 + (3 + 11) + (86) ≤ 300 * dd + 460; omega)⟩ rfl hl.1 rfl (Nat.le_of_ble_eq_true rfl) dX12_pick_60 ⟨Nat.le_of_ble_eq_true rfl, Nat.le_of_ble_eq_true rfl⟩) hP hD hK hS hA (fun u387 H locs w388 hP hD hK hS => ?_)
        obtain ⟨V396, L397⟩ := u387
        obtain ⟨hMV396, ajV396, axL397, t389, t390, t391, t392, t393, t394, t395⟩ := w388
        have alL397 : agL [35, 36, 37, 38, 45, 46, 47] L L397 := agL.tr alL359 axL397 (by decide)
        have hP : va_P D vwCl (mw ad kk ks.1 V396 L397) H := hP
        have hD : va_D A (mw ad kk ks.1 V396 L397) := hD
        have hMV396 : rgd bM V396 := hMV396
        have ajV396 : agr [(0, 7), (0, 8), (0, 48), (0, 50)] [35, 36, 37, 38, 45, 46, 47] V383 V396 := ajV396
        have agV396 : agr [(0, 7), (0, 8), (0, 48), (0, 50)] [35, 36, 37, 38, 45, 46, 47] V V396 := agV383.tr ajV396 (by decide) (by decide)
        have t389 : (V396 0 48).toInt = (V383 0 48).toInt := t389
        have t390 : (V396 0 50).toInt = (V383 0 50).toInt := t390
        have t391 : (V396 0 8).toInt = (V383 0 8).toInt := t391
        have t392 : NoV 35 V383 V396 := t392
        have t393 : NoV 37 V383 V396 := t393
        have t394 : NoL 36 L359 L397 := t394
        have t395 : NoL 38 L359 L397 := t395
        have pq398 : (V383 0 48).toInt = ((V378 0 48)).toInt := congrArg Int32.toInt (up2_o hV383 (by decide))
        have r399 : 0 ≤ ((V396 0 48)).toInt ∧ ((V396 0 48)).toInt ≤ 10000 := hMV396 0 48
        have r400 : 0 ≤ ((V396 0 50)).toInt ∧ ((V396 0 50)).toInt ≤ 9 := hMV396 0 50
        have r401 : 0 ≤ ((V396 0 8)).toInt ∧ ((V396 0 8)).toInt ≤ 70000 := hMV396 0 8
        refine lv_aload_n hx hb dX12_pick_63 rfl (lv_at hl 2 rfl) ?_
        refine lv_bipush (v := 41) hx hb dX12_pick_64 (by decide) ?_
        have r402 : Int32.toInt 41 = 41 := by decide
        refine gA_void (gA_runV (As := [.int 41]) (rest := []) (ci := 12) (q0 := 0) hx hb hml hown hg hP hD hK hS hA hnw hgk (s_takeSignB l D ks H.size ad kk V396 L397 41 hMV396 (show 1 ≤ (V396 0 8).toInt from by first | omega | ((try (have i_t24 := Imp.go t24 (by omega))); omega))) w2079 w2081 w96 w172 w2082 rfl rfl hdV_yX12_takeSign ⟨(by show 1 + 1 ≤ 10 * dd + 14; omega), (by show 8 + (2 + 11) + (21) ≤ 300 * dd + 460; omega)⟩ rfl hl.1 rfl (Nat.le_of_ble_eq_true rfl) dX12_pick_66 ⟨Nat.le_of_ble_eq_true rfl, Nat.le_of_ble_eq_true rfl⟩) hP hD hK hS hA (fun u404 H locs w405 hP hD hK hS => ?_)
        obtain ⟨V407, L408⟩ := u404
        obtain ⟨hMV407, ajV407, axL408, t406⟩ := w405
        have axL408 : L397 = L408 := Eq.symm axL408
        subst axL408
        have hP : va_P D vwCl (mw ad kk ks.1 V407 L397) H := hP
        have hD : va_D A (mw ad kk ks.1 V407 L397) := hD
        have hMV407 : rgd bM V407 := hMV407
        have ajV407 : agr [(0, 7), (0, 8)] [] V396 V407 := ajV407
        have agV407 : agr [(0, 7), (0, 8), (0, 48), (0, 50)] [35, 36, 37, 38, 45, 46, 47] V V407 := agV396.tr ajV407 (by decide) (by decide)
        have t406 : (V407 0 8).toInt = (V396 0 8).toInt := t406
        have r409 : 0 ≤ ((V407 0 8)).toInt ∧ ((V407 0 8)).toInt ≤ 70000 := hMV407 0 8
        refine lv_aload_n hx hb dX12_pick_69 rfl (lv_at hl 2 rfl) ?_
        refine va_get (D := D) (ci := 12) (v := .ref (ad 46)) (C := RX12) (T := TX12) (N := 100) hx hb hg inX12 hown hK hP 0 rfl rfl 46 (by decide) (hg _ w1756) (fun _ h9 => h9) rfl dX12_pick_70 ?_
        refine lv_iload_n hx hb dX12_pick_73 rfl (lv_at hl 0 rfl) ?_
        refine lv_aload_n hx hb dX12_pick_74 rfl (lv_at hl 2 rfl) ?_
        refine va_get (D := D) (ci := 12) (v := .int (V407 0 49)) (C := RX12) (T := TX12) (N := 100) hx hb hg inX12 hown hK hP 0 rfl rfl 49 (by decide) (hg _ w1759) (fun _ h9 => h9) rfl dX12_pick_75 ?_
        refine g_top (v := (V 0 49)) ((ajV407 0 49 rfl).trans ((ajV396 0 49 rfl).trans ((up2_o hV383 (by decide)).trans ((ajV378 0 49 rfl).trans ((ajV367 0 49 rfl).trans ((ajV358 0 49 rfl).trans ((ajV341 0 49 rfl).trans ((ajV51 0 49 rfl).trans ((ajV33 0 49 rfl).trans (ajV8 0 49 rfl)))))))))) ?_
        refine lv_aload_n hx hb dX12_pick_78 rfl (lv_at hl 2 rfl) ?_
        refine va_get (D := D) (ci := 12) (v := .int (V407 0 48)) (C := RX12) (T := TX12) (N := 100) hx hb hg inX12 hown hK hP 0 rfl rfl 48 (by decide) (hg _ w1758) (fun _ h9 => h9) rfl dX12_pick_79 ?_
        refine g_top (v := (V396 0 48)) (ajV407 0 48 rfl) ?_
        refine lv_iadd hx hb dX12_pick_82 ?_
        refine lv_topi (fun z410 ez410 => ?_)
        have hz410 : z410.toInt = ((V 0 49)).toInt + ((V396 0 48)).toInt := i_add ez410 rfl rfl (by omega)
        refine va_iast (D := D) (i := z372) (x := z410) hx hb hK hP hD hS 39 38 rfl rfl (i_in (a := z372.toInt) rfl (by first | omega | ((try (have i_t24 := Imp.go t24 (by omega))); omega))) dX12_pick_83 (fun H locs hP hD hS => ?_)
        obtain ⟨V411, hV411⟩ : ∃ z, z = up2 V407 46 (Int32.toNatClampNeg z372) z410 := ⟨_, rfl⟩
        have hP : va_P D vwCl (mw ad kk ks.1 V411 L397) H := by rw [hV411]; exact hP
        have hD : va_D A (mw ad kk ks.1 V411 L397) := by rw [hV411]; exact hD
        have hMV411 : rgd bM V411 := hMV407.put hV411 (i_full _)
        have agV411 : agr [(0, 7), (0, 8), (0, 48), (0, 50)] [35, 36, 37, 38, 45, 46, 47] V V411 := agV407.up hV411 rfl
        have pq412 : (V411 0 7).toInt = ((V407 0 7)).toInt := congrArg Int32.toInt (up2_o hV411 (by decide))
        have pq413 : (V411 0 48).toInt = ((V396 0 48)).toInt := congrArg Int32.toInt ((up2_o hV411 (by decide)).trans (ajV407 0 48 rfl))
        have pq414 : (V411 0 8).toInt = ((V407 0 8)).toInt := congrArg Int32.toInt (up2_o hV411 (by decide))
        have pq415 : (V411 0 50).toInt = ((V396 0 50)).toInt := congrArg Int32.toInt ((up2_o hV411 (by decide)).trans (ajV407 0 50 rfl))
        have rw416 : RoV 35 bq V V411 := (fun k hk => ((up2_o hV411 (by decide)).trans ((ajV407 35 k rfl).trans ((t392 k).trans ((up2_o hV383 (by decide)).trans ((ajV378 35 k rfl).trans ((ajV367 35 k rfl).trans ((t354 k).trans ((ajV341 35 k rfl).trans ((ajV51 35 k rfl).trans ((t29 k hk).trans ((ajV8 35 k rfl).trans rfl))))))))))))
        have rw417 : RoV 37 bq V V411 := (fun k hk => ((up2_o hV411 (by decide)).trans ((ajV407 37 k rfl).trans ((t393 k).trans ((up2_o hV383 (by decide)).trans ((ajV378 37 k rfl).trans ((ajV367 37 k rfl).trans ((t355 k).trans ((ajV341 37 k rfl).trans ((ajV51 37 k rfl).trans ((t30 k hk).trans ((ajV8 37 k rfl).trans rfl))))))))))))
        have rw418 : RoL 36 20 bq L L397 := (fun k hk => ((t394 k).trans ((t356 k).trans ((t31 k hk).trans rfl))))
        have rw419 : RoL 38 20 bq L L397 := (fun k hk => ((t395 k).trans ((t357 k).trans ((t32 k hk).trans rfl))))
        exact W.vret hx hb hr (fun t ht hW => ⟨⟨(V411, L397), rfl, ⟨hMV411, agV411, alL397, (Imp.mk (fun hp => have hp : (V411 0 8).toInt = 0 := hp; (show (V411 0 48).toInt - (V 0 48).toInt ≤ 2 * ((V411 0 7).toInt - (V 0 7).toInt) from by first | omega | ((try (have i_t24 := Imp.go t24 (by omega))); omega)))), (show (V411 0 48).toInt ≤ 8053 - 6 * (V 0 50).toInt from by first | omega | ((try (have i_t24 := Imp.go t24 (by omega))); omega)), (show (V411 0 50).toInt = (V 0 50).toInt from by first | omega | ((try (have i_t24 := Imp.go t24 (by omega))); omega)), (show (V 0 48).toInt ≤ (V411 0 48).toInt from by first | omega | ((try (have i_t24 := Imp.go t24 (by omega))); omega)), (Or.inr ⟨(show 1 ≤ (V411 0 8).toInt from by omega), (fun k => by rw [show (V411 0 8).toInt = (V51 0 8).toInt from by omega]; exact hb330 k)⟩), rw416, rw417, rw418, rw419⟩, by rw [ht]; exact hP, va_K.moved hW.alike hK, hD⟩, hS.F ht⟩) hS.2.2 dX12_pick_84
    · skip
      have hb420 : ∀ k, Rc gT (Crun gs (Itake 40 :: Iexpr gd :: Itake 44 :: Iexpr gd :: Itake 44 :: Iexpr gd :: Itake 41 :: k)) (Cbad (V33 0 8).toInt) := fun k => (hr15 k).tr (h40 (Itake 44 :: Iexpr gd :: Itake 44 :: Iexpr gd :: Itake 41 :: k))
      refine lv_aload_n hx hb dX12_pick_10 rfl (lv_at hl 0 rfl) ?_
      refine lv_bipush (v := 44) hx hb dX12_pick_11 (by decide) ?_
      have r421 : Int32.toInt 44 = 44 := by decide
      refine gA_void (gA_runV (As := [.int 44]) (rest := []) (ci := 12) (q0 := 0) hx hb hml hown hg hP hD hK hS hA hnw hgk (s_takeSignB l D ks H.size ad kk V33 L34 44 hMV33 (show 1 ≤ (V33 0 8).toInt from by first | omega | ((try (have i_t24 := Imp.go t24 (by omega))); omega))) w2079 w2081 w96 w172 w2082 rfl rfl hdV_yX12_takeSign ⟨(by show 1 + 1 ≤ 10 * dd + 14; omega), (by show 8 + (2 + 11) + (21) ≤ 300 * dd + 460; omega)⟩ rfl hl.1 rfl (Nat.le_of_ble_eq_true rfl) dX12_pick_13 ⟨Nat.le_of_ble_eq_true rfl, Nat.le_of_ble_eq_true rfl⟩) hP hD hK hS hA (fun u423 H locs w424 hP hD hK hS => ?_)
      obtain ⟨V426, L427⟩ := u423
      obtain ⟨hMV426, ajV426, axL427, t425⟩ := w424
      have axL427 : L34 = L427 := Eq.symm axL427
      subst axL427
      have hP : va_P D vwCl (mw ad kk ks.1 V426 L34) H := hP
      have hD : va_D A (mw ad kk ks.1 V426 L34) := hD
      have hMV426 : rgd bM V426 := hMV426
      have ajV426 : agr [(0, 7), (0, 8)] [] V33 V426 := ajV426
      have agV426 : agr [(0, 7), (0, 8), (0, 48), (0, 50)] [35, 36, 37, 38, 45, 46, 47] V V426 := agV33.tr ajV426 (by decide) (by decide)
      have t425 : (V426 0 8).toInt = (V33 0 8).toInt := t425
      have r428 : 0 ≤ ((V426 0 8)).toInt ∧ ((V426 0 8)).toInt ≤ 70000 := hMV426 0 8
      refine lv_aload_n hx hb dX12_pick_16 rfl (lv_at hl 0 rfl) ?_
      refine lv_bipush (v := 12) hx hb dX12_pick_17 (by decide) ?_
      refine lv_iconst (v := 0) hx hb dX12_pick_19 (by decide) ?_
      refine lv_iconst (v := 0) hx hb dX12_pick_20 (by decide) ?_
      have r429 : Int32.toInt 12 = 12 := by decide
      have r430 : Int32.toInt 0 = 0 := by decide
      have pq431 : (V426 0 48).toInt = ((V33 0 48)).toInt := congrArg Int32.toInt (ajV426 0 48 rfl)
      refine gA_int (gA_runV (As := [.int 12, .int 0, .int 0]) (rest := []) (ci := 12) (q0 := 0) hx hb hml hown hg hP hD hK hS hA hnw hgk (s_emit3 l D ks H.size ad kk V426 L34 12 0 0 hMV426 (show (V426 0 48).toInt ≤ 9999 from by first | omega | ((try (have i_t24 := Imp.go t24 (by omega))); omega))) w2140 w2142 w111 w172 w2143 rfl rfl hdV_yX12_emit ⟨(by show 0 + 1 ≤ 10 * dd + 14; omega), (by show 8 + (4 + 11) + (0) ≤ 300 * dd + 460; omega)⟩ rfl hl.1 rfl (Nat.le_of_ble_eq_true rfl) dX12_pick_21 ⟨Nat.le_of_ble_eq_true rfl, Nat.le_of_ble_eq_true rfl⟩) hP hD hK hS hA (fun z432 u433 H locs w434 hP hD hK hS => ?_)
      obtain ⟨V438, L439⟩ := u433
      obtain ⟨hMV438, ajV438, axL439, rgz432, t435, t436, t437⟩ := w434
      have axL439 : L34 = L439 := Eq.symm axL439
      subst axL439
      have hP : va_P D vwCl (mw ad kk ks.1 V438 L34) H := hP
      have hD : va_D A (mw ad kk ks.1 V438 L34) := hD
      have hMV438 : rgd bM V438 := hMV438
      have ajV438 : agr [(0, 48)] [45, 46, 47] V426 V438 := ajV438
      have agV438 : agr [(0, 7), (0, 8), (0, 48), (0, 50)] [35, 36, 37, 38, 45, 46, 47] V V438 := agV426.tr ajV438 (by decide) (by decide)
      have rgz432 : 0 ≤ z432.toInt ∧ z432.toInt ≤ 20000 := rgz432
      have t435 : (V438 0 48).toInt = (V426 0 48).toInt + 1 := t435
      have t436 : z432.toInt = (V426 0 49).toInt + (V426 0 48).toInt := t436
      have t437 : emitted V426 V438 (pA V426) 12 0 0 := t437
      have r440 : 0 ≤ ((V438 0 48)).toInt ∧ ((V438 0 48)).toInt ≤ 10000 := hMV438 0 48
      have pq441 : (V426 0 49).toInt = ((V 0 49)).toInt := congrArg Int32.toInt ((ajV426 0 49 rfl).trans ((ajV33 0 49 rfl).trans (ajV8 0 49 rfl)))
      have r442 : 0 ≤ ((V 0 49)).toInt ∧ ((V 0 49)).toInt ≤ 10000 := hMV 0 49
      refine lv_istore_n (lv' := [(1, .int z432), (0, .ref (ad 0))]) hx hb dX12_pick_24 rfl hl (by decide) rfl (fun ls hl => ?_)
      refine lv_aload_n hx hb dX12_pick_25 rfl (lv_at hl 1 rfl) ?_
      have pq443 : (V438 0 8).toInt = ((V426 0 8)).toInt := congrArg Int32.toInt (ajV438 0 8 rfl)
      have pq444 : (V438 0 50).toInt = ((V33 0 50)).toInt := congrArg Int32.toInt ((ajV438 0 50 rfl).trans (ajV426 0 50 rfl))
      refine gA_void (gA_runV (As := []) (rest := []) (ci := 12) (q0 := 0) hx hb hml hown hg hP hD hK hS hA hnw hgk (s_expressionB l D ks H.size ad kk V438 L34  hMV438 (show 1 ≤ (V438 0 8).toInt from by first | omega | ((try (have i_t24 := Imp.go t24 (by omega))); omega)) (show (V438 0 50).toInt ≤ 8 from by first | omega | ((try (have i_t24 := Imp.go t24 (by omega))); omega))) w2120 w2122 w106 w172 w2123 rfl rfl hdV_yX12_expression ⟨(by show 4 + 1 ≤ 10 * dd + 14; omega), (by show 8 + (3 + 11) + (86) ≤ 300 * dd + 460; omega)⟩ rfl hl.1 rfl (Nat.le_of_ble_eq_true rfl) dX12_pick_26 ⟨Nat.le_of_ble_eq_true rfl, Nat.le_of_ble_eq_true rfl⟩) hP hD hK hS hA (fun u446 H locs w447 hP hD hK hS => ?_)
      obtain ⟨V455, L456⟩ := u446
      obtain ⟨hMV455, ajV455, axL456, t448, t449, t450, t451, t452, t453, t454⟩ := w447
      have alL456 : agL [35, 36, 37, 38, 45, 46, 47] L L456 := agL.tr alL34 axL456 (by decide)
      have hP : va_P D vwCl (mw ad kk ks.1 V455 L456) H := hP
      have hD : va_D A (mw ad kk ks.1 V455 L456) := hD
      have hMV455 : rgd bM V455 := hMV455
      have ajV455 : agr [(0, 7), (0, 8), (0, 48), (0, 50)] [35, 36, 37, 38, 45, 46, 47] V438 V455 := ajV455
      have agV455 : agr [(0, 7), (0, 8), (0, 48), (0, 50)] [35, 36, 37, 38, 45, 46, 47] V V455 := agV438.tr ajV455 (by decide) (by decide)
      have t448 : (V455 0 48).toInt = (V438 0 48).toInt := t448
      have t449 : (V455 0 50).toInt = (V438 0 50).toInt := t449
      have t450 : (V455 0 8).toInt = (V438 0 8).toInt := t450
      have t451 : NoV 35 V438 V455 := t451
      have t452 : NoV 37 V438 V455 := t452
      have t453 : NoL 36 L34 L456 := t453
      have t454 : NoL 38 L34 L456 := t454
      have r457 : 0 ≤ ((V455 0 48)).toInt ∧ ((V455 0 48)).toInt ≤ 10000 := hMV455 0 48
      have r458 : 0 ≤ ((V455 0 50)).toInt ∧ ((V455 0 50)).toInt ≤ 9 := hMV455 0 50
      have r459 : 0 ≤ ((V455 0 8)).toInt ∧ ((V455 0 8)).toInt ≤ 70000 := hMV455 0 8
      refine lv_aload_n hx hb dX12_pick_29 rfl (lv_at hl 1 rfl) ?_
      refine lv_bipush (v := 44) hx hb dX12_pick_30 (by decide) ?_
      refine gA_void (gA_runV (As := [.int 44]) (rest := []) (ci := 12) (q0 := 0) hx hb hml hown hg hP hD hK hS hA hnw hgk (s_takeSignB l D ks H.size ad kk V455 L456 44 hMV455 (show 1 ≤ (V455 0 8).toInt from by first | omega | ((try (have i_t24 := Imp.go t24 (by omega))); omega))) w2079 w2081 w96 w172 w2082 rfl rfl hdV_yX12_takeSign ⟨(by show 1 + 1 ≤ 10 * dd + 14; omega), (by show 8 + (2 + 11) + (21) ≤ 300 * dd + 460; omega)⟩ rfl hl.1 rfl (Nat.le_of_ble_eq_true rfl) dX12_pick_32 ⟨Nat.le_of_ble_eq_true rfl, Nat.le_of_ble_eq_true rfl⟩) hP hD hK hS hA (fun u461 H locs w462 hP hD hK hS => ?_)
      obtain ⟨V464, L465⟩ := u461
      obtain ⟨hMV464, ajV464, axL465, t463⟩ := w462
      have axL465 : L456 = L465 := Eq.symm axL465
      subst axL465
      have hP : va_P D vwCl (mw ad kk ks.1 V464 L456) H := hP
      have hD : va_D A (mw ad kk ks.1 V464 L456) := hD
      have hMV464 : rgd bM V464 := hMV464
      have ajV464 : agr [(0, 7), (0, 8)] [] V455 V464 := ajV464
      have agV464 : agr [(0, 7), (0, 8), (0, 48), (0, 50)] [35, 36, 37, 38, 45, 46, 47] V V464 := agV455.tr ajV464 (by decide) (by decide)
      have t463 : (V464 0 8).toInt = (V455 0 8).toInt := t463
      have r466 : 0 ≤ ((V464 0 8)).toInt ∧ ((V464 0 8)).toInt ≤ 70000 := hMV464 0 8
      refine lv_aload_n hx hb dX12_pick_35 rfl (lv_at hl 1 rfl) ?_
      refine lv_bipush (v := 13) hx hb dX12_pick_36 (by decide) ?_
      refine lv_iconst (v := 0) hx hb dX12_pick_38 (by decide) ?_
      refine lv_iconst (v := 0) hx hb dX12_pick_39 (by decide) ?_
      have r467 : Int32.toInt 13 = 13 := by decide
      have pq468 : (V464 0 48).toInt = ((V455 0 48)).toInt := congrArg Int32.toInt (ajV464 0 48 rfl)
      refine gA_int (gA_runV (As := [.int 13, .int 0, .int 0]) (rest := []) (ci := 12) (q0 := 0) hx hb hml hown hg hP hD hK hS hA hnw hgk (s_emit3 l D ks H.size ad kk V464 L456 13 0 0 hMV464 (show (V464 0 48).toInt ≤ 9999 from by first | omega | ((try (have i_t24 := Imp.go t24 (by omega))); omega))) w2140 w2142 w111 w172 w2143 rfl rfl hdV_yX12_emit ⟨(by show 0 + 1 ≤ 10 * dd + 14; omega), (by show 8 + (4 + 11) + (0) ≤ 300 * dd + 460; omega)⟩ rfl hl.1 rfl (Nat.le_of_ble_eq_true rfl) dX12_pick_40 ⟨Nat.le_of_ble_eq_true rfl, Nat.le_of_ble_eq_true rfl⟩) hP hD hK hS hA (fun z469 u470 H locs w471 hP hD hK hS => ?_)
      obtain ⟨V475, L476⟩ := u470
      obtain ⟨hMV475, ajV475, axL476, rgz469, t472, t473, t474⟩ := w471
      have axL476 : L456 = L476 := Eq.symm axL476
      subst axL476
      have hP : va_P D vwCl (mw ad kk ks.1 V475 L456) H := hP
      have hD : va_D A (mw ad kk ks.1 V475 L456) := hD
      have hMV475 : rgd bM V475 := hMV475
      have ajV475 : agr [(0, 48)] [45, 46, 47] V464 V475 := ajV475
      have agV475 : agr [(0, 7), (0, 8), (0, 48), (0, 50)] [35, 36, 37, 38, 45, 46, 47] V V475 := agV464.tr ajV475 (by decide) (by decide)
      have rgz469 : 0 ≤ z469.toInt ∧ z469.toInt ≤ 20000 := rgz469
      have t472 : (V475 0 48).toInt = (V464 0 48).toInt + 1 := t472
      have t473 : z469.toInt = (V464 0 49).toInt + (V464 0 48).toInt := t473
      have t474 : emitted V464 V475 (pA V464) 13 0 0 := t474
      have r477 : 0 ≤ ((V475 0 48)).toInt ∧ ((V475 0 48)).toInt ≤ 10000 := hMV475 0 48
      have pq478 : (V464 0 49).toInt = ((V 0 49)).toInt := congrArg Int32.toInt ((ajV464 0 49 rfl).trans ((ajV455 0 49 rfl).trans ((ajV438 0 49 rfl).trans ((ajV426 0 49 rfl).trans ((ajV33 0 49 rfl).trans (ajV8 0 49 rfl))))))
      refine lv_istore_n (lv' := [(2, .int z469), (1, .int z432), (0, .ref (ad 0))]) hx hb dX12_pick_43 rfl hl (by decide) rfl (fun ls hl => ?_)
      refine lv_aload_n hx hb dX12_pick_44 rfl (lv_at hl 2 rfl) ?_
      refine va_get (D := D) (ci := 12) (v := .ref (ad 46)) (C := RX12) (T := TX12) (N := 100) hx hb hg inX12 hown hK hP 0 rfl rfl 46 (by decide) (hg _ w1756) (fun _ h9 => h9) rfl dX12_pick_45 ?_
      refine lv_iload_n hx hb dX12_pick_48 rfl (lv_at hl 1 rfl) ?_
      refine lv_aload_n hx hb dX12_pick_49 rfl (lv_at hl 2 rfl) ?_
      refine va_get (D := D) (ci := 12) (v := .int (V475 0 49)) (C := RX12) (T := TX12) (N := 100) hx hb hg inX12 hown hK hP 0 rfl rfl 49 (by decide) (hg _ w1759) (fun _ h9 => h9) rfl dX12_pick_50 ?_
      refine g_top (v := (V 0 49)) ((ajV475 0 49 rfl).trans ((ajV464 0 49 rfl).trans ((ajV455 0 49 rfl).trans ((ajV438 0 49 rfl).trans ((ajV426 0 49 rfl).trans ((ajV33 0 49 rfl).trans (ajV8 0 49 rfl))))))) ?_
      refine lv_aload_n hx hb dX12_pick_53 rfl (lv_at hl 2 rfl) ?_
      refine va_get (D := D) (ci := 12) (v := .int (V475 0 48)) (C := RX12) (T := TX12) (N := 100) hx hb hg inX12 hown hK hP 0 rfl rfl 48 (by decide) (hg _ w1758) (fun _ h9 => h9) rfl dX12_pick_54 ?_
      refine lv_iadd hx hb dX12_pick_57 ?_
      refine lv_topi (fun z479 ez479 => ?_)
      have hz479 : z479.toInt = ((V 0 49)).toInt + ((V475 0 48)).toInt := i_add ez479 rfl rfl (by omega)
      refine va_iast (D := D) (i := z432) (x := z479) hx hb hK hP hD hS 39 38 rfl rfl (i_in (a := z432.toInt) rfl (by first | omega | ((try (have i_t24 := Imp.go t24 (by omega))); omega))) dX12_pick_58 (fun H locs hP hD hS => ?_)
      obtain ⟨V480, hV480⟩ : ∃ z, z = up2 V475 46 (Int32.toNatClampNeg z432) z479 := ⟨_, rfl⟩
      have hP : va_P D vwCl (mw ad kk ks.1 V480 L456) H := by rw [hV480]; exact hP
      have hD : va_D A (mw ad kk ks.1 V480 L456) := by rw [hV480]; exact hD
      have hMV480 : rgd bM V480 := hMV475.put hV480 (i_full _)
      have agV480 : agr [(0, 7), (0, 8), (0, 48), (0, 50)] [35, 36, 37, 38, 45, 46, 47] V V480 := agV475.up hV480 rfl
      refine lv_aload_n hx hb dX12_pick_59 rfl (lv_at hl 2 rfl) ?_
      have pq481 : (V480 0 8).toInt = ((V464 0 8)).toInt := congrArg Int32.toInt ((up2_o hV480 (by decide)).trans (ajV475 0 8 rfl))
      have pq482 : (V480 0 50).toInt = ((V455 0 50)).toInt := congrArg Int32.toInt ((up2_o hV480 (by decide)).trans ((ajV475 0 50 rfl).trans (ajV464 0 50 rfl)))
      refine gA_void (gA_runV (As := []) (rest := []) (ci := 12) (q0 := 0) hx hb hml hown hg hP hD hK hS hA hnw hgk (s_expressionB l D ks H.size ad kk V480 L456  hMV480 (show 1 ≤ (V480 0 8).toInt from by first | omega | ((try (have i_t24 := Imp.go t24 (by omega))); omega)) (show (V480 0 50).toInt ≤ 8 from by first | omega | ((try (have i_t24 := Imp.go t24 (by omega))); omega))) w2120 w2122 w106 w172 w2123 rfl rfl hdV_yX12_expression ⟨(by show 4 + 1 ≤ 10 * dd + 14; omega), (by show 8 + (3 + 11) + (86) ≤ 300 * dd + 460; omega)⟩ rfl hl.1 rfl (Nat.le_of_ble_eq_true rfl) dX12_pick_60 ⟨Nat.le_of_ble_eq_true rfl, Nat.le_of_ble_eq_true rfl⟩) hP hD hK hS hA (fun u484 H locs w485 hP hD hK hS => ?_)
      obtain ⟨V493, L494⟩ := u484
      obtain ⟨hMV493, ajV493, axL494, t486, t487, t488, t489, t490, t491, t492⟩ := w485
      have alL494 : agL [35, 36, 37, 38, 45, 46, 47] L L494 := agL.tr alL456 axL494 (by decide)
      have hP : va_P D vwCl (mw ad kk ks.1 V493 L494) H := hP
      have hD : va_D A (mw ad kk ks.1 V493 L494) := hD
      have hMV493 : rgd bM V493 := hMV493
      have ajV493 : agr [(0, 7), (0, 8), (0, 48), (0, 50)] [35, 36, 37, 38, 45, 46, 47] V480 V493 := ajV493
      have agV493 : agr [(0, 7), (0, 8), (0, 48), (0, 50)] [35, 36, 37, 38, 45, 46, 47] V V493 := agV480.tr ajV493 (by decide) (by decide)
      have t486 : (V493 0 48).toInt = (V480 0 48).toInt := t486
      have t487 : (V493 0 50).toInt = (V480 0 50).toInt := t487
      have t488 : (V493 0 8).toInt = (V480 0 8).toInt := t488
      have t489 : NoV 35 V480 V493 := t489
      have t490 : NoV 37 V480 V493 := t490
      have t491 : NoL 36 L456 L494 := t491
      have t492 : NoL 38 L456 L494 := t492
      have pq495 : (V480 0 48).toInt = ((V475 0 48)).toInt := congrArg Int32.toInt (up2_o hV480 (by decide))
      have r496 : 0 ≤ ((V493 0 48)).toInt ∧ ((V493 0 48)).toInt ≤ 10000 := hMV493 0 48
      have r497 : 0 ≤ ((V493 0 50)).toInt ∧ ((V493 0 50)).toInt ≤ 9 := hMV493 0 50
      have r498 : 0 ≤ ((V493 0 8)).toInt ∧ ((V493 0 8)).toInt ≤ 70000 := hMV493 0 8
      refine lv_aload_n hx hb dX12_pick_63 rfl (lv_at hl 2 rfl) ?_
      refine lv_bipush (v := 41) hx hb dX12_pick_64 (by decide) ?_
      have r499 : Int32.toInt 41 = 41 := by decide
      refine gA_void (gA_runV (As := [.int 41]) (rest := []) (ci := 12) (q0 := 0) hx hb hml hown hg hP hD hK hS hA hnw hgk (s_takeSignB l D ks H.size ad kk V493 L494 41 hMV493 (show 1 ≤ (V493 0 8).toInt from by first | omega | ((try (have i_t24 := Imp.go t24 (by omega))); omega))) w2079 w2081 w96 w172 w2082 rfl rfl hdV_yX12_takeSign ⟨(by show 1 + 1 ≤ 10 * dd + 14; omega), (by show 8 + (2 + 11) + (21) ≤ 300 * dd + 460; omega)⟩ rfl hl.1 rfl (Nat.le_of_ble_eq_true rfl) dX12_pick_66 ⟨Nat.le_of_ble_eq_true rfl, Nat.le_of_ble_eq_true rfl⟩) hP hD hK hS hA (fun u501 H locs w502 hP hD hK hS => ?_)
      obtain ⟨V504, L505⟩ := u501
      obtain ⟨hMV504, ajV504, axL505, t503⟩ := w502
      have axL505 : L494 = L505 := Eq.symm axL505
      subst axL505
      have hP : va_P D vwCl (mw ad kk ks.1 V504 L494) H := hP
      have hD : va_D A (mw ad kk ks.1 V504 L494) := hD
      have hMV504 : rgd bM V504 := hMV504
      have ajV504 : agr [(0, 7), (0, 8)] [] V493 V504 := ajV504
      have agV504 : agr [(0, 7), (0, 8), (0, 48), (0, 50)] [35, 36, 37, 38, 45, 46, 47] V V504 := agV493.tr ajV504 (by decide) (by decide)
      have t503 : (V504 0 8).toInt = (V493 0 8).toInt := t503
      have r506 : 0 ≤ ((V504 0 8)).toInt ∧ ((V504 0 8)).toInt ≤ 70000 := hMV504 0 8
      refine lv_aload_n hx hb dX12_pick_69 rfl (lv_at hl 2 rfl) ?_
      refine va_get (D := D) (ci := 12) (v := .ref (ad 46)) (C := RX12) (T := TX12) (N := 100) hx hb hg inX12 hown hK hP 0 rfl rfl 46 (by decide) (hg _ w1756) (fun _ h9 => h9) rfl dX12_pick_70 ?_
      refine lv_iload_n hx hb dX12_pick_73 rfl (lv_at hl 0 rfl) ?_
      refine lv_aload_n hx hb dX12_pick_74 rfl (lv_at hl 2 rfl) ?_
      refine va_get (D := D) (ci := 12) (v := .int (V504 0 49)) (C := RX12) (T := TX12) (N := 100) hx hb hg inX12 hown hK hP 0 rfl rfl 49 (by decide) (hg _ w1759) (fun _ h9 => h9) rfl dX12_pick_75 ?_
      refine g_top (v := (V 0 49)) ((ajV504 0 49 rfl).trans ((ajV493 0 49 rfl).trans ((up2_o hV480 (by decide)).trans ((ajV475 0 49 rfl).trans ((ajV464 0 49 rfl).trans ((ajV455 0 49 rfl).trans ((ajV438 0 49 rfl).trans ((ajV426 0 49 rfl).trans ((ajV33 0 49 rfl).trans (ajV8 0 49 rfl)))))))))) ?_
      refine lv_aload_n hx hb dX12_pick_78 rfl (lv_at hl 2 rfl) ?_
      refine va_get (D := D) (ci := 12) (v := .int (V504 0 48)) (C := RX12) (T := TX12) (N := 100) hx hb hg inX12 hown hK hP 0 rfl rfl 48 (by decide) (hg _ w1758) (fun _ h9 => h9) rfl dX12_pick_79 ?_
      refine g_top (v := (V493 0 48)) (ajV504 0 48 rfl) ?_
      refine lv_iadd hx hb dX12_pick_82 ?_
      refine lv_topi (fun z507 ez507 => ?_)
      have hz507 : z507.toInt = ((V 0 49)).toInt + ((V493 0 48)).toInt := i_add ez507 rfl rfl (by omega)
      refine va_iast (D := D) (i := z469) (x := z507) hx hb hK hP hD hS 39 38 rfl rfl (i_in (a := z469.toInt) rfl (by first | omega | ((try (have i_t24 := Imp.go t24 (by omega))); omega))) dX12_pick_83 (fun H locs hP hD hS => ?_)
      obtain ⟨V508, hV508⟩ : ∃ z, z = up2 V504 46 (Int32.toNatClampNeg z469) z507 := ⟨_, rfl⟩
      have hP : va_P D vwCl (mw ad kk ks.1 V508 L494) H := by rw [hV508]; exact hP
      have hD : va_D A (mw ad kk ks.1 V508 L494) := by rw [hV508]; exact hD
      have hMV508 : rgd bM V508 := hMV504.put hV508 (i_full _)
      have agV508 : agr [(0, 7), (0, 8), (0, 48), (0, 50)] [35, 36, 37, 38, 45, 46, 47] V V508 := agV504.up hV508 rfl
      have pq509 : (V508 0 7).toInt = ((V504 0 7)).toInt := congrArg Int32.toInt (up2_o hV508 (by decide))
      have pq510 : (V508 0 48).toInt = ((V493 0 48)).toInt := congrArg Int32.toInt ((up2_o hV508 (by decide)).trans (ajV504 0 48 rfl))
      have pq511 : (V508 0 8).toInt = ((V504 0 8)).toInt := congrArg Int32.toInt (up2_o hV508 (by decide))
      have pq512 : (V508 0 50).toInt = ((V493 0 50)).toInt := congrArg Int32.toInt ((up2_o hV508 (by decide)).trans (ajV504 0 50 rfl))
      have rw513 : RoV 35 bq V V508 := (fun k hk => ((up2_o hV508 (by decide)).trans ((ajV504 35 k rfl).trans ((t489 k).trans ((up2_o hV480 (by decide)).trans ((ajV475 35 k rfl).trans ((ajV464 35 k rfl).trans ((t451 k).trans ((ajV438 35 k rfl).trans ((ajV426 35 k rfl).trans ((t29 k hk).trans ((ajV8 35 k rfl).trans rfl))))))))))))
      have rw514 : RoV 37 bq V V508 := (fun k hk => ((up2_o hV508 (by decide)).trans ((ajV504 37 k rfl).trans ((t490 k).trans ((up2_o hV480 (by decide)).trans ((ajV475 37 k rfl).trans ((ajV464 37 k rfl).trans ((t452 k).trans ((ajV438 37 k rfl).trans ((ajV426 37 k rfl).trans ((t30 k hk).trans ((ajV8 37 k rfl).trans rfl))))))))))))
      have rw515 : RoL 36 20 bq L L494 := (fun k hk => ((t491 k).trans ((t453 k).trans ((t31 k hk).trans rfl))))
      have rw516 : RoL 38 20 bq L L494 := (fun k hk => ((t492 k).trans ((t454 k).trans ((t32 k hk).trans rfl))))
      exact W.vret hx hb hr (fun t ht hW => ⟨⟨(V508, L494), rfl, ⟨hMV508, agV508, alL494, (Imp.mk (fun hp => have hp : (V508 0 8).toInt = 0 := hp; (show (V508 0 48).toInt - (V 0 48).toInt ≤ 2 * ((V508 0 7).toInt - (V 0 7).toInt) from by first | omega | ((try (have i_t24 := Imp.go t24 (by omega))); omega)))), (show (V508 0 48).toInt ≤ 8053 - 6 * (V 0 50).toInt from by first | omega | ((try (have i_t24 := Imp.go t24 (by omega))); omega)), (show (V508 0 50).toInt = (V 0 50).toInt from by first | omega | ((try (have i_t24 := Imp.go t24 (by omega))); omega)), (show (V 0 48).toInt ≤ (V508 0 48).toInt from by first | omega | ((try (have i_t24 := Imp.go t24 (by omega))); omega)), (Or.inr ⟨(show 1 ≤ (V508 0 8).toInt from by omega), (fun k => by rw [show (V508 0 8).toInt = (V33 0 8).toInt from by omega]; exact hb420 k)⟩), rw513, rw514, rw515, rw516⟩, by rw [ht]; exact hP, va_K.moved hW.alike hK, hD⟩, hS.F ht⟩) hS.2.2 dX12_pick_84
  · skip
    have kd517 : gT.1 (gs.1 0) ≠ 40 := fun h9 => h11 (h9.trans (by decide))
    have hb518 : ∀ k, Rc gT (Crun gs (Itake 40 :: Iexpr gd :: Itake 44 :: Iexpr gd :: Itake 44 :: Iexpr gd :: Itake 41 :: k)) (Cbad (V8 0 8).toInt) := fun k => Rc.go1 (hr13 k) ((tk_n kd517).trans (fl_eq rfl rl12))
    have r519 : 0 ≤ ((V8 0 8)).toInt ∧ ((V8 0 8)).toInt ≤ 70000 := hMV8 0 8
    refine lv_aload_n hx hb dX12_pick_6 rfl (lv_at hl 0 rfl) ?_
    have pq520 : (V8 0 50).toInt = ((V 0 50)).toInt := congrArg Int32.toInt (ajV8 0 50 rfl)
    refine gA_void (gA_runV (As := []) (rest := []) (ci := 12) (q0 := 0) hx hb hml hown hg hP hD hK hS hA hnw hgk (s_expressionB l D ks H.size ad kk V8 L  hMV8 (show 1 ≤ (V8 0 8).toInt from by omega) (show (V8 0 50).toInt ≤ 8 from by omega)) w2120 w2122 w106 w172 w2123 rfl rfl hdV_yX12_expression ⟨(by show 4 + 1 ≤ 10 * dd + 14; omega), (by show 8 + (3 + 11) + (86) ≤ 300 * dd + 460; omega)⟩ rfl hl.1 rfl (Nat.le_of_ble_eq_true rfl) dX12_pick_7 ⟨Nat.le_of_ble_eq_true rfl, Nat.le_of_ble_eq_true rfl⟩) hP hD hK hS hA (fun u522 H locs w523 hP hD hK hS => ?_)
    obtain ⟨V531, L532⟩ := u522
    obtain ⟨hMV531, ajV531, axL532, t524, t525, t526, t527, t528, t529, t530⟩ := w523
    have alL532 : agL [35, 36, 37, 38, 45, 46, 47] L L532 := agL.tr alL axL532 (by decide)
    have hP : va_P D vwCl (mw ad kk ks.1 V531 L532) H := hP
    have hD : va_D A (mw ad kk ks.1 V531 L532) := hD
    have hMV531 : rgd bM V531 := hMV531
    have ajV531 : agr [(0, 7), (0, 8), (0, 48), (0, 50)] [35, 36, 37, 38, 45, 46, 47] V8 V531 := ajV531
    have agV531 : agr [(0, 7), (0, 8), (0, 48), (0, 50)] [35, 36, 37, 38, 45, 46, 47] V V531 := agV8.tr ajV531 (by decide) (by decide)
    have t524 : (V531 0 48).toInt = (V8 0 48).toInt := t524
    have t525 : (V531 0 50).toInt = (V8 0 50).toInt := t525
    have t526 : (V531 0 8).toInt = (V8 0 8).toInt := t526
    have t527 : NoV 35 V8 V531 := t527
    have t528 : NoV 37 V8 V531 := t528
    have t529 : NoL 36 L L532 := t529
    have t530 : NoL 38 L L532 := t530
    have pq533 : (V8 0 48).toInt = ((V 0 48)).toInt := congrArg Int32.toInt (ajV8 0 48 rfl)
    have r534 : 0 ≤ ((V531 0 48)).toInt ∧ ((V531 0 48)).toInt ≤ 10000 := hMV531 0 48
    have r535 : 0 ≤ ((V531 0 50)).toInt ∧ ((V531 0 50)).toInt ≤ 9 := hMV531 0 50
    have r536 : 0 ≤ ((V531 0 8)).toInt ∧ ((V531 0 8)).toInt ≤ 70000 := hMV531 0 8
    refine lv_aload_n hx hb dX12_pick_10 rfl (lv_at hl 0 rfl) ?_
    refine lv_bipush (v := 44) hx hb dX12_pick_11 (by decide) ?_
    have r537 : Int32.toInt 44 = 44 := by decide
    refine gA_void (gA_runV (As := [.int 44]) (rest := []) (ci := 12) (q0 := 0) hx hb hml hown hg hP hD hK hS hA hnw hgk (s_takeSignB l D ks H.size ad kk V531 L532 44 hMV531 (show 1 ≤ (V531 0 8).toInt from by omega)) w2079 w2081 w96 w172 w2082 rfl rfl hdV_yX12_takeSign ⟨(by show 1 + 1 ≤ 10 * dd + 14; omega), (by show 8 + (2 + 11) + (21) ≤ 300 * dd + 460; omega)⟩ rfl hl.1 rfl (Nat.le_of_ble_eq_true rfl) dX12_pick_13 ⟨Nat.le_of_ble_eq_true rfl, Nat.le_of_ble_eq_true rfl⟩) hP hD hK hS hA (fun u539 H locs w540 hP hD hK hS => ?_)
    obtain ⟨V542, L543⟩ := u539
    obtain ⟨hMV542, ajV542, axL543, t541⟩ := w540
    have axL543 : L532 = L543 := Eq.symm axL543
    subst axL543
    have hP : va_P D vwCl (mw ad kk ks.1 V542 L532) H := hP
    have hD : va_D A (mw ad kk ks.1 V542 L532) := hD
    have hMV542 : rgd bM V542 := hMV542
    have ajV542 : agr [(0, 7), (0, 8)] [] V531 V542 := ajV542
    have agV542 : agr [(0, 7), (0, 8), (0, 48), (0, 50)] [35, 36, 37, 38, 45, 46, 47] V V542 := agV531.tr ajV542 (by decide) (by decide)
    have t541 : (V542 0 8).toInt = (V531 0 8).toInt := t541
    have r544 : 0 ≤ ((V542 0 8)).toInt ∧ ((V542 0 8)).toInt ≤ 70000 := hMV542 0 8
    refine lv_aload_n hx hb dX12_pick_16 rfl (lv_at hl 0 rfl) ?_
    refine lv_bipush (v := 12) hx hb dX12_pick_17 (by decide) ?_
    refine lv_iconst (v := 0) hx hb dX12_pick_19 (by decide) ?_
    refine lv_iconst (v := 0) hx hb dX12_pick_20 (by decide) ?_
    have r545 : Int32.toInt 12 = 12 := by decide
    have r546 : Int32.toInt 0 = 0 := by decide
    have pq547 : (V542 0 48).toInt = ((V531 0 48)).toInt := congrArg Int32.toInt (ajV542 0 48 rfl)
    refine gA_int (gA_runV (As := [.int 12, .int 0, .int 0]) (rest := []) (ci := 12) (q0 := 0) hx hb hml hown hg hP hD hK hS hA hnw hgk (s_emit3 l D ks H.size ad kk V542 L532 12 0 0 hMV542 (show (V542 0 48).toInt ≤ 9999 from by omega)) w2140 w2142 w111 w172 w2143 rfl rfl hdV_yX12_emit ⟨(by show 0 + 1 ≤ 10 * dd + 14; omega), (by show 8 + (4 + 11) + (0) ≤ 300 * dd + 460; omega)⟩ rfl hl.1 rfl (Nat.le_of_ble_eq_true rfl) dX12_pick_21 ⟨Nat.le_of_ble_eq_true rfl, Nat.le_of_ble_eq_true rfl⟩) hP hD hK hS hA (fun z548 u549 H locs w550 hP hD hK hS => ?_)
    obtain ⟨V554, L555⟩ := u549
    obtain ⟨hMV554, ajV554, axL555, rgz548, t551, t552, t553⟩ := w550
    have axL555 : L532 = L555 := Eq.symm axL555
    subst axL555
    have hP : va_P D vwCl (mw ad kk ks.1 V554 L532) H := hP
    have hD : va_D A (mw ad kk ks.1 V554 L532) := hD
    have hMV554 : rgd bM V554 := hMV554
    have ajV554 : agr [(0, 48)] [45, 46, 47] V542 V554 := ajV554
    have agV554 : agr [(0, 7), (0, 8), (0, 48), (0, 50)] [35, 36, 37, 38, 45, 46, 47] V V554 := agV542.tr ajV554 (by decide) (by decide)
    have rgz548 : 0 ≤ z548.toInt ∧ z548.toInt ≤ 20000 := rgz548
    have t551 : (V554 0 48).toInt = (V542 0 48).toInt + 1 := t551
    have t552 : z548.toInt = (V542 0 49).toInt + (V542 0 48).toInt := t552
    have t553 : emitted V542 V554 (pA V542) 12 0 0 := t553
    have r556 : 0 ≤ ((V554 0 48)).toInt ∧ ((V554 0 48)).toInt ≤ 10000 := hMV554 0 48
    have pq557 : (V542 0 49).toInt = ((V 0 49)).toInt := congrArg Int32.toInt ((ajV542 0 49 rfl).trans ((ajV531 0 49 rfl).trans (ajV8 0 49 rfl)))
    have r558 : 0 ≤ ((V 0 49)).toInt ∧ ((V 0 49)).toInt ≤ 10000 := hMV 0 49
    refine lv_istore_n (lv' := [(1, .int z548), (0, .ref (ad 0))]) hx hb dX12_pick_24 rfl hl (by decide) rfl (fun ls hl => ?_)
    refine lv_aload_n hx hb dX12_pick_25 rfl (lv_at hl 1 rfl) ?_
    have pq559 : (V554 0 8).toInt = ((V542 0 8)).toInt := congrArg Int32.toInt (ajV554 0 8 rfl)
    have pq560 : (V554 0 50).toInt = ((V531 0 50)).toInt := congrArg Int32.toInt ((ajV554 0 50 rfl).trans (ajV542 0 50 rfl))
    refine gA_void (gA_runV (As := []) (rest := []) (ci := 12) (q0 := 0) hx hb hml hown hg hP hD hK hS hA hnw hgk (s_expressionB l D ks H.size ad kk V554 L532  hMV554 (show 1 ≤ (V554 0 8).toInt from by omega) (show (V554 0 50).toInt ≤ 8 from by omega)) w2120 w2122 w106 w172 w2123 rfl rfl hdV_yX12_expression ⟨(by show 4 + 1 ≤ 10 * dd + 14; omega), (by show 8 + (3 + 11) + (86) ≤ 300 * dd + 460; omega)⟩ rfl hl.1 rfl (Nat.le_of_ble_eq_true rfl) dX12_pick_26 ⟨Nat.le_of_ble_eq_true rfl, Nat.le_of_ble_eq_true rfl⟩) hP hD hK hS hA (fun u562 H locs w563 hP hD hK hS => ?_)
    obtain ⟨V571, L572⟩ := u562
    obtain ⟨hMV571, ajV571, axL572, t564, t565, t566, t567, t568, t569, t570⟩ := w563
    have alL572 : agL [35, 36, 37, 38, 45, 46, 47] L L572 := agL.tr alL532 axL572 (by decide)
    have hP : va_P D vwCl (mw ad kk ks.1 V571 L572) H := hP
    have hD : va_D A (mw ad kk ks.1 V571 L572) := hD
    have hMV571 : rgd bM V571 := hMV571
    have ajV571 : agr [(0, 7), (0, 8), (0, 48), (0, 50)] [35, 36, 37, 38, 45, 46, 47] V554 V571 := ajV571
    have agV571 : agr [(0, 7), (0, 8), (0, 48), (0, 50)] [35, 36, 37, 38, 45, 46, 47] V V571 := agV554.tr ajV571 (by decide) (by decide)
    have t564 : (V571 0 48).toInt = (V554 0 48).toInt := t564
    have t565 : (V571 0 50).toInt = (V554 0 50).toInt := t565
    have t566 : (V571 0 8).toInt = (V554 0 8).toInt := t566
    have t567 : NoV 35 V554 V571 := t567
    have t568 : NoV 37 V554 V571 := t568
    have t569 : NoL 36 L532 L572 := t569
    have t570 : NoL 38 L532 L572 := t570
    have r573 : 0 ≤ ((V571 0 48)).toInt ∧ ((V571 0 48)).toInt ≤ 10000 := hMV571 0 48
    have r574 : 0 ≤ ((V571 0 50)).toInt ∧ ((V571 0 50)).toInt ≤ 9 := hMV571 0 50
    have r575 : 0 ≤ ((V571 0 8)).toInt ∧ ((V571 0 8)).toInt ≤ 70000 := hMV571 0 8
    refine lv_aload_n hx hb dX12_pick_29 rfl (lv_at hl 1 rfl) ?_
    refine lv_bipush (v := 44) hx hb dX12_pick_30 (by decide) ?_
    refine gA_void (gA_runV (As := [.int 44]) (rest := []) (ci := 12) (q0 := 0) hx hb hml hown hg hP hD hK hS hA hnw hgk (s_takeSignB l D ks H.size ad kk V571 L572 44 hMV571 (show 1 ≤ (V571 0 8).toInt from by omega)) w2079 w2081 w96 w172 w2082 rfl rfl hdV_yX12_takeSign ⟨(by show 1 + 1 ≤ 10 * dd + 14; omega), (by show 8 + (2 + 11) + (21) ≤ 300 * dd + 460; omega)⟩ rfl hl.1 rfl (Nat.le_of_ble_eq_true rfl) dX12_pick_32 ⟨Nat.le_of_ble_eq_true rfl, Nat.le_of_ble_eq_true rfl⟩) hP hD hK hS hA (fun u577 H locs w578 hP hD hK hS => ?_)
    obtain ⟨V580, L581⟩ := u577
    obtain ⟨hMV580, ajV580, axL581, t579⟩ := w578
    have axL581 : L572 = L581 := Eq.symm axL581
    subst axL581
    have hP : va_P D vwCl (mw ad kk ks.1 V580 L572) H := hP
    have hD : va_D A (mw ad kk ks.1 V580 L572) := hD
    have hMV580 : rgd bM V580 := hMV580
    have ajV580 : agr [(0, 7), (0, 8)] [] V571 V580 := ajV580
    have agV580 : agr [(0, 7), (0, 8), (0, 48), (0, 50)] [35, 36, 37, 38, 45, 46, 47] V V580 := agV571.tr ajV580 (by decide) (by decide)
    have t579 : (V580 0 8).toInt = (V571 0 8).toInt := t579
    have r582 : 0 ≤ ((V580 0 8)).toInt ∧ ((V580 0 8)).toInt ≤ 70000 := hMV580 0 8
    refine lv_aload_n hx hb dX12_pick_35 rfl (lv_at hl 1 rfl) ?_
    refine lv_bipush (v := 13) hx hb dX12_pick_36 (by decide) ?_
    refine lv_iconst (v := 0) hx hb dX12_pick_38 (by decide) ?_
    refine lv_iconst (v := 0) hx hb dX12_pick_39 (by decide) ?_
    have r583 : Int32.toInt 13 = 13 := by decide
    have pq584 : (V580 0 48).toInt = ((V571 0 48)).toInt := congrArg Int32.toInt (ajV580 0 48 rfl)
    refine gA_int (gA_runV (As := [.int 13, .int 0, .int 0]) (rest := []) (ci := 12) (q0 := 0) hx hb hml hown hg hP hD hK hS hA hnw hgk (s_emit3 l D ks H.size ad kk V580 L572 13 0 0 hMV580 (show (V580 0 48).toInt ≤ 9999 from by omega)) w2140 w2142 w111 w172 w2143 rfl rfl hdV_yX12_emit ⟨(by show 0 + 1 ≤ 10 * dd + 14; omega), (by show 8 + (4 + 11) + (0) ≤ 300 * dd + 460; omega)⟩ rfl hl.1 rfl (Nat.le_of_ble_eq_true rfl) dX12_pick_40 ⟨Nat.le_of_ble_eq_true rfl, Nat.le_of_ble_eq_true rfl⟩) hP hD hK hS hA (fun z585 u586 H locs w587 hP hD hK hS => ?_)
    obtain ⟨V591, L592⟩ := u586
    obtain ⟨hMV591, ajV591, axL592, rgz585, t588, t589, t590⟩ := w587
    have axL592 : L572 = L592 := Eq.symm axL592
    subst axL592
    have hP : va_P D vwCl (mw ad kk ks.1 V591 L572) H := hP
    have hD : va_D A (mw ad kk ks.1 V591 L572) := hD
    have hMV591 : rgd bM V591 := hMV591
    have ajV591 : agr [(0, 48)] [45, 46, 47] V580 V591 := ajV591
    have agV591 : agr [(0, 7), (0, 8), (0, 48), (0, 50)] [35, 36, 37, 38, 45, 46, 47] V V591 := agV580.tr ajV591 (by decide) (by decide)
    have rgz585 : 0 ≤ z585.toInt ∧ z585.toInt ≤ 20000 := rgz585
    have t588 : (V591 0 48).toInt = (V580 0 48).toInt + 1 := t588
    have t589 : z585.toInt = (V580 0 49).toInt + (V580 0 48).toInt := t589
    have t590 : emitted V580 V591 (pA V580) 13 0 0 := t590
    have r593 : 0 ≤ ((V591 0 48)).toInt ∧ ((V591 0 48)).toInt ≤ 10000 := hMV591 0 48
    have pq594 : (V580 0 49).toInt = ((V 0 49)).toInt := congrArg Int32.toInt ((ajV580 0 49 rfl).trans ((ajV571 0 49 rfl).trans ((ajV554 0 49 rfl).trans ((ajV542 0 49 rfl).trans ((ajV531 0 49 rfl).trans (ajV8 0 49 rfl))))))
    refine lv_istore_n (lv' := [(2, .int z585), (1, .int z548), (0, .ref (ad 0))]) hx hb dX12_pick_43 rfl hl (by decide) rfl (fun ls hl => ?_)
    refine lv_aload_n hx hb dX12_pick_44 rfl (lv_at hl 2 rfl) ?_
    refine va_get (D := D) (ci := 12) (v := .ref (ad 46)) (C := RX12) (T := TX12) (N := 100) hx hb hg inX12 hown hK hP 0 rfl rfl 46 (by decide) (hg _ w1756) (fun _ h9 => h9) rfl dX12_pick_45 ?_
    refine lv_iload_n hx hb dX12_pick_48 rfl (lv_at hl 1 rfl) ?_
    refine lv_aload_n hx hb dX12_pick_49 rfl (lv_at hl 2 rfl) ?_
    refine va_get (D := D) (ci := 12) (v := .int (V591 0 49)) (C := RX12) (T := TX12) (N := 100) hx hb hg inX12 hown hK hP 0 rfl rfl 49 (by decide) (hg _ w1759) (fun _ h9 => h9) rfl dX12_pick_50 ?_
    refine g_top (v := (V 0 49)) ((ajV591 0 49 rfl).trans ((ajV580 0 49 rfl).trans ((ajV571 0 49 rfl).trans ((ajV554 0 49 rfl).trans ((ajV542 0 49 rfl).trans ((ajV531 0 49 rfl).trans (ajV8 0 49 rfl))))))) ?_
    refine lv_aload_n hx hb dX12_pick_53 rfl (lv_at hl 2 rfl) ?_
    refine va_get (D := D) (ci := 12) (v := .int (V591 0 48)) (C := RX12) (T := TX12) (N := 100) hx hb hg inX12 hown hK hP 0 rfl rfl 48 (by decide) (hg _ w1758) (fun _ h9 => h9) rfl dX12_pick_54 ?_
    refine lv_iadd hx hb dX12_pick_57 ?_
    refine lv_topi (fun z595 ez595 => ?_)
    have hz595 : z595.toInt = ((V 0 49)).toInt + ((V591 0 48)).toInt := i_add ez595 rfl rfl (by omega)
    refine va_iast (D := D) (i := z548) (x := z595) hx hb hK hP hD hS 39 38 rfl rfl (i_in (a := z548.toInt) rfl (by omega)) dX12_pick_58 (fun H locs hP hD hS => ?_)
    obtain ⟨V596, hV596⟩ : ∃ z, z = up2 V591 46 (Int32.toNatClampNeg z548) z595 := ⟨_, rfl⟩
    have hP : va_P D vwCl (mw ad kk ks.1 V596 L572) H := by rw [hV596]; exact hP
    have hD : va_D A (mw ad kk ks.1 V596 L572) := by rw [hV596]; exact hD
    have hMV596 : rgd bM V596 := hMV591.put hV596 (i_full _)
    have agV596 : agr [(0, 7), (0, 8), (0, 48), (0, 50)] [35, 36, 37, 38, 45, 46, 47] V V596 := agV591.up hV596 rfl
    refine lv_aload_n hx hb dX12_pick_59 rfl (lv_at hl 2 rfl) ?_
    have pq597 : (V596 0 8).toInt = ((V580 0 8)).toInt := congrArg Int32.toInt ((up2_o hV596 (by decide)).trans (ajV591 0 8 rfl))
    have pq598 : (V596 0 50).toInt = ((V571 0 50)).toInt := congrArg Int32.toInt ((up2_o hV596 (by decide)).trans ((ajV591 0 50 rfl).trans (ajV580 0 50 rfl)))
    refine gA_void (gA_runV (As := []) (rest := []) (ci := 12) (q0 := 0) hx hb hml hown hg hP hD hK hS hA hnw hgk (s_expressionB l D ks H.size ad kk V596 L572  hMV596 (show 1 ≤ (V596 0 8).toInt from by omega) (show (V596 0 50).toInt ≤ 8 from by omega)) w2120 w2122 w106 w172 w2123 rfl rfl hdV_yX12_expression ⟨(by show 4 + 1 ≤ 10 * dd + 14; omega), (by show 8 + (3 + 11) + (86) ≤ 300 * dd + 460; omega)⟩ rfl hl.1 rfl (Nat.le_of_ble_eq_true rfl) dX12_pick_60 ⟨Nat.le_of_ble_eq_true rfl, Nat.le_of_ble_eq_true rfl⟩) hP hD hK hS hA (fun u600 H locs w601 hP hD hK hS => ?_)
    obtain ⟨V609, L610⟩ := u600
    obtain ⟨hMV609, ajV609, axL610, t602, t603, t604, t605, t606, t607, t608⟩ := w601
    have alL610 : agL [35, 36, 37, 38, 45, 46, 47] L L610 := agL.tr alL572 axL610 (by decide)
    have hP : va_P D vwCl (mw ad kk ks.1 V609 L610) H := hP
    have hD : va_D A (mw ad kk ks.1 V609 L610) := hD
    have hMV609 : rgd bM V609 := hMV609
    have ajV609 : agr [(0, 7), (0, 8), (0, 48), (0, 50)] [35, 36, 37, 38, 45, 46, 47] V596 V609 := ajV609
    have agV609 : agr [(0, 7), (0, 8), (0, 48), (0, 50)] [35, 36, 37, 38, 45, 46, 47] V V609 := agV596.tr ajV609 (by decide) (by decide)
    have t602 : (V609 0 48).toInt = (V596 0 48).toInt := t602
    have t603 : (V609 0 50).toInt = (V596 0 50).toInt := t603
    have t604 : (V609 0 8).toInt = (V596 0 8).toInt := t604
    have t605 : NoV 35 V596 V609 := t605
    have t606 : NoV 37 V596 V609 := t606
    have t607 : NoL 36 L572 L610 := t607
    have t608 : NoL 38 L572 L610 := t608
    have pq611 : (V596 0 48).toInt = ((V591 0 48)).toInt := congrArg Int32.toInt (up2_o hV596 (by decide))
    have r612 : 0 ≤ ((V609 0 48)).toInt ∧ ((V609 0 48)).toInt ≤ 10000 := hMV609 0 48
    have r613 : 0 ≤ ((V609 0 50)).toInt ∧ ((V609 0 50)).toInt ≤ 9 := hMV609 0 50
    have r614 : 0 ≤ ((V609 0 8)).toInt ∧ ((V609 0 8)).toInt ≤ 70000 := hMV609 0 8
    refine lv_aload_n hx hb dX12_pick_63 rfl (lv_at hl 2 rfl) ?_
    refine lv_bipush (v := 41) hx hb dX12_pick_64 (by decide) ?_
    have r615 : Int32.toInt 41 = 41 := by decide
    refine gA_void (gA_runV (As := [.int 41]) (rest := []) (ci := 12) (q0 := 0) hx hb hml hown hg hP hD hK hS hA hnw hgk (s_takeSignB l D ks H.size ad kk V609 L610 41 hMV609 (show 1 ≤ (V609 0 8).toInt from by omega)) w2079 w2081 w96 w172 w2082 rfl rfl hdV_yX12_takeSign ⟨(by show 1 + 1 ≤ 10 * dd + 14; omega), (by show 8 + (2 + 11) + (21) ≤ 300 * dd + 460; omega)⟩ rfl hl.1 rfl (Nat.le_of_ble_eq_true rfl) dX12_pick_66 ⟨Nat.le_of_ble_eq_true rfl, Nat.le_of_ble_eq_true rfl⟩) hP hD hK hS hA (fun u617 H locs w618 hP hD hK hS => ?_)
    obtain ⟨V620, L621⟩ := u617
    obtain ⟨hMV620, ajV620, axL621, t619⟩ := w618
    have axL621 : L610 = L621 := Eq.symm axL621
    subst axL621
    have hP : va_P D vwCl (mw ad kk ks.1 V620 L610) H := hP
    have hD : va_D A (mw ad kk ks.1 V620 L610) := hD
    have hMV620 : rgd bM V620 := hMV620
    have ajV620 : agr [(0, 7), (0, 8)] [] V609 V620 := ajV620
    have agV620 : agr [(0, 7), (0, 8), (0, 48), (0, 50)] [35, 36, 37, 38, 45, 46, 47] V V620 := agV609.tr ajV620 (by decide) (by decide)
    have t619 : (V620 0 8).toInt = (V609 0 8).toInt := t619
    have r622 : 0 ≤ ((V620 0 8)).toInt ∧ ((V620 0 8)).toInt ≤ 70000 := hMV620 0 8
    refine lv_aload_n hx hb dX12_pick_69 rfl (lv_at hl 2 rfl) ?_
    refine va_get (D := D) (ci := 12) (v := .ref (ad 46)) (C := RX12) (T := TX12) (N := 100) hx hb hg inX12 hown hK hP 0 rfl rfl 46 (by decide) (hg _ w1756) (fun _ h9 => h9) rfl dX12_pick_70 ?_
    refine lv_iload_n hx hb dX12_pick_73 rfl (lv_at hl 0 rfl) ?_
    refine lv_aload_n hx hb dX12_pick_74 rfl (lv_at hl 2 rfl) ?_
    refine va_get (D := D) (ci := 12) (v := .int (V620 0 49)) (C := RX12) (T := TX12) (N := 100) hx hb hg inX12 hown hK hP 0 rfl rfl 49 (by decide) (hg _ w1759) (fun _ h9 => h9) rfl dX12_pick_75 ?_
    refine g_top (v := (V 0 49)) ((ajV620 0 49 rfl).trans ((ajV609 0 49 rfl).trans ((up2_o hV596 (by decide)).trans ((ajV591 0 49 rfl).trans ((ajV580 0 49 rfl).trans ((ajV571 0 49 rfl).trans ((ajV554 0 49 rfl).trans ((ajV542 0 49 rfl).trans ((ajV531 0 49 rfl).trans (ajV8 0 49 rfl)))))))))) ?_
    refine lv_aload_n hx hb dX12_pick_78 rfl (lv_at hl 2 rfl) ?_
    refine va_get (D := D) (ci := 12) (v := .int (V620 0 48)) (C := RX12) (T := TX12) (N := 100) hx hb hg inX12 hown hK hP 0 rfl rfl 48 (by decide) (hg _ w1758) (fun _ h9 => h9) rfl dX12_pick_79 ?_
    refine g_top (v := (V609 0 48)) (ajV620 0 48 rfl) ?_
    refine lv_iadd hx hb dX12_pick_82 ?_
    refine lv_topi (fun z623 ez623 => ?_)
    have hz623 : z623.toInt = ((V 0 49)).toInt + ((V609 0 48)).toInt := i_add ez623 rfl rfl (by omega)
    refine va_iast (D := D) (i := z585) (x := z623) hx hb hK hP hD hS 39 38 rfl rfl (i_in (a := z585.toInt) rfl (by omega)) dX12_pick_83 (fun H locs hP hD hS => ?_)
    obtain ⟨V624, hV624⟩ : ∃ z, z = up2 V620 46 (Int32.toNatClampNeg z585) z623 := ⟨_, rfl⟩
    have hP : va_P D vwCl (mw ad kk ks.1 V624 L610) H := by rw [hV624]; exact hP
    have hD : va_D A (mw ad kk ks.1 V624 L610) := by rw [hV624]; exact hD
    have hMV624 : rgd bM V624 := hMV620.put hV624 (i_full _)
    have agV624 : agr [(0, 7), (0, 8), (0, 48), (0, 50)] [35, 36, 37, 38, 45, 46, 47] V V624 := agV620.up hV624 rfl
    have pq625 : (V624 0 7).toInt = ((V620 0 7)).toInt := congrArg Int32.toInt (up2_o hV624 (by decide))
    have pq626 : (V624 0 48).toInt = ((V609 0 48)).toInt := congrArg Int32.toInt ((up2_o hV624 (by decide)).trans (ajV620 0 48 rfl))
    have pq627 : (V624 0 8).toInt = ((V620 0 8)).toInt := congrArg Int32.toInt (up2_o hV624 (by decide))
    have pq628 : (V624 0 50).toInt = ((V609 0 50)).toInt := congrArg Int32.toInt ((up2_o hV624 (by decide)).trans (ajV620 0 50 rfl))
    have rw629 : RoV 35 bq V V624 := (fun k hk => ((up2_o hV624 (by decide)).trans ((ajV620 35 k rfl).trans ((t605 k).trans ((up2_o hV596 (by decide)).trans ((ajV591 35 k rfl).trans ((ajV580 35 k rfl).trans ((t567 k).trans ((ajV554 35 k rfl).trans ((ajV542 35 k rfl).trans ((t527 k).trans ((ajV8 35 k rfl).trans rfl))))))))))))
    have rw630 : RoV 37 bq V V624 := (fun k hk => ((up2_o hV624 (by decide)).trans ((ajV620 37 k rfl).trans ((t606 k).trans ((up2_o hV596 (by decide)).trans ((ajV591 37 k rfl).trans ((ajV580 37 k rfl).trans ((t568 k).trans ((ajV554 37 k rfl).trans ((ajV542 37 k rfl).trans ((t528 k).trans ((ajV8 37 k rfl).trans rfl))))))))))))
    have rw631 : RoL 36 20 bq L L610 := (fun k hk => ((t607 k).trans ((t569 k).trans ((t529 k).trans rfl))))
    have rw632 : RoL 38 20 bq L L610 := (fun k hk => ((t608 k).trans ((t570 k).trans ((t530 k).trans rfl))))
    exact W.vret hx hb hr (fun t ht hW => ⟨⟨(V624, L610), rfl, ⟨hMV624, agV624, alL610, (Imp.mk (fun hp => have hp : (V624 0 8).toInt = 0 := hp; (show (V624 0 48).toInt - (V 0 48).toInt ≤ 2 * ((V624 0 7).toInt - (V 0 7).toInt) from by omega))), (show (V624 0 48).toInt ≤ 8053 - 6 * (V 0 50).toInt from by omega), (show (V624 0 50).toInt = (V 0 50).toInt from by omega), (show (V 0 48).toInt ≤ (V624 0 48).toInt from by omega), (Or.inr ⟨(show 1 ≤ (V624 0 8).toInt from by omega), (fun k => by rw [show (V624 0 8).toInt = (V8 0 8).toInt from by omega]; exact hb518 k)⟩), rw629, rw630, rw631, rw632⟩, by rw [ht]; exact hP, va_K.moved hW.alike hK, hD⟩, hS.F ht⟩) hS.2.2 dX12_pick_84
set_option maxHeartbeats 4000000 in
set_option maxRecDepth 100000 in
theorem s_partA {l : Launch} {D : va_G} {ks : KS} {dd : Nat} (hk_s_partWithinA : ∀ d9, dd = d9 + 1 → K_s_partWithinA l D ks d9) : K_s_partA l D ks dd := by
  intro sz ad kk V L  bq gn gT gs gl gd hMV rel c1 yd c4 em
  refine g_met (q_s_partA D ks ad kk V L  bq gn gT gs gl gd) (by decide) (Nat.le_of_ble_eq_true rfl) ?_
  intro p e s m below meth c A ls H locs hx hb hr hml hown hg hlocks hin hnw hgk hP hK hD hS hA hl
  have hown : s.vm.findClass RX12 = some m.cls := hown
  have hl : lv_has ls 2 [(0, .ref (ad 0))] := hl
  have hP : va_P D vwCl (mw ad kk ks.1 V L) H := hP
  have hD : va_D A (mw ad kk ks.1 V L) := hD
  have hK : va_K D vwCl (mty kk) s := hK
  have agV : agr [(0, 7), (0, 8), (0, 48), (0, 50)] [35, 36, 37, 38, 45, 46, 47] V V := agr.rf
  have alL : agL [35, 36, 37, 38, 45, 46, 47] L L := agL.rf
  have r1 : 0 ≤ ((V 0 48)).toInt ∧ ((V 0 48)).toInt ≤ 10000 := hMV 0 48
  have r2 : 0 ≤ ((V 0 50)).toInt ∧ ((V 0 50)).toInt ≤ 9 := hMV 0 50
  have rg0 := RelM.rg rel
  have cl0 := RelM.cl rel
  have cq0 := RelM.cq rel
  refine lv_aload_n hx hb dX12_part_0 rfl (lv_at hl 0 rfl) ?_
  refine va_get (D := D) (ci := 12) (v := .int (V 0 8)) (C := RX12) (T := TX12) (N := 100) hx hb hg inX12 hown hK hP 0 rfl rfl 8 (by decide) (hg _ w1718) (fun _ h9 => h9) rfl dX12_part_1 ?_
  have r3 : 0 ≤ ((V 0 8)).toInt ∧ ((V 0 8)).toInt ≤ 70000 := hMV 0 8
  refine lv_if_ne (tgt := 22) hx hb dX12_part_4 (by decide) (fun c4 => ?_) (fun c4 => ?_)
  · skip
    have f5 : ((V 0 8)).toInt ≠ 0 := b_neq rfl (by decide) c4
    exfalso; omega
  · skip
    have f6 : ((V 0 8)).toInt = 0 := b_eq rfl (by decide) c4
    refine lv_aload_n hx hb dX12_part_7 rfl (lv_at hl 0 rfl) ?_
    refine gA_int (gA_runV (As := []) (rest := []) (ci := 12) (q0 := 0) hx hb hml hown hg hP hD hK hS hA hnw hgk (s_isPartA l D ks H.size ad kk V L (bq) (gn) (gT) (gs) (gl) hMV rel em) w2136 w2138 w110 w172 w2139 rfl rfl hdV_yX12_isPart ⟨(by show 1 + 1 ≤ 10 * dd + 10; omega), (by show 8 + (1 + 11) + (21) ≤ 300 * dd + 300; omega)⟩ rfl hl.1 rfl (Nat.le_of_ble_eq_true rfl) dX12_part_8 ⟨Nat.le_of_ble_eq_true rfl, Nat.le_of_ble_eq_true rfl⟩) hP hD hK hS hA (fun z7 u8 H locs w9 hP hD hK hS => ?_)
    obtain ⟨rgz7, t10⟩ := w9
    have rgz7 : 0 ≤ z7.toInt ∧ z7.toInt ≤ 1 := rgz7
    have t10 : (z7.toInt = 1 ∧ bgP (gT) (gs)) ∨ (z7.toInt = 0 ∧ ¬ bgP (gT) (gs)) := t10
    rcases t10 with ⟨q11, h12⟩ | ⟨q11, h12⟩
    · skip
      refine lv_if_ne (tgt := 22) hx hb dX12_part_11 (by decide) (fun c13 => ?_) (fun c13 => ?_)
      · skip
        have f14 : z7.toInt ≠ 0 := b_neq rfl (by decide) c13
        refine lv_aload_n hx hb dX12_part_22 rfl (lv_at hl 0 rfl) ?_
        refine va_get (D := D) (ci := 12) (v := .int (V 0 8)) (C := RX12) (T := TX12) (N := 100) hx hb hg inX12 hown hK hP 0 rfl rfl 8 (by decide) (hg _ w1718) (fun _ h9 => h9) rfl dX12_part_23 ?_
        refine lv_if_ne (tgt := 43) hx hb dX12_part_26 (by decide) (fun c15 => ?_) (fun c15 => ?_)
        · skip
          have f16 : ((V 0 8)).toInt ≠ 0 := b_neq rfl (by decide) c15
          exfalso; omega
        · skip
          have f17 : ((V 0 8)).toInt = 0 := b_eq rfl (by decide) c15
          refine lv_aload_n hx hb dX12_part_29 rfl (lv_at hl 0 rfl) ?_
          refine va_get (D := D) (ci := 12) (v := .int (V 0 50)) (C := RX12) (T := TX12) (N := 100) hx hb hg inX12 hown hK hP 0 rfl rfl 50 (by decide) (hg _ w1760) (fun _ h9 => h9) rfl dX12_part_30 ?_
          refine lv_bipush (v := 8) hx hb dX12_part_33 (by decide) ?_
          refine lv_icmp_ne (tgt := 43) hx hb dX12_part_35 (by decide) (fun c18 => ?_) (fun c18 => ?_)
          · skip
            have f19 : ((V 0 50)).toInt ≠ 8 := b_neq rfl (by decide) c18
            refine lv_aload_n hx hb dX12_part_43 rfl (lv_at hl 0 rfl) ?_
            refine lv_dup hx hb dX12_part_44 rfl ?_
            refine va_get (D := D) (ci := 12) (v := .int (V 0 50)) (C := RX12) (T := TX12) (N := 100) hx hb hg inX12 hown hK hP 0 rfl rfl 50 (by decide) (hg _ w1760) (fun _ h9 => h9) rfl dX12_part_45 ?_
            refine lv_iconst (v := 1) hx hb dX12_part_48 (by decide) ?_
            refine lv_iadd hx hb dX12_part_49 ?_
            refine lv_topi (fun z20 ez20 => ?_)
            have hz20 : z20.toInt = ((V 0 50)).toInt + 1 := i_add ez20 rfl (by decide) (by omega)
            refine va_put (D := D) (ci := 12) (v := .int z20) (ty := tyX12 50) (C := RX12) (T := TX12) (N := 100) hx hb hg inX12 tyX12 tyX12_ok nmX12 hown hK hP hD hS 0 rfl rfl 50 (by decide) (hg _ w1760) (fun _ h9 => h9) rfl (tyX12_ok 50 (by decide)) rfl rfl (Nat.le_of_ble_eq_true rfl) dX12_part_50 (fun H locs hP hD hS => ?_)
            obtain ⟨V21, hV21⟩ : ∃ z, z = up2 V 0 50 z20 := ⟨_, rfl⟩
            have hP : va_P D vwCl (mw ad kk ks.1 V21 L) H := by rw [hV21]; exact hP
            have hD : va_D A (mw ad kk ks.1 V21 L) := by rw [hV21]; exact hD
            have hMV21 : rgd bM V21 := hMV.put hV21 (show 0 ≤ z20.toInt ∧ z20.toInt ≤ 9 from by omega)
            have agV21 : agr [(0, 7), (0, 8), (0, 48), (0, 50)] [35, 36, 37, 38, 45, 46, 47] V V21 := agV.up hV21 rfl
            refine lv_aload_n hx hb dX12_part_53 rfl (lv_at hl 0 rfl) ?_
            refine va_get (D := D) (ci := 12) (v := .int (V21 0 8)) (C := RX12) (T := TX12) (N := 100) hx hb hg inX12 hown hK hP 0 rfl rfl 8 (by decide) (hg _ w1718) (fun _ h9 => h9) rfl dX12_part_54 ?_
            refine g_top (v := (V 0 8)) (up2_k hV21 (by decide)) ?_
            refine lv_if_ne (tgt := 72) hx hb dX12_part_57 (by decide) (fun c22 => ?_) (fun c22 => ?_)
            · skip
              have f23 : ((V 0 8)).toInt ≠ 0 := b_neq rfl (by decide) c22
              exfalso; omega
            · skip
              have f24 : ((V 0 8)).toInt = 0 := b_eq rfl (by decide) c22
              refine lv_aload_n hx hb dX12_part_60 rfl (lv_at hl 0 rfl) ?_
              refine lv_iconst (v := 1) hx hb dX12_part_61 (by decide) ?_
              refine lv_iconst (v := 0) hx hb dX12_part_62 (by decide) ?_
              refine lv_iconst (v := 0) hx hb dX12_part_63 (by decide) ?_
              have r25 : Int32.toInt 1 = 1 := by decide
              have r26 : Int32.toInt 0 = 0 := by decide
              have pq27 : (V21 0 48).toInt = ((V 0 48)).toInt := congrArg Int32.toInt (up2_k hV21 (by decide))
              refine gA_int (gA_runV (As := [.int 1, .int 0, .int 0]) (rest := []) (ci := 12) (q0 := 0) hx hb hml hown hg hP hD hK hS hA hnw hgk (s_emit3 l D ks H.size ad kk V21 L 1 0 0 hMV21 (show (V21 0 48).toInt ≤ 9999 from by omega)) w2140 w2142 w111 w172 w2143 rfl rfl hdV_yX12_emit ⟨(by show 0 + 1 ≤ 10 * dd + 10; omega), (by show 8 + (4 + 11) + (0) ≤ 300 * dd + 300; omega)⟩ rfl hl.1 rfl (Nat.le_of_ble_eq_true rfl) dX12_part_64 ⟨Nat.le_of_ble_eq_true rfl, Nat.le_of_ble_eq_true rfl⟩) hP hD hK hS hA (fun z28 u29 H locs w30 hP hD hK hS => ?_)
              obtain ⟨V34, L35⟩ := u29
              obtain ⟨hMV34, ajV34, axL35, rgz28, t31, t32, t33⟩ := w30
              have axL35 : L = L35 := Eq.symm axL35
              subst axL35
              have hP : va_P D vwCl (mw ad kk ks.1 V34 L) H := hP
              have hD : va_D A (mw ad kk ks.1 V34 L) := hD
              have hMV34 : rgd bM V34 := hMV34
              have ajV34 : agr [(0, 48)] [45, 46, 47] V21 V34 := ajV34
              have agV34 : agr [(0, 7), (0, 8), (0, 48), (0, 50)] [35, 36, 37, 38, 45, 46, 47] V V34 := agV21.tr ajV34 (by decide) (by decide)
              have rgz28 : 0 ≤ z28.toInt ∧ z28.toInt ≤ 20000 := rgz28
              have t31 : (V34 0 48).toInt = (V21 0 48).toInt + 1 := t31
              have t32 : z28.toInt = (V21 0 49).toInt + (V21 0 48).toInt := t32
              have t33 : emitted V21 V34 (pA V21) 1 0 0 := t33
              have r36 : 0 ≤ ((V34 0 48)).toInt ∧ ((V34 0 48)).toInt ≤ 10000 := hMV34 0 48
              have pq37 : (V21 0 49).toInt = ((V 0 49)).toInt := congrArg Int32.toInt (up2_k hV21 (by decide))
              have r38 : 0 ≤ ((V 0 49)).toInt ∧ ((V 0 49)).toInt ≤ 10000 := hMV 0 49
              refine lv_istore_n (lv' := [(1, .int z28), (0, .ref (ad 0))]) hx hb dX12_part_67 rfl hl (by decide) rfl (fun ls hl => ?_)
              refine lv_aload_n hx hb dX12_part_68 rfl (lv_at hl 1 rfl) ?_
              obtain ⟨d9, rfl⟩ : ∃ d9, dd = d9 + 1 := ⟨dd - 1, by omega⟩
              have rl39 : RelM V34 L bq gn gT gs gl := RelM.ag rel (show agr [(0, 48), (0, 50)] [45, 46, 47] V V34 from (agr.tr (agr.up agr.rf hV21 rfl) ajV34 (by decide) (by decide))) (by decide) (show agL [] L L from agL.rf) (by decide)
              have hr40 : ∀ k, Rc gT (Crun gs (Ipart gd :: k)) (Crun gs (Ipart gd :: k)) := fun k => Rc.rf
              have pq41 : (V34 0 7).toInt = ((V 0 7)).toInt := congrArg Int32.toInt ((ajV34 0 7 rfl).trans (up2_k hV21 (by decide)))
              have pq42 : (V34 0 50).toInt = z20.toInt := congrArg Int32.toInt ((ajV34 0 50 rfl).trans (up2_s hV21))
              refine gA_void (gA_runV (As := []) (rest := []) (ci := 12) (q0 := 0) hx hb hml hown hg hP hD hK hS hA hnw hgk ((hk_s_partWithinA d9 rfl) H.size ad kk V34 L (bq) (gn) (gT) (gs) (gl) (gd) hMV34 rl39 (show (V34 0 48).toInt ≤ 2 * (V34 0 7).toInt + 1 from by omega) (show (V34 0 50).toInt = ((gd) : Int) + 1 from by omega) (show ((gd) : Int) ≤ 7 from by omega) h12 (show (V34 0 50).toInt + ((d9 : Nat) : Int) = 8 from by omega) (EM.mv em ((ajV34 0 51 rfl).trans (up2_k hV21 (by decide))) ((ajV34 0 52 rfl).trans (up2_k hV21 (by decide))) (by rw [(funext (fun q => ajV34 27 q rfl) : V34 27 = V21 27), (up2_fo hV21 (by decide) : V21 27 = V 27)] : V34 27 = V 27) (fun _ _ => rfl))) w2144 w2146 w112 w172 w2147 rfl rfl hdV_yX12_partWithin ⟨(by show 10 * d9 + 15 + 1 ≤ 10 * (d9 + 1) + 10; omega), (by show 8 + (4 + 11) + (300 * d9 + 500) ≤ 300 * (d9 + 1) + 300; omega)⟩ rfl hl.1 rfl (Nat.le_of_ble_eq_true rfl) dX12_part_69 ⟨Nat.le_of_ble_eq_true rfl, Nat.le_of_ble_eq_true rfl⟩) hP hD hK hS hA (fun u44 H locs w45 hP hD hK hS => ?_)
              obtain ⟨V55, L56⟩ := u44
              obtain ⟨hMV55, ajV55, axL56, t46, t47, t48, t49, t50, t51, t52, t53, t54⟩ := w45
              have alL56 : agL [35, 36, 37, 38, 45, 46, 47] L L56 := agL.tr alL axL56 (by decide)
              have hP : va_P D vwCl (mw ad kk ks.1 V55 L56) H := hP
              have hD : va_D A (mw ad kk ks.1 V55 L56) := hD
              have hMV55 : rgd bM V55 := hMV55
              have ajV55 : agr [(0, 7), (0, 8), (0, 48), (0, 50)] [35, 36, 37, 38, 45, 46, 47] V34 V55 := ajV55
              have agV55 : agr [(0, 7), (0, 8), (0, 48), (0, 50)] [35, 36, 37, 38, 45, 46, 47] V V55 := agV34.tr ajV55 (by decide) (by decide)
              have t46 : Imp ((V55 0 8).toInt = 0) ((V55 0 48).toInt - (V34 0 48).toInt + 1 ≤ 2 * ((V55 0 7).toInt - (V34 0 7).toInt)) := t46
              have t47 : (V55 0 48).toInt ≤ 8054 - 6 * (V34 0 50).toInt := t47
              have t48 : (V55 0 50).toInt = (V34 0 50).toInt := t48
              have t49 : (V34 0 48).toInt ≤ (V55 0 48).toInt := t49
              have t50 : RdM (gT) (gs) (fun k => Ipart (gd) :: k) (fun k => k) (V55 0 8).toInt (fun s9 => RelM V55 L56 (bq) (gn) (gT) s9 (gl) ∧ keepS (gs) 1 s9) := t50
              have t51 : RoV 35 (bq) V34 V55 := t51
              have t52 : RoV 37 (bq) V34 V55 := t52
              have t53 : RoL 36 20 (bq) L L56 := t53
              have t54 : RoL 38 20 (bq) L L56 := t54
              have r57 : 0 ≤ ((V55 0 48)).toInt ∧ ((V55 0 48)).toInt ≤ 10000 := hMV55 0 48
              have r58 : 0 ≤ ((V55 0 8)).toInt ∧ ((V55 0 8)).toInt ≤ 70000 := hMV55 0 8
              have r59 : 0 ≤ ((V55 0 50)).toInt ∧ ((V55 0 50)).toInt ≤ 9 := hMV55 0 50
              rcases t50 with ⟨q60, sx61, h62, rl63, kp64⟩ | ⟨q60, h62⟩
              · skip
                have hr65 : ∀ k, Rc gT (Crun gs (Ipart gd :: k)) (Crun sx61 (k)) := fun k => (hr40 k).tr (h62 (k))
                have fz66 := RelM.rg rl63
                have ps67 := (kp64).1
                refine lv_aload_n hx hb dX12_part_72 rfl (lv_at hl 1 rfl) ?_
                refine lv_dup hx hb dX12_part_73 rfl ?_
                refine va_get (D := D) (ci := 12) (v := .int (V55 0 50)) (C := RX12) (T := TX12) (N := 100) hx hb hg inX12 hown hK hP 0 rfl rfl 50 (by decide) (hg _ w1760) (fun _ h9 => h9) rfl dX12_part_74 ?_
                refine lv_iconst (v := 1) hx hb dX12_part_77 (by decide) ?_
                refine lv_isub hx hb dX12_part_78 ?_
                refine lv_topi (fun z68 ez68 => ?_)
                have hz68 : z68.toInt = ((V55 0 50)).toInt - 1 := i_sub ez68 rfl (by decide) (by omega)
                refine va_put (D := D) (ci := 12) (v := .int z68) (ty := tyX12 50) (C := RX12) (T := TX12) (N := 100) hx hb hg inX12 tyX12 tyX12_ok nmX12 hown hK hP hD hS 0 rfl rfl 50 (by decide) (hg _ w1760) (fun _ h9 => h9) rfl (tyX12_ok 50 (by decide)) rfl rfl (Nat.le_of_ble_eq_true rfl) dX12_part_79 (fun H locs hP hD hS => ?_)
                obtain ⟨V69, hV69⟩ : ∃ z, z = up2 V55 0 50 z68 := ⟨_, rfl⟩
                have hP : va_P D vwCl (mw ad kk ks.1 V69 L56) H := by rw [hV69]; exact hP
                have hD : va_D A (mw ad kk ks.1 V69 L56) := by rw [hV69]; exact hD
                have hMV69 : rgd bM V69 := hMV55.put hV69 (show 0 ≤ z68.toInt ∧ z68.toInt ≤ 9 from by first | omega | ((try (have i_t46 := Imp.go t46 (by omega))); omega))
                have agV69 : agr [(0, 7), (0, 8), (0, 48), (0, 50)] [35, 36, 37, 38, 45, 46, 47] V V69 := agV55.up hV69 rfl
                have pq70 : (V69 0 7).toInt = ((V55 0 7)).toInt := congrArg Int32.toInt (up2_k hV69 (by decide))
                have pq71 : (V69 0 48).toInt = ((V55 0 48)).toInt := congrArg Int32.toInt (up2_k hV69 (by decide))
                have pq72 : (V69 0 8).toInt = ((V55 0 8)).toInt := congrArg Int32.toInt (up2_k hV69 (by decide))
                have pq73 : (V69 0 50).toInt = z68.toInt := congrArg Int32.toInt (up2_s hV69)
                have rl74 : RelM V69 L56 bq gn gT sx61 gl := RelM.ag rl63 (show agr [(0, 50)] [] V55 V69 from (agr.up agr.rf hV69 rfl)) (by decide) (show agL [] L56 L56 from agL.rf) (by decide)
                have rw75 : RoV 35 bq V V69 := (fun k hk => ((up2_o hV69 (by decide)).trans ((t51 k hk).trans ((ajV34 35 k rfl).trans ((up2_o hV21 (by decide)).trans rfl)))))
                have rw76 : RoV 37 bq V V69 := (fun k hk => ((up2_o hV69 (by decide)).trans ((t52 k hk).trans ((ajV34 37 k rfl).trans ((up2_o hV21 (by decide)).trans rfl)))))
                have rw77 : RoL 36 20 bq L L56 := (fun k hk => ((t53 k hk).trans rfl))
                have rw78 : RoL 38 20 bq L L56 := (fun k hk => ((t54 k hk).trans rfl))
                exact W.vret hx hb hr (fun t ht hW => ⟨⟨(V69, L56), rfl, ⟨hMV69, agV69, alL56, (Imp.mk (fun hp => have hp : (V69 0 8).toInt = 0 := hp; (show (V69 0 48).toInt - (V 0 48).toInt ≤ 2 * ((V69 0 7).toInt - (V 0 7).toInt) from by first | omega | ((try (have i_t46 := Imp.go t46 (by omega))); omega)))), (show (V69 0 48).toInt ≤ 8048 - 6 * (V 0 50).toInt from by first | omega | ((try (have i_t46 := Imp.go t46 (by omega))); omega)), (show (V69 0 50).toInt = (V 0 50).toInt from by first | omega | ((try (have i_t46 := Imp.go t46 (by omega))); omega)), (show (V 0 48).toInt ≤ (V69 0 48).toInt from by first | omega | ((try (have i_t46 := Imp.go t46 (by omega))); omega)), (Or.inl ⟨W0 rl74, sx61, hr65, rl74, keepS.le (keepS.tr (keepS.rf : keepS gs 0 gs) kp64) (by decide)⟩), rw75, rw76, rw77, rw78⟩, by rw [ht]; exact hP, va_K.moved hW.alike hK, hD⟩, hS.F ht⟩) hS.2.2 dX12_part_82
              · skip
                have hb79 : ∀ k, Rc gT (Crun gs (Ipart gd :: k)) (Cbad (V55 0 8).toInt) := fun k => (hr40 k).tr (h62 (k))
                refine lv_aload_n hx hb dX12_part_72 rfl (lv_at hl 1 rfl) ?_
                refine lv_dup hx hb dX12_part_73 rfl ?_
                refine va_get (D := D) (ci := 12) (v := .int (V55 0 50)) (C := RX12) (T := TX12) (N := 100) hx hb hg inX12 hown hK hP 0 rfl rfl 50 (by decide) (hg _ w1760) (fun _ h9 => h9) rfl dX12_part_74 ?_
                refine lv_iconst (v := 1) hx hb dX12_part_77 (by decide) ?_
                refine lv_isub hx hb dX12_part_78 ?_
                refine lv_topi (fun z80 ez80 => ?_)
                have hz80 : z80.toInt = ((V55 0 50)).toInt - 1 := i_sub ez80 rfl (by decide) (by omega)
                refine va_put (D := D) (ci := 12) (v := .int z80) (ty := tyX12 50) (C := RX12) (T := TX12) (N := 100) hx hb hg inX12 tyX12 tyX12_ok nmX12 hown hK hP hD hS 0 rfl rfl 50 (by decide) (hg _ w1760) (fun _ h9 => h9) rfl (tyX12_ok 50 (by decide)) rfl rfl (Nat.le_of_ble_eq_true rfl) dX12_part_79 (fun H locs hP hD hS => ?_)
                obtain ⟨V81, hV81⟩ : ∃ z, z = up2 V55 0 50 z80 := ⟨_, rfl⟩
                have hP : va_P D vwCl (mw ad kk ks.1 V81 L56) H := by rw [hV81]; exact hP
                have hD : va_D A (mw ad kk ks.1 V81 L56) := by rw [hV81]; exact hD
                have hMV81 : rgd bM V81 := hMV55.put hV81 (show 0 ≤ z80.toInt ∧ z80.toInt ≤ 9 from by first | omega | ((try (have i_t46 := Imp.go t46 (by omega))); omega))
                have agV81 : agr [(0, 7), (0, 8), (0, 48), (0, 50)] [35, 36, 37, 38, 45, 46, 47] V V81 := agV55.up hV81 rfl
                have pq82 : (V81 0 7).toInt = ((V55 0 7)).toInt := congrArg Int32.toInt (up2_k hV81 (by decide))
                have pq83 : (V81 0 48).toInt = ((V55 0 48)).toInt := congrArg Int32.toInt (up2_k hV81 (by decide))
                have pq84 : (V81 0 8).toInt = ((V55 0 8)).toInt := congrArg Int32.toInt (up2_k hV81 (by decide))
                have pq85 : (V81 0 50).toInt = z80.toInt := congrArg Int32.toInt (up2_s hV81)
                have rw86 : RoV 35 bq V V81 := (fun k hk => ((up2_o hV81 (by decide)).trans ((t51 k hk).trans ((ajV34 35 k rfl).trans ((up2_o hV21 (by decide)).trans rfl)))))
                have rw87 : RoV 37 bq V V81 := (fun k hk => ((up2_o hV81 (by decide)).trans ((t52 k hk).trans ((ajV34 37 k rfl).trans ((up2_o hV21 (by decide)).trans rfl)))))
                have rw88 : RoL 36 20 bq L L56 := (fun k hk => ((t53 k hk).trans rfl))
                have rw89 : RoL 38 20 bq L L56 := (fun k hk => ((t54 k hk).trans rfl))
                exact W.vret hx hb hr (fun t ht hW => ⟨⟨(V81, L56), rfl, ⟨hMV81, agV81, alL56, (Imp.mk (fun hp => have hp : (V81 0 8).toInt = 0 := hp; (show (V81 0 48).toInt - (V 0 48).toInt ≤ 2 * ((V81 0 7).toInt - (V 0 7).toInt) from by first | omega | ((try (have i_t46 := Imp.go t46 (by omega))); omega)))), (show (V81 0 48).toInt ≤ 8048 - 6 * (V 0 50).toInt from by first | omega | ((try (have i_t46 := Imp.go t46 (by omega))); omega)), (show (V81 0 50).toInt = (V 0 50).toInt from by first | omega | ((try (have i_t46 := Imp.go t46 (by omega))); omega)), (show (V 0 48).toInt ≤ (V81 0 48).toInt from by first | omega | ((try (have i_t46 := Imp.go t46 (by omega))); omega)), (Or.inr ⟨(show 1 ≤ (V81 0 8).toInt from by omega), (fun k => by rw [show (V81 0 8).toInt = (V55 0 8).toInt from by omega]; exact hb79 k)⟩), rw86, rw87, rw88, rw89⟩, by rw [ht]; exact hP, va_K.moved hW.alike hK, hD⟩, hS.F ht⟩) hS.2.2 dX12_part_82
          · skip
            have f90 : ((V 0 50)).toInt = 8 := b_eq rfl (by decide) c18
            refine lv_aload_n hx hb dX12_part_38 rfl (lv_at hl 0 rfl) ?_
            refine lv_iconst (v := 5) hx hb dX12_part_39 (by decide) ?_
            have r91 : Int32.toInt 5 = 5 := by decide
            refine gA_void (gA_runV (As := [.int 5]) (rest := []) (ci := 12) (q0 := 0) hx hb hml hown hg hP hD hK hS hA hnw hgk (s_wrongA l D ks H.size ad kk V L 5 (bq) (gn) (gT) (gs) (gl) hMV (by decide) rel) w2039 w2041 w86 w172 w2042 rfl rfl hdV_yX12_wrong ⟨(by show 0 + 1 ≤ 10 * dd + 10; omega), (by show 8 + (2 + 11) + (0) ≤ 300 * dd + 300; omega)⟩ rfl hl.1 rfl (Nat.le_of_ble_eq_true rfl) dX12_part_40 ⟨Nat.le_of_ble_eq_true rfl, Nat.le_of_ble_eq_true rfl⟩) hP hD hK hS hA (fun u93 H locs w94 hP hD hK hS => ?_)
            obtain ⟨V97, L98⟩ := u93
            obtain ⟨hMV97, ajV97, axL98, t95, t96⟩ := w94
            have axL98 : L = L98 := Eq.symm axL98
            subst axL98
            have hP : va_P D vwCl (mw ad kk ks.1 V97 L) H := hP
            have hD : va_D A (mw ad kk ks.1 V97 L) := hD
            have hMV97 : rgd bM V97 := hMV97
            have ajV97 : agr [(0, 8)] [] V V97 := ajV97
            have agV97 : agr [(0, 7), (0, 8), (0, 48), (0, 50)] [35, 36, 37, 38, 45, 46, 47] V V97 := agV.tr ajV97 (by decide) (by decide)
            have t95 : 1 ≤ (V97 0 8).toInt := t95
            have t96 : (V97 0 8).toInt = (Int32.toInt 5) + 16 * (gT).2.2 ((gs).1 0) := t96
            have r99 : 0 ≤ ((V97 0 8)).toInt ∧ ((V97 0 8)).toInt ≤ 70000 := hMV97 0 8
            have hr100 : ∀ k, Rc gT (Crun gs (Ipart gd :: k)) (Crun gs (Ipart gd :: k)) := fun k => Rc.rf
            have hb101 : ∀ k, Rc gT (Crun gs (Ipart gd :: k)) (Cbad (V97 0 8).toInt) := fun k => Rc.go1 (hr100 k) ((part_5 gd h12 (by omega)).trans (fl_eq rfl (show (V97 0 8).toInt = 5 + 16 * gT.2.2 (gs.1 0) from by omega)))
            refine lv_aload_n hx hb dX12_part_43 rfl (lv_at hl 0 rfl) ?_
            refine lv_dup hx hb dX12_part_44 rfl ?_
            refine va_get (D := D) (ci := 12) (v := .int (V97 0 50)) (C := RX12) (T := TX12) (N := 100) hx hb hg inX12 hown hK hP 0 rfl rfl 50 (by decide) (hg _ w1760) (fun _ h9 => h9) rfl dX12_part_45 ?_
            refine g_top (v := (V 0 50)) (ajV97 0 50 rfl) ?_
            refine lv_iconst (v := 1) hx hb dX12_part_48 (by decide) ?_
            refine lv_iadd hx hb dX12_part_49 ?_
            refine lv_topi (fun z102 ez102 => ?_)
            have hz102 : z102.toInt = ((V 0 50)).toInt + 1 := i_add ez102 rfl (by decide) (by omega)
            refine va_put (D := D) (ci := 12) (v := .int z102) (ty := tyX12 50) (C := RX12) (T := TX12) (N := 100) hx hb hg inX12 tyX12 tyX12_ok nmX12 hown hK hP hD hS 0 rfl rfl 50 (by decide) (hg _ w1760) (fun _ h9 => h9) rfl (tyX12_ok 50 (by decide)) rfl rfl (Nat.le_of_ble_eq_true rfl) dX12_part_50 (fun H locs hP hD hS => ?_)
            obtain ⟨V103, hV103⟩ : ∃ z, z = up2 V97 0 50 z102 := ⟨_, rfl⟩
            have hP : va_P D vwCl (mw ad kk ks.1 V103 L) H := by rw [hV103]; exact hP
            have hD : va_D A (mw ad kk ks.1 V103 L) := by rw [hV103]; exact hD
            have hMV103 : rgd bM V103 := hMV97.put hV103 (show 0 ≤ z102.toInt ∧ z102.toInt ≤ 9 from by omega)
            have agV103 : agr [(0, 7), (0, 8), (0, 48), (0, 50)] [35, 36, 37, 38, 45, 46, 47] V V103 := agV97.up hV103 rfl
            refine lv_aload_n hx hb dX12_part_53 rfl (lv_at hl 0 rfl) ?_
            refine va_get (D := D) (ci := 12) (v := .int (V103 0 8)) (C := RX12) (T := TX12) (N := 100) hx hb hg inX12 hown hK hP 0 rfl rfl 8 (by decide) (hg _ w1718) (fun _ h9 => h9) rfl dX12_part_54 ?_
            refine g_top (v := (V97 0 8)) (up2_k hV103 (by decide)) ?_
            refine lv_if_ne (tgt := 72) hx hb dX12_part_57 (by decide) (fun c104 => ?_) (fun c104 => ?_)
            · skip
              have f105 : ((V97 0 8)).toInt ≠ 0 := b_neq rfl (by decide) c104
              refine lv_aload_n hx hb dX12_part_72 rfl (lv_at hl 0 rfl) ?_
              refine lv_dup hx hb dX12_part_73 rfl ?_
              refine va_get (D := D) (ci := 12) (v := .int (V103 0 50)) (C := RX12) (T := TX12) (N := 100) hx hb hg inX12 hown hK hP 0 rfl rfl 50 (by decide) (hg _ w1760) (fun _ h9 => h9) rfl dX12_part_74 ?_
              refine g_top (v := z102) (up2_s hV103) ?_
              refine lv_iconst (v := 1) hx hb dX12_part_77 (by decide) ?_
              refine lv_isub hx hb dX12_part_78 ?_
              refine lv_topi (fun z106 ez106 => ?_)
              have hz106 : z106.toInt = z102.toInt - 1 := i_sub ez106 rfl (by decide) (by omega)
              refine va_put (D := D) (ci := 12) (v := .int z106) (ty := tyX12 50) (C := RX12) (T := TX12) (N := 100) hx hb hg inX12 tyX12 tyX12_ok nmX12 hown hK hP hD hS 0 rfl rfl 50 (by decide) (hg _ w1760) (fun _ h9 => h9) rfl (tyX12_ok 50 (by decide)) rfl rfl (Nat.le_of_ble_eq_true rfl) dX12_part_79 (fun H locs hP hD hS => ?_)
              obtain ⟨V107, hV107⟩ : ∃ z, z = up2 V103 0 50 z106 := ⟨_, rfl⟩
              have hP : va_P D vwCl (mw ad kk ks.1 V107 L) H := by rw [hV107]; exact hP
              have hD : va_D A (mw ad kk ks.1 V107 L) := by rw [hV107]; exact hD
              have hMV107 : rgd bM V107 := hMV103.put hV107 (show 0 ≤ z106.toInt ∧ z106.toInt ≤ 9 from by omega)
              have agV107 : agr [(0, 7), (0, 8), (0, 48), (0, 50)] [35, 36, 37, 38, 45, 46, 47] V V107 := agV103.up hV107 rfl
              have pq108 : (V107 0 7).toInt = ((V 0 7)).toInt := congrArg Int32.toInt ((up2_k hV107 (by decide)).trans ((up2_k hV103 (by decide)).trans (ajV97 0 7 rfl)))
              have pq109 : (V107 0 48).toInt = ((V 0 48)).toInt := congrArg Int32.toInt ((up2_k hV107 (by decide)).trans ((up2_k hV103 (by decide)).trans (ajV97 0 48 rfl)))
              have pq110 : (V107 0 8).toInt = ((V97 0 8)).toInt := congrArg Int32.toInt ((up2_k hV107 (by decide)).trans (up2_k hV103 (by decide)))
              have pq111 : (V107 0 50).toInt = z106.toInt := congrArg Int32.toInt (up2_s hV107)
              have rw112 : RoV 35 bq V V107 := (fun k hk => ((up2_o hV107 (by decide)).trans ((up2_o hV103 (by decide)).trans ((ajV97 35 k rfl).trans rfl))))
              have rw113 : RoV 37 bq V V107 := (fun k hk => ((up2_o hV107 (by decide)).trans ((up2_o hV103 (by decide)).trans ((ajV97 37 k rfl).trans rfl))))
              have rw114 : RoL 36 20 bq L L := (fun k hk => rfl)
              have rw115 : RoL 38 20 bq L L := (fun k hk => rfl)
              exact W.vret hx hb hr (fun t ht hW => ⟨⟨(V107, L), rfl, ⟨hMV107, agV107, alL, (Imp.mk (fun hp => have hp : (V107 0 8).toInt = 0 := hp; (show (V107 0 48).toInt - (V 0 48).toInt ≤ 2 * ((V107 0 7).toInt - (V 0 7).toInt) from by omega))), (show (V107 0 48).toInt ≤ 8048 - 6 * (V 0 50).toInt from by omega), (show (V107 0 50).toInt = (V 0 50).toInt from by omega), (show (V 0 48).toInt ≤ (V107 0 48).toInt from by omega), (Or.inr ⟨(show 1 ≤ (V107 0 8).toInt from by omega), (fun k => by rw [show (V107 0 8).toInt = (V97 0 8).toInt from by omega]; exact hb101 k)⟩), rw112, rw113, rw114, rw115⟩, by rw [ht]; exact hP, va_K.moved hW.alike hK, hD⟩, hS.F ht⟩) hS.2.2 dX12_part_82
            · skip
              have f116 : ((V97 0 8)).toInt = 0 := b_eq rfl (by decide) c104
              exfalso; omega
      · skip
        have f117 : z7.toInt = 0 := b_eq rfl (by decide) c13
        exfalso; omega
    · skip
      refine lv_if_ne (tgt := 22) hx hb dX12_part_11 (by decide) (fun c118 => ?_) (fun c118 => ?_)
      · skip
        have f119 : z7.toInt ≠ 0 := b_neq rfl (by decide) c118
        exfalso; omega
      · skip
        have f120 : z7.toInt = 0 := b_eq rfl (by decide) c118
        refine lv_aload_n hx hb dX12_part_14 rfl (lv_at hl 0 rfl) ?_
        refine lv_iconst (v := 1) hx hb dX12_part_15 (by decide) ?_
        have r121 : Int32.toInt 1 = 1 := by decide
        refine gA_void (gA_runV (As := [.int 1]) (rest := []) (ci := 12) (q0 := 0) hx hb hml hown hg hP hD hK hS hA hnw hgk (s_wrongA l D ks H.size ad kk V L 1 (bq) (gn) (gT) (gs) (gl) hMV (by decide) rel) w2039 w2041 w86 w172 w2042 rfl rfl hdV_yX12_wrong ⟨(by show 0 + 1 ≤ 10 * dd + 10; omega), (by show 8 + (2 + 11) + (0) ≤ 300 * dd + 300; omega)⟩ rfl hl.1 rfl (Nat.le_of_ble_eq_true rfl) dX12_part_16 ⟨Nat.le_of_ble_eq_true rfl, Nat.le_of_ble_eq_true rfl⟩) hP hD hK hS hA (fun u123 H locs w124 hP hD hK hS => ?_)
        obtain ⟨V127, L128⟩ := u123
        obtain ⟨hMV127, ajV127, axL128, t125, t126⟩ := w124
        have axL128 : L = L128 := Eq.symm axL128
        subst axL128
        have hP : va_P D vwCl (mw ad kk ks.1 V127 L) H := hP
        have hD : va_D A (mw ad kk ks.1 V127 L) := hD
        have hMV127 : rgd bM V127 := hMV127
        have ajV127 : agr [(0, 8)] [] V V127 := ajV127
        have agV127 : agr [(0, 7), (0, 8), (0, 48), (0, 50)] [35, 36, 37, 38, 45, 46, 47] V V127 := agV.tr ajV127 (by decide) (by decide)
        have t125 : 1 ≤ (V127 0 8).toInt := t125
        have t126 : (V127 0 8).toInt = (Int32.toInt 1) + 16 * (gT).2.2 ((gs).1 0) := t126
        have r129 : 0 ≤ ((V127 0 8)).toInt ∧ ((V127 0 8)).toInt ≤ 70000 := hMV127 0 8
        have hr130 : ∀ k, Rc gT (Crun gs (Ipart gd :: k)) (Crun gs (Ipart gd :: k)) := fun k => Rc.rf
        have hb131 : ∀ k, Rc gT (Crun gs (Ipart gd :: k)) (Cbad (V127 0 8).toInt) := fun k => Rc.go1 (hr130 k) ((part_1 gd h12).trans (fl_eq rfl (show (V127 0 8).toInt = 1 + 16 * gT.2.2 (gs.1 0) from by omega)))
        refine lv_goto (tgt := 43) hx hb dX12_part_19 (by decide) ?_
        refine lv_aload_n hx hb dX12_part_43 rfl (lv_at hl 0 rfl) ?_
        refine lv_dup hx hb dX12_part_44 rfl ?_
        refine va_get (D := D) (ci := 12) (v := .int (V127 0 50)) (C := RX12) (T := TX12) (N := 100) hx hb hg inX12 hown hK hP 0 rfl rfl 50 (by decide) (hg _ w1760) (fun _ h9 => h9) rfl dX12_part_45 ?_
        refine g_top (v := (V 0 50)) (ajV127 0 50 rfl) ?_
        refine lv_iconst (v := 1) hx hb dX12_part_48 (by decide) ?_
        refine lv_iadd hx hb dX12_part_49 ?_
        refine lv_topi (fun z132 ez132 => ?_)
        have hz132 : z132.toInt = ((V 0 50)).toInt + 1 := i_add ez132 rfl (by decide) (by omega)
        refine va_put (D := D) (ci := 12) (v := .int z132) (ty := tyX12 50) (C := RX12) (T := TX12) (N := 100) hx hb hg inX12 tyX12 tyX12_ok nmX12 hown hK hP hD hS 0 rfl rfl 50 (by decide) (hg _ w1760) (fun _ h9 => h9) rfl (tyX12_ok 50 (by decide)) rfl rfl (Nat.le_of_ble_eq_true rfl) dX12_part_50 (fun H locs hP hD hS => ?_)
        obtain ⟨V133, hV133⟩ : ∃ z, z = up2 V127 0 50 z132 := ⟨_, rfl⟩
        have hP : va_P D vwCl (mw ad kk ks.1 V133 L) H := by rw [hV133]; exact hP
        have hD : va_D A (mw ad kk ks.1 V133 L) := by rw [hV133]; exact hD
        have hMV133 : rgd bM V133 := hMV127.put hV133 (show 0 ≤ z132.toInt ∧ z132.toInt ≤ 9 from by omega)
        have agV133 : agr [(0, 7), (0, 8), (0, 48), (0, 50)] [35, 36, 37, 38, 45, 46, 47] V V133 := agV127.up hV133 rfl
        refine lv_aload_n hx hb dX12_part_53 rfl (lv_at hl 0 rfl) ?_
        refine va_get (D := D) (ci := 12) (v := .int (V133 0 8)) (C := RX12) (T := TX12) (N := 100) hx hb hg inX12 hown hK hP 0 rfl rfl 8 (by decide) (hg _ w1718) (fun _ h9 => h9) rfl dX12_part_54 ?_
        refine g_top (v := (V127 0 8)) (up2_k hV133 (by decide)) ?_
        refine lv_if_ne (tgt := 72) hx hb dX12_part_57 (by decide) (fun c134 => ?_) (fun c134 => ?_)
        · skip
          have f135 : ((V127 0 8)).toInt ≠ 0 := b_neq rfl (by decide) c134
          refine lv_aload_n hx hb dX12_part_72 rfl (lv_at hl 0 rfl) ?_
          refine lv_dup hx hb dX12_part_73 rfl ?_
          refine va_get (D := D) (ci := 12) (v := .int (V133 0 50)) (C := RX12) (T := TX12) (N := 100) hx hb hg inX12 hown hK hP 0 rfl rfl 50 (by decide) (hg _ w1760) (fun _ h9 => h9) rfl dX12_part_74 ?_
          refine g_top (v := z132) (up2_s hV133) ?_
          refine lv_iconst (v := 1) hx hb dX12_part_77 (by decide) ?_
          refine lv_isub hx hb dX12_part_78 ?_
          refine lv_topi (fun z136 ez136 => ?_)
          have hz136 : z136.toInt = z132.toInt - 1 := i_sub ez136 rfl (by decide) (by omega)
          refine va_put (D := D) (ci := 12) (v := .int z136) (ty := tyX12 50) (C := RX12) (T := TX12) (N := 100) hx hb hg inX12 tyX12 tyX12_ok nmX12 hown hK hP hD hS 0 rfl rfl 50 (by decide) (hg _ w1760) (fun _ h9 => h9) rfl (tyX12_ok 50 (by decide)) rfl rfl (Nat.le_of_ble_eq_true rfl) dX12_part_79 (fun H locs hP hD hS => ?_)
          obtain ⟨V137, hV137⟩ : ∃ z, z = up2 V133 0 50 z136 := ⟨_, rfl⟩
          have hP : va_P D vwCl (mw ad kk ks.1 V137 L) H := by rw [hV137]; exact hP
          have hD : va_D A (mw ad kk ks.1 V137 L) := by rw [hV137]; exact hD
          have hMV137 : rgd bM V137 := hMV133.put hV137 (show 0 ≤ z136.toInt ∧ z136.toInt ≤ 9 from by omega)
          have agV137 : agr [(0, 7), (0, 8), (0, 48), (0, 50)] [35, 36, 37, 38, 45, 46, 47] V V137 := agV133.up hV137 rfl
          have pq138 : (V137 0 7).toInt = ((V 0 7)).toInt := congrArg Int32.toInt ((up2_k hV137 (by decide)).trans ((up2_k hV133 (by decide)).trans (ajV127 0 7 rfl)))
          have pq139 : (V137 0 48).toInt = ((V 0 48)).toInt := congrArg Int32.toInt ((up2_k hV137 (by decide)).trans ((up2_k hV133 (by decide)).trans (ajV127 0 48 rfl)))
          have pq140 : (V137 0 8).toInt = ((V127 0 8)).toInt := congrArg Int32.toInt ((up2_k hV137 (by decide)).trans (up2_k hV133 (by decide)))
          have pq141 : (V137 0 50).toInt = z136.toInt := congrArg Int32.toInt (up2_s hV137)
          have rw142 : RoV 35 bq V V137 := (fun k hk => ((up2_o hV137 (by decide)).trans ((up2_o hV133 (by decide)).trans ((ajV127 35 k rfl).trans rfl))))
          have rw143 : RoV 37 bq V V137 := (fun k hk => ((up2_o hV137 (by decide)).trans ((up2_o hV133 (by decide)).trans ((ajV127 37 k rfl).trans rfl))))
          have rw144 : RoL 36 20 bq L L := (fun k hk => rfl)
          have rw145 : RoL 38 20 bq L L := (fun k hk => rfl)
          exact W.vret hx hb hr (fun t ht hW => ⟨⟨(V137, L), rfl, ⟨hMV137, agV137, alL, (Imp.mk (fun hp => have hp : (V137 0 8).toInt = 0 := hp; (show (V137 0 48).toInt - (V 0 48).toInt ≤ 2 * ((V137 0 7).toInt - (V 0 7).toInt) from by omega))), (show (V137 0 48).toInt ≤ 8048 - 6 * (V 0 50).toInt from by omega), (show (V137 0 50).toInt = (V 0 50).toInt from by omega), (show (V 0 48).toInt ≤ (V137 0 48).toInt from by omega), (Or.inr ⟨(show 1 ≤ (V137 0 8).toInt from by omega), (fun k => by rw [show (V137 0 8).toInt = (V127 0 8).toInt from by omega]; exact hb131 k)⟩), rw142, rw143, rw144, rw145⟩, by rw [ht]; exact hP, va_K.moved hW.alike hK, hD⟩, hS.F ht⟩) hS.2.2 dX12_part_82
        · skip
          have f146 : ((V127 0 8)).toInt = 0 := b_eq rfl (by decide) c134
          exfalso; omega
set_option maxHeartbeats 4000000 in
set_option maxRecDepth 100000 in
theorem s_partWithinA {l : Launch} {D : va_G} {ks : KS} {dd : Nat} (hk_s_expressionA : K_s_expressionA l D ks dd) (hk_s_partA : K_s_partA l D ks dd) (hk_s_bracketedA : K_s_bracketedA l D ks dd) (hk_s_pickA : K_s_pickA l D ks dd) : K_s_partWithinA l D ks dd := by
  intro sz ad kk V L  bq gn gT gs gl gd hMV rel c1 yd g8 bg c4 em
  refine g_met (q_s_partWithinA D ks ad kk V L  bq gn gT gs gl gd) (by decide) (Nat.le_of_ble_eq_true rfl) ?_
  intro p e s m below meth c A ls H locs hx hb hr hml hown hg hlocks hin hnw hgk hP hK hD hS hA hl
  have hown : s.vm.findClass RX12 = some m.cls := hown
  have hl : lv_has ls 4 [(0, .ref (ad 0))] := hl
  have hP : va_P D vwCl (mw ad kk ks.1 V L) H := hP
  have hD : va_D A (mw ad kk ks.1 V L) := hD
  have hK : va_K D vwCl (mty kk) s := hK
  have agV : agr [(0, 7), (0, 8), (0, 48), (0, 50)] [35, 36, 37, 38, 45, 46, 47] V V := agr.rf
  have alL : agL [35, 36, 37, 38, 45, 46, 47] L L := agL.rf
  have r1 : 0 ≤ ((V 0 48)).toInt ∧ ((V 0 48)).toInt ≤ 10000 := hMV 0 48
  have r2 : 0 ≤ ((V 0 50)).toInt ∧ ((V 0 50)).toInt ≤ 9 := hMV 0 50
  have rg0 := RelM.rg rel
  have cl0 := RelM.cl rel
  have cq0 := RelM.cq rel
  refine lv_aload_n hx hb dX12_partWithin_0 rfl (lv_at hl 0 rfl) ?_
  refine va_get (D := D) (ci := 12) (v := .ref (ad 4)) (C := RX12) (T := TX12) (N := 100) hx hb hg inX12 hown hK hP 0 rfl rfl 4 (by decide) (hg _ w1714) (fun _ h9 => h9) rfl dX12_partWithin_1 ?_
  refine lv_aload_n hx hb dX12_partWithin_4 rfl (lv_at hl 0 rfl) ?_
  refine va_get (D := D) (ci := 12) (v := .int (V 0 7)) (C := RX12) (T := TX12) (N := 100) hx hb hg inX12 hown hK hP 0 rfl rfl 7 (by decide) (hg _ w1717) (fun _ h9 => h9) rfl dX12_partWithin_5 ?_
  refine va_iald (D := D) (i := (V 0 7)) hx hb hK hP 2 1 rfl rfl (i_in (a := ((V 0 7)).toInt) rfl (by omega)) dX12_partWithin_8 ?_
  refine lv_iconst (v := 2) hx hb dX12_partWithin_9 (by decide) ?_
  refine lv_icmp_ne (tgt := 43) hx hb dX12_partWithin_10 (by decide) (fun c3 => ?_) (fun c3 => ?_)
  · skip
    have f4 : ((V 4 (Int32.toNatClampNeg (V 0 7)))).toInt ≠ 2 := b_neq rfl (by decide) c3
    have kd5 : gT.1 (gs.1 0) ≠ 2 := fun h9 => by have z := (RelM.nb rel).mpr h9; rw [← cl0] at z; omega
    refine lv_aload_n hx hb dX12_partWithin_43 rfl (lv_at hl 0 rfl) ?_
    refine lv_bipush (v := 40) hx hb dX12_partWithin_44 (by decide) ?_
    have r6 : Int32.toInt 40 = 40 := by decide
    refine gA_int (gA_runV (As := [.int 40]) (rest := []) (ci := 12) (q0 := 0) hx hb hml hown hg hP hD hK hS hA hnw hgk (s_hasSignA l D ks H.size ad kk V L 40 (bq) (gn) (gT) (gs) (gl) hMV rel (sg_yes (j := 40) (by decide) (by decide) (by decide))) w2071 w2073 w94 w172 w2074 rfl rfl hdV_yX12_hasSign ⟨(by show 1 + 1 ≤ 10 * dd + 15; omega), (by show 8 + (3 + 11) + (21) ≤ 300 * dd + 500; omega)⟩ rfl hl.1 rfl (Nat.le_of_ble_eq_true rfl) dX12_partWithin_46 ⟨Nat.le_of_ble_eq_true rfl, Nat.le_of_ble_eq_true rfl⟩) hP hD hK hS hA (fun z7 u8 H locs w9 hP hD hK hS => ?_)
    obtain ⟨V11, L12⟩ := u8
    obtain ⟨hMV11, ajV11, axL12, rgz7, t10⟩ := w9
    have axL12 : L = L12 := Eq.symm axL12
    subst axL12
    have hP : va_P D vwCl (mw ad kk ks.1 V11 L) H := hP
    have hD : va_D A (mw ad kk ks.1 V11 L) := hD
    have hMV11 : rgd bM V11 := hMV11
    have ajV11 : agr [(0, 7)] [] V V11 := ajV11
    have agV11 : agr [(0, 7), (0, 8), (0, 48), (0, 50)] [35, 36, 37, 38, 45, 46, 47] V V11 := agV.tr ajV11 (by decide) (by decide)
    have rgz7 : 0 ≤ z7.toInt ∧ z7.toInt ≤ 1 := rgz7
    have t10 : (z7.toInt = 1 ∧ (gT).1 ((gs).1 0) = (Int32.toInt 40) ∧ RelM V11 L (bq) (gn) (gT) (nx (gs) 1) (gl)) ∨ (z7.toInt = 0 ∧ (gT).1 ((gs).1 0) ≠ (Int32.toInt 40) ∧ RelM V11 L (bq) (gn) (gT) (gs) (gl)) := t10
    rcases t10 with ⟨q13, h14, rl15⟩ | ⟨q13, h14, rl15⟩
    · skip
      have kd16 : gT.1 (gs.1 0) = 40 := h14.trans (by decide)
      have ps17 : (nx gs 1).1 0 = gs.1 0 + 1 := rfl
      have fz18 := RelM.rg rl15
      have pq19 : (V11 0 8).toInt = ((V 0 8)).toInt := congrArg Int32.toInt (ajV11 0 8 rfl)
      have r20 : 0 ≤ ((V 0 8)).toInt ∧ ((V 0 8)).toInt ≤ 70000 := hMV 0 8
      refine lv_if_eq (tgt := 65) hx hb dX12_partWithin_49 (by decide) (fun c21 => ?_) (fun c21 => ?_)
      · skip
        have f22 : z7.toInt = 0 := b_eq rfl (by decide) c21
        exfalso; omega
      · skip
        have f23 : z7.toInt ≠ 0 := b_neq rfl (by decide) c21
        have hr24 : ∀ k, Rc gT (Crun gs (Ipart gd :: k)) (Crun gs (Ipart gd :: k)) := fun k => Rc.rf
        have hr25 : ∀ k, Rc gT (Crun gs (Ipart gd :: k)) (Crun (nx gs 1) (Iexpr (gd + 1) :: Itake 41 :: k)) := fun k => Rc.go1 (hr24 k) (pw_40 gd bg (by omega) kd16)
        refine lv_aload_n hx hb dX12_partWithin_52 rfl (lv_at hl 0 rfl) ?_
        have pq26 : (V11 0 48).toInt = ((V 0 48)).toInt := congrArg Int32.toInt (ajV11 0 48 rfl)
        have pq27 : (V11 0 50).toInt = ((V 0 50)).toInt := congrArg Int32.toInt (ajV11 0 50 rfl)
        refine gA_void (gA_runV (As := []) (rest := []) (ci := 12) (q0 := 0) hx hb hml hown hg hP hD hK hS hA hnw hgk (hk_s_expressionA H.size ad kk V11 L (bq) (gn) (gT) ((nx gs 1)) (gl) ((gd + 1)) hMV11 rl15 (show (V11 0 48).toInt ≤ 2 * (V11 0 7).toInt from by omega) (show (V11 0 50).toInt = (((gd + 1)) : Int) from by omega) (show (V11 0 50).toInt + (dd : Int) = 8 from by omega) (EM.mv em (ajV11 0 51 rfl) (ajV11 0 52 rfl) (by rw [(funext (fun q => ajV11 27 q rfl) : V11 27 = V 27)] : V11 27 = V 27) ((keepS.tr (keepS.rf : keepS gs 0 gs) (keepS.n1 1))).2.1)) w2120 w2122 w106 w172 w2123 rfl rfl hdV_yX12_expression ⟨(by show 10 * dd + 13 + 1 ≤ 10 * dd + 15; omega), (by show 8 + (3 + 11) + (300 * dd + 420) ≤ 300 * dd + 500; omega)⟩ rfl hl.1 rfl (Nat.le_of_ble_eq_true rfl) dX12_partWithin_53 ⟨Nat.le_of_ble_eq_true rfl, Nat.le_of_ble_eq_true rfl⟩) hP hD hK hS hA (fun u29 H locs w30 hP hD hK hS => ?_)
        obtain ⟨V40, L41⟩ := u29
        obtain ⟨hMV40, ajV40, axL41, t31, t32, t33, t34, t35, t36, t37, t38, t39⟩ := w30
        have alL41 : agL [35, 36, 37, 38, 45, 46, 47] L L41 := agL.tr alL axL41 (by decide)
        have hP : va_P D vwCl (mw ad kk ks.1 V40 L41) H := hP
        have hD : va_D A (mw ad kk ks.1 V40 L41) := hD
        have hMV40 : rgd bM V40 := hMV40
        have ajV40 : agr [(0, 7), (0, 8), (0, 48), (0, 50)] [35, 36, 37, 38, 45, 46, 47] V11 V40 := ajV40
        have agV40 : agr [(0, 7), (0, 8), (0, 48), (0, 50)] [35, 36, 37, 38, 45, 46, 47] V V40 := agV11.tr ajV40 (by decide) (by decide)
        have t31 : Imp ((V40 0 8).toInt = 0) ((V40 0 48).toInt - (V11 0 48).toInt ≤ 2 * ((V40 0 7).toInt - (V11 0 7).toInt)) := t31
        have t32 : (V40 0 48).toInt ≤ 8051 - 6 * (V11 0 50).toInt := t32
        have t33 : (V40 0 50).toInt = (V11 0 50).toInt := t33
        have t34 : (V11 0 48).toInt ≤ (V40 0 48).toInt := t34
        have t35 : RdM (gT) ((nx gs 1)) (fun k => Iexpr ((gd + 1)) :: k) (fun k => k) (V40 0 8).toInt (fun s9 => RelM V40 L41 (bq) (gn) (gT) s9 (gl) ∧ keepS ((nx gs 1)) 1 s9) := t35
        have t36 : RoV 35 (bq) V11 V40 := t36
        have t37 : RoV 37 (bq) V11 V40 := t37
        have t38 : RoL 36 20 (bq) L L41 := t38
        have t39 : RoL 38 20 (bq) L L41 := t39
        have r42 : 0 ≤ ((V40 0 48)).toInt ∧ ((V40 0 48)).toInt ≤ 10000 := hMV40 0 48
        have r43 : 0 ≤ ((V40 0 8)).toInt ∧ ((V40 0 8)).toInt ≤ 70000 := hMV40 0 8
        have r44 : 0 ≤ ((V40 0 50)).toInt ∧ ((V40 0 50)).toInt ≤ 9 := hMV40 0 50
        rcases t35 with ⟨q45, sx46, h47, rl48, kp49⟩ | ⟨q45, h47⟩
        · skip
          have hr50 : ∀ k, Rc gT (Crun gs (Ipart gd :: k)) (Crun sx46 (Itake 41 :: k)) := fun k => (hr25 k).tr (h47 (Itake 41 :: k))
          have fz51 := RelM.rg rl48
          have ps52 := (kp49).1
          refine lv_aload_n hx hb dX12_partWithin_56 rfl (lv_at hl 0 rfl) ?_
          refine lv_bipush (v := 41) hx hb dX12_partWithin_57 (by decide) ?_
          have r53 : Int32.toInt 41 = 41 := by decide
          refine gA_void (gA_runV (As := [.int 41]) (rest := []) (ci := 12) (q0 := 0) hx hb hml hown hg hP hD hK hS hA hnw hgk (s_takeSignA l D ks H.size ad kk V40 L41 41 (bq) (gn) (gT) (sx46) (gl) hMV40 rl48 (sg_yes (j := 41) (by decide) (by decide) (by decide))) w2079 w2081 w96 w172 w2082 rfl rfl hdV_yX12_takeSign ⟨(by show 1 + 1 ≤ 10 * dd + 15; omega), (by show 8 + (2 + 11) + (21) ≤ 300 * dd + 500; omega)⟩ rfl hl.1 rfl (Nat.le_of_ble_eq_true rfl) dX12_partWithin_59 ⟨Nat.le_of_ble_eq_true rfl, Nat.le_of_ble_eq_true rfl⟩) hP hD hK hS hA (fun u55 H locs w56 hP hD hK hS => ?_)
          obtain ⟨V58, L59⟩ := u55
          obtain ⟨hMV58, ajV58, axL59, t57⟩ := w56
          have axL59 : L41 = L59 := Eq.symm axL59
          subst axL59
          have hP : va_P D vwCl (mw ad kk ks.1 V58 L41) H := hP
          have hD : va_D A (mw ad kk ks.1 V58 L41) := hD
          have hMV58 : rgd bM V58 := hMV58
          have ajV58 : agr [(0, 7), (0, 8)] [] V40 V58 := ajV58
          have agV58 : agr [(0, 7), (0, 8), (0, 48), (0, 50)] [35, 36, 37, 38, 45, 46, 47] V V58 := agV40.tr ajV58 (by decide) (by decide)
          have t57 : ((V58 0 8).toInt = 0 ∧ (gT).1 ((sx46).1 0) = (Int32.toInt 41) ∧ RelM V58 L41 (bq) (gn) (gT) (nx (sx46) 1) (gl)) ∨ (1 ≤ (V58 0 8).toInt ∧ (gT).1 ((sx46).1 0) ≠ (Int32.toInt 41) ∧ (V58 0 8).toInt = 1 + 16 * (gT).2.2 ((sx46).1 0)) := t57
          rcases t57 with ⟨q60, h61, rl62⟩ | ⟨q60, h61, rl62⟩
          · skip
            have kd63 : gT.1 (sx46.1 0) = 41 := h61.trans (by decide)
            have hr64 : ∀ k, Rc gT (Crun gs (Ipart gd :: k)) (Crun (nx sx46 1) (k)) := fun k => Rc.go1 (hr50 k) (tk_y kd63)
            have ps65 : (nx sx46 1).1 0 = sx46.1 0 + 1 := rfl
            have fz66 := RelM.rg rl62
            have r67 : 0 ≤ ((V58 0 8)).toInt ∧ ((V58 0 8)).toInt ≤ 70000 := hMV58 0 8
            refine lv_goto (tgt := 275) hx hb dX12_partWithin_62 (by decide) ?_
            have pq68 : (V58 0 48).toInt = ((V40 0 48)).toInt := congrArg Int32.toInt (ajV58 0 48 rfl)
            have pq69 : (V58 0 50).toInt = ((V40 0 50)).toInt := congrArg Int32.toInt (ajV58 0 50 rfl)
            have rw70 : RoV 35 bq V V58 := (fun k hk => ((ajV58 35 k rfl).trans ((t36 k hk).trans ((ajV11 35 k rfl).trans rfl))))
            have rw71 : RoV 37 bq V V58 := (fun k hk => ((ajV58 37 k rfl).trans ((t37 k hk).trans ((ajV11 37 k rfl).trans rfl))))
            have rw72 : RoL 36 20 bq L L41 := (fun k hk => ((t38 k hk).trans rfl))
            have rw73 : RoL 38 20 bq L L41 := (fun k hk => ((t39 k hk).trans rfl))
            exact W.vret hx hb hr (fun t ht hW => ⟨⟨(V58, L41), rfl, ⟨hMV58, agV58, alL41, (Imp.mk (fun hp => have hp : (V58 0 8).toInt = 0 := hp; (show (V58 0 48).toInt - (V 0 48).toInt + 1 ≤ 2 * ((V58 0 7).toInt - (V 0 7).toInt) from by first | omega | ((try (have i_t31 := Imp.go t31 (by omega))); omega)))), (show (V58 0 48).toInt ≤ 8054 - 6 * (V 0 50).toInt from by first | omega | ((try (have i_t31 := Imp.go t31 (by omega))); omega)), (show (V58 0 50).toInt = (V 0 50).toInt from by first | omega | ((try (have i_t31 := Imp.go t31 (by omega))); omega)), (show (V 0 48).toInt ≤ (V58 0 48).toInt from by first | omega | ((try (have i_t31 := Imp.go t31 (by omega))); omega)), (Or.inl ⟨W0 rl62, (nx sx46 1), hr64, rl62, keepS.le (keepS.tr (keepS.tr (keepS.tr (keepS.rf : keepS gs 0 gs) (keepS.n1 1)) kp49) (keepS.n1 1)) (by decide)⟩), rw70, rw71, rw72, rw73⟩, by rw [ht]; exact hP, va_K.moved hW.alike hK, hD⟩, hS.F ht⟩) hS.2.2 dX12_partWithin_275
          · skip
            have kd74 : gT.1 (sx46.1 0) ≠ 41 := fun h9 => h61 (h9.trans (by decide))
            have hb75 : ∀ k, Rc gT (Crun gs (Ipart gd :: k)) (Cbad (V58 0 8).toInt) := fun k => Rc.go1 (hr50 k) ((tk_n kd74).trans (fl_eq rfl rl62))
            have r76 : 0 ≤ ((V58 0 8)).toInt ∧ ((V58 0 8)).toInt ≤ 70000 := hMV58 0 8
            refine lv_goto (tgt := 275) hx hb dX12_partWithin_62 (by decide) ?_
            have pq77 : (V58 0 48).toInt = ((V40 0 48)).toInt := congrArg Int32.toInt (ajV58 0 48 rfl)
            have pq78 : (V58 0 50).toInt = ((V40 0 50)).toInt := congrArg Int32.toInt (ajV58 0 50 rfl)
            have rw79 : RoV 35 bq V V58 := (fun k hk => ((ajV58 35 k rfl).trans ((t36 k hk).trans ((ajV11 35 k rfl).trans rfl))))
            have rw80 : RoV 37 bq V V58 := (fun k hk => ((ajV58 37 k rfl).trans ((t37 k hk).trans ((ajV11 37 k rfl).trans rfl))))
            have rw81 : RoL 36 20 bq L L41 := (fun k hk => ((t38 k hk).trans rfl))
            have rw82 : RoL 38 20 bq L L41 := (fun k hk => ((t39 k hk).trans rfl))
            exact W.vret hx hb hr (fun t ht hW => ⟨⟨(V58, L41), rfl, ⟨hMV58, agV58, alL41, (Imp.mk (fun hp => have hp : (V58 0 8).toInt = 0 := hp; (show (V58 0 48).toInt - (V 0 48).toInt + 1 ≤ 2 * ((V58 0 7).toInt - (V 0 7).toInt) from by first | omega | ((try (have i_t31 := Imp.go t31 (by omega))); omega)))), (show (V58 0 48).toInt ≤ 8054 - 6 * (V 0 50).toInt from by first | omega | ((try (have i_t31 := Imp.go t31 (by omega))); omega)), (show (V58 0 50).toInt = (V 0 50).toInt from by first | omega | ((try (have i_t31 := Imp.go t31 (by omega))); omega)), (show (V 0 48).toInt ≤ (V58 0 48).toInt from by first | omega | ((try (have i_t31 := Imp.go t31 (by omega))); omega)), (Or.inr ⟨(show 1 ≤ (V58 0 8).toInt from by omega), hb75⟩), rw79, rw80, rw81, rw82⟩, by rw [ht]; exact hP, va_K.moved hW.alike hK, hD⟩, hS.F ht⟩) hS.2.2 dX12_partWithin_275
        · skip
          have hb83 : ∀ k, Rc gT (Crun gs (Ipart gd :: k)) (Cbad (V40 0 8).toInt) := fun k => (hr25 k).tr (h47 (Itake 41 :: k))
          refine lv_aload_n hx hb dX12_partWithin_56 rfl (lv_at hl 0 rfl) ?_
          refine lv_bipush (v := 41) hx hb dX12_partWithin_57 (by decide) ?_
          have r84 : Int32.toInt 41 = 41 := by decide
          refine gA_void (gA_runV (As := [.int 41]) (rest := []) (ci := 12) (q0 := 0) hx hb hml hown hg hP hD hK hS hA hnw hgk (s_takeSignB l D ks H.size ad kk V40 L41 41 hMV40 (show 1 ≤ (V40 0 8).toInt from by first | omega | ((try (have i_t31 := Imp.go t31 (by omega))); omega))) w2079 w2081 w96 w172 w2082 rfl rfl hdV_yX12_takeSign ⟨(by show 1 + 1 ≤ 10 * dd + 15; omega), (by show 8 + (2 + 11) + (21) ≤ 300 * dd + 500; omega)⟩ rfl hl.1 rfl (Nat.le_of_ble_eq_true rfl) dX12_partWithin_59 ⟨Nat.le_of_ble_eq_true rfl, Nat.le_of_ble_eq_true rfl⟩) hP hD hK hS hA (fun u86 H locs w87 hP hD hK hS => ?_)
          obtain ⟨V89, L90⟩ := u86
          obtain ⟨hMV89, ajV89, axL90, t88⟩ := w87
          have axL90 : L41 = L90 := Eq.symm axL90
          subst axL90
          have hP : va_P D vwCl (mw ad kk ks.1 V89 L41) H := hP
          have hD : va_D A (mw ad kk ks.1 V89 L41) := hD
          have hMV89 : rgd bM V89 := hMV89
          have ajV89 : agr [(0, 7), (0, 8)] [] V40 V89 := ajV89
          have agV89 : agr [(0, 7), (0, 8), (0, 48), (0, 50)] [35, 36, 37, 38, 45, 46, 47] V V89 := agV40.tr ajV89 (by decide) (by decide)
          have t88 : (V89 0 8).toInt = (V40 0 8).toInt := t88
          have r91 : 0 ≤ ((V89 0 8)).toInt ∧ ((V89 0 8)).toInt ≤ 70000 := hMV89 0 8
          refine lv_goto (tgt := 275) hx hb dX12_partWithin_62 (by decide) ?_
          have pq92 : (V89 0 48).toInt = ((V40 0 48)).toInt := congrArg Int32.toInt (ajV89 0 48 rfl)
          have pq93 : (V89 0 50).toInt = ((V40 0 50)).toInt := congrArg Int32.toInt (ajV89 0 50 rfl)
          have rw94 : RoV 35 bq V V89 := (fun k hk => ((ajV89 35 k rfl).trans ((t36 k hk).trans ((ajV11 35 k rfl).trans rfl))))
          have rw95 : RoV 37 bq V V89 := (fun k hk => ((ajV89 37 k rfl).trans ((t37 k hk).trans ((ajV11 37 k rfl).trans rfl))))
          have rw96 : RoL 36 20 bq L L41 := (fun k hk => ((t38 k hk).trans rfl))
          have rw97 : RoL 38 20 bq L L41 := (fun k hk => ((t39 k hk).trans rfl))
          exact W.vret hx hb hr (fun t ht hW => ⟨⟨(V89, L41), rfl, ⟨hMV89, agV89, alL41, (Imp.mk (fun hp => have hp : (V89 0 8).toInt = 0 := hp; (show (V89 0 48).toInt - (V 0 48).toInt + 1 ≤ 2 * ((V89 0 7).toInt - (V 0 7).toInt) from by first | omega | ((try (have i_t31 := Imp.go t31 (by omega))); omega)))), (show (V89 0 48).toInt ≤ 8054 - 6 * (V 0 50).toInt from by first | omega | ((try (have i_t31 := Imp.go t31 (by omega))); omega)), (show (V89 0 50).toInt = (V 0 50).toInt from by first | omega | ((try (have i_t31 := Imp.go t31 (by omega))); omega)), (show (V 0 48).toInt ≤ (V89 0 48).toInt from by first | omega | ((try (have i_t31 := Imp.go t31 (by omega))); omega)), (Or.inr ⟨(show 1 ≤ (V89 0 8).toInt from by omega), (fun k => by rw [show (V89 0 8).toInt = (V40 0 8).toInt from by omega]; exact hb83 k)⟩), rw94, rw95, rw96, rw97⟩, by rw [ht]; exact hP, va_K.moved hW.alike hK, hD⟩, hS.F ht⟩) hS.2.2 dX12_partWithin_275
    · skip
      have kd98 : gT.1 (gs.1 0) ≠ 40 := fun h9 => h14 (h9.trans (by decide))
      have fz99 := RelM.rg rl15
      have pq100 : (V11 0 8).toInt = ((V 0 8)).toInt := congrArg Int32.toInt (ajV11 0 8 rfl)
      have r101 : 0 ≤ ((V 0 8)).toInt ∧ ((V 0 8)).toInt ≤ 70000 := hMV 0 8
      refine lv_if_eq (tgt := 65) hx hb dX12_partWithin_49 (by decide) (fun c102 => ?_) (fun c102 => ?_)
      · skip
        have f103 : z7.toInt = 0 := b_eq rfl (by decide) c102
        refine lv_aload_n hx hb dX12_partWithin_65 rfl (lv_at hl 0 rfl) ?_
        refine lv_bipush (v := 45) hx hb dX12_partWithin_66 (by decide) ?_
        have r104 : Int32.toInt 45 = 45 := by decide
        refine gA_int (gA_runV (As := [.int 45]) (rest := []) (ci := 12) (q0 := 0) hx hb hml hown hg hP hD hK hS hA hnw hgk (s_hasSignA l D ks H.size ad kk V11 L 45 (bq) (gn) (gT) (gs) (gl) hMV11 rl15 (sg_yes (j := 45) (by decide) (by decide) (by decide))) w2071 w2073 w94 w172 w2074 rfl rfl hdV_yX12_hasSign ⟨(by show 1 + 1 ≤ 10 * dd + 15; omega), (by show 8 + (3 + 11) + (21) ≤ 300 * dd + 500; omega)⟩ rfl hl.1 rfl (Nat.le_of_ble_eq_true rfl) dX12_partWithin_68 ⟨Nat.le_of_ble_eq_true rfl, Nat.le_of_ble_eq_true rfl⟩) hP hD hK hS hA (fun z105 u106 H locs w107 hP hD hK hS => ?_)
        obtain ⟨V109, L110⟩ := u106
        obtain ⟨hMV109, ajV109, axL110, rgz105, t108⟩ := w107
        have axL110 : L = L110 := Eq.symm axL110
        subst axL110
        have hP : va_P D vwCl (mw ad kk ks.1 V109 L) H := hP
        have hD : va_D A (mw ad kk ks.1 V109 L) := hD
        have hMV109 : rgd bM V109 := hMV109
        have ajV109 : agr [(0, 7)] [] V11 V109 := ajV109
        have agV109 : agr [(0, 7), (0, 8), (0, 48), (0, 50)] [35, 36, 37, 38, 45, 46, 47] V V109 := agV11.tr ajV109 (by decide) (by decide)
        have rgz105 : 0 ≤ z105.toInt ∧ z105.toInt ≤ 1 := rgz105
        have t108 : (z105.toInt = 1 ∧ (gT).1 ((gs).1 0) = (Int32.toInt 45) ∧ RelM V109 L (bq) (gn) (gT) (nx (gs) 1) (gl)) ∨ (z105.toInt = 0 ∧ (gT).1 ((gs).1 0) ≠ (Int32.toInt 45) ∧ RelM V109 L (bq) (gn) (gT) (gs) (gl)) := t108
        rcases t108 with ⟨q111, h112, rl113⟩ | ⟨q111, h112, rl113⟩
        · skip
          have kd114 : gT.1 (gs.1 0) = 45 := h112.trans (by decide)
          have ps115 : (nx gs 1).1 0 = gs.1 0 + 1 := rfl
          have fz116 := RelM.rg rl113
          have pq117 : (V109 0 8).toInt = ((V 0 8)).toInt := congrArg Int32.toInt ((ajV109 0 8 rfl).trans (ajV11 0 8 rfl))
          refine lv_if_eq (tgt := 89) hx hb dX12_partWithin_71 (by decide) (fun c118 => ?_) (fun c118 => ?_)
          · skip
            have f119 : z105.toInt = 0 := b_eq rfl (by decide) c118
            exfalso; omega
          · skip
            have f120 : z105.toInt ≠ 0 := b_neq rfl (by decide) c118
            have hr121 : ∀ k, Rc gT (Crun gs (Ipart gd :: k)) (Crun gs (Ipart gd :: k)) := fun k => Rc.rf
            have hr122 : ∀ k, Rc gT (Crun gs (Ipart gd :: k)) (Crun (nx gs 1) (Ipart (gd + 1) :: k)) := fun k => Rc.go1 (hr121 k) (pw_45 gd bg (by omega) kd114)
            refine lv_aload_n hx hb dX12_partWithin_74 rfl (lv_at hl 0 rfl) ?_
            have pq123 : (V109 0 48).toInt = ((V 0 48)).toInt := congrArg Int32.toInt ((ajV109 0 48 rfl).trans (ajV11 0 48 rfl))
            have pq124 : (V109 0 50).toInt = ((V 0 50)).toInt := congrArg Int32.toInt ((ajV109 0 50 rfl).trans (ajV11 0 50 rfl))
            refine gA_void (gA_runV (As := []) (rest := []) (ci := 12) (q0 := 0) hx hb hml hown hg hP hD hK hS hA hnw hgk (hk_s_partA H.size ad kk V109 L (bq) (gn) (gT) ((nx gs 1)) (gl) ((gd + 1)) hMV109 rl113 (show (V109 0 48).toInt ≤ 2 * (V109 0 7).toInt from by omega) (show (V109 0 50).toInt = (((gd + 1)) : Int) from by omega) (show (V109 0 50).toInt + (dd : Int) = 8 from by omega) (EM.mv em ((ajV109 0 51 rfl).trans (ajV11 0 51 rfl)) ((ajV109 0 52 rfl).trans (ajV11 0 52 rfl)) (by rw [(funext (fun q => ajV109 27 q rfl) : V109 27 = V11 27), (funext (fun q => ajV11 27 q rfl) : V11 27 = V 27)] : V109 27 = V 27) ((keepS.tr (keepS.rf : keepS gs 0 gs) (keepS.n1 1))).2.1)) w2132 w2134 w109 w172 w2135 rfl rfl hdV_yX12_part ⟨(by show 10 * dd + 10 + 1 ≤ 10 * dd + 15; omega), (by show 8 + (2 + 11) + (300 * dd + 300) ≤ 300 * dd + 500; omega)⟩ rfl hl.1 rfl (Nat.le_of_ble_eq_true rfl) dX12_partWithin_75 ⟨Nat.le_of_ble_eq_true rfl, Nat.le_of_ble_eq_true rfl⟩) hP hD hK hS hA (fun u126 H locs w127 hP hD hK hS => ?_)
            obtain ⟨V137, L138⟩ := u126
            obtain ⟨hMV137, ajV137, axL138, t128, t129, t130, t131, t132, t133, t134, t135, t136⟩ := w127
            have alL138 : agL [35, 36, 37, 38, 45, 46, 47] L L138 := agL.tr alL axL138 (by decide)
            have hP : va_P D vwCl (mw ad kk ks.1 V137 L138) H := hP
            have hD : va_D A (mw ad kk ks.1 V137 L138) := hD
            have hMV137 : rgd bM V137 := hMV137
            have ajV137 : agr [(0, 7), (0, 8), (0, 48), (0, 50)] [35, 36, 37, 38, 45, 46, 47] V109 V137 := ajV137
            have agV137 : agr [(0, 7), (0, 8), (0, 48), (0, 50)] [35, 36, 37, 38, 45, 46, 47] V V137 := agV109.tr ajV137 (by decide) (by decide)
            have t128 : Imp ((V137 0 8).toInt = 0) ((V137 0 48).toInt - (V109 0 48).toInt ≤ 2 * ((V137 0 7).toInt - (V109 0 7).toInt)) := t128
            have t129 : (V137 0 48).toInt ≤ 8048 - 6 * (V109 0 50).toInt := t129
            have t130 : (V137 0 50).toInt = (V109 0 50).toInt := t130
            have t131 : (V109 0 48).toInt ≤ (V137 0 48).toInt := t131
            have t132 : RdM (gT) ((nx gs 1)) (fun k => Ipart ((gd + 1)) :: k) (fun k => k) (V137 0 8).toInt (fun s9 => RelM V137 L138 (bq) (gn) (gT) s9 (gl) ∧ keepS ((nx gs 1)) 1 s9) := t132
            have t133 : RoV 35 (bq) V109 V137 := t133
            have t134 : RoV 37 (bq) V109 V137 := t134
            have t135 : RoL 36 20 (bq) L L138 := t135
            have t136 : RoL 38 20 (bq) L L138 := t136
            have r139 : 0 ≤ ((V137 0 48)).toInt ∧ ((V137 0 48)).toInt ≤ 10000 := hMV137 0 48
            have r140 : 0 ≤ ((V137 0 8)).toInt ∧ ((V137 0 8)).toInt ≤ 70000 := hMV137 0 8
            have r141 : 0 ≤ ((V137 0 50)).toInt ∧ ((V137 0 50)).toInt ≤ 9 := hMV137 0 50
            rcases t132 with ⟨q142, sx143, h144, rl145, kp146⟩ | ⟨q142, h144⟩
            · skip
              have hr147 : ∀ k, Rc gT (Crun gs (Ipart gd :: k)) (Crun sx143 (k)) := fun k => (hr122 k).tr (h144 (k))
              have fz148 := RelM.rg rl145
              have ps149 := (kp146).1
              refine lv_aload_n hx hb dX12_partWithin_78 rfl (lv_at hl 0 rfl) ?_
              refine lv_iconst (v := 4) hx hb dX12_partWithin_79 (by decide) ?_
              refine lv_iconst (v := 0) hx hb dX12_partWithin_80 (by decide) ?_
              refine lv_iconst (v := 0) hx hb dX12_partWithin_81 (by decide) ?_
              have r150 : Int32.toInt 4 = 4 := by decide
              have r151 : Int32.toInt 0 = 0 := by decide
              refine gA_int (gA_runV (As := [.int 4, .int 0, .int 0]) (rest := []) (ci := 12) (q0 := 0) hx hb hml hown hg hP hD hK hS hA hnw hgk (s_emit3 l D ks H.size ad kk V137 L138 4 0 0 hMV137 (show (V137 0 48).toInt ≤ 9999 from by first | omega | ((try (have i_t128 := Imp.go t128 (by omega))); omega))) w2140 w2142 w111 w172 w2143 rfl rfl hdV_yX12_emit ⟨(by show 0 + 1 ≤ 10 * dd + 15; omega), (by show 8 + (4 + 11) + (0) ≤ 300 * dd + 500; omega)⟩ rfl hl.1 rfl (Nat.le_of_ble_eq_true rfl) dX12_partWithin_82 ⟨Nat.le_of_ble_eq_true rfl, Nat.le_of_ble_eq_true rfl⟩) hP hD hK hS hA (fun z152 u153 H locs w154 hP hD hK hS => ?_)
              obtain ⟨V158, L159⟩ := u153
              obtain ⟨hMV158, ajV158, axL159, rgz152, t155, t156, t157⟩ := w154
              have axL159 : L138 = L159 := Eq.symm axL159
              subst axL159
              have hP : va_P D vwCl (mw ad kk ks.1 V158 L138) H := hP
              have hD : va_D A (mw ad kk ks.1 V158 L138) := hD
              have hMV158 : rgd bM V158 := hMV158
              have ajV158 : agr [(0, 48)] [45, 46, 47] V137 V158 := ajV158
              have agV158 : agr [(0, 7), (0, 8), (0, 48), (0, 50)] [35, 36, 37, 38, 45, 46, 47] V V158 := agV137.tr ajV158 (by decide) (by decide)
              have rgz152 : 0 ≤ z152.toInt ∧ z152.toInt ≤ 20000 := rgz152
              have t155 : (V158 0 48).toInt = (V137 0 48).toInt + 1 := t155
              have t156 : z152.toInt = (V137 0 49).toInt + (V137 0 48).toInt := t156
              have t157 : emitted V137 V158 (pA V137) 4 0 0 := t157
              have r160 : 0 ≤ ((V158 0 48)).toInt ∧ ((V158 0 48)).toInt ≤ 10000 := hMV158 0 48
              have pq161 : (V137 0 49).toInt = ((V 0 49)).toInt := congrArg Int32.toInt ((ajV137 0 49 rfl).trans ((ajV109 0 49 rfl).trans (ajV11 0 49 rfl)))
              have r162 : 0 ≤ ((V 0 49)).toInt ∧ ((V 0 49)).toInt ≤ 10000 := hMV 0 49
              refine lv_istore_n (lv' := [(1, .int z152), (0, .ref (ad 0))]) hx hb dX12_partWithin_85 rfl hl (by decide) rfl (fun ls hl => ?_)
              refine lv_goto (tgt := 275) hx hb dX12_partWithin_86 (by decide) ?_
              have pq163 : (V158 0 7).toInt = ((V137 0 7)).toInt := congrArg Int32.toInt (ajV158 0 7 rfl)
              have pq164 : (V158 0 8).toInt = ((V137 0 8)).toInt := congrArg Int32.toInt (ajV158 0 8 rfl)
              have pq165 : (V158 0 50).toInt = ((V137 0 50)).toInt := congrArg Int32.toInt (ajV158 0 50 rfl)
              have rl166 : RelM V158 L138 bq gn gT sx143 gl := RelM.ag rl145 (show agr [(0, 48)] [45, 46, 47] V137 V158 from (agr.tr agr.rf ajV158 (by decide) (by decide))) (by decide) (show agL [] L138 L138 from agL.rf) (by decide)
              have rw167 : RoV 35 bq V V158 := (fun k hk => ((ajV158 35 k rfl).trans ((t133 k hk).trans ((ajV109 35 k rfl).trans ((ajV11 35 k rfl).trans rfl)))))
              have rw168 : RoV 37 bq V V158 := (fun k hk => ((ajV158 37 k rfl).trans ((t134 k hk).trans ((ajV109 37 k rfl).trans ((ajV11 37 k rfl).trans rfl)))))
              have rw169 : RoL 36 20 bq L L138 := (fun k hk => ((t135 k hk).trans rfl))
              have rw170 : RoL 38 20 bq L L138 := (fun k hk => ((t136 k hk).trans rfl))
              exact W.vret hx hb hr (fun t ht hW => ⟨⟨(V158, L138), rfl, ⟨hMV158, agV158, alL138, (Imp.mk (fun hp => have hp : (V158 0 8).toInt = 0 := hp; (show (V158 0 48).toInt - (V 0 48).toInt + 1 ≤ 2 * ((V158 0 7).toInt - (V 0 7).toInt) from by first | omega | ((try (have i_t128 := Imp.go t128 (by omega))); omega)))), (show (V158 0 48).toInt ≤ 8054 - 6 * (V 0 50).toInt from by first | omega | ((try (have i_t128 := Imp.go t128 (by omega))); omega)), (show (V158 0 50).toInt = (V 0 50).toInt from by first | omega | ((try (have i_t128 := Imp.go t128 (by omega))); omega)), (show (V 0 48).toInt ≤ (V158 0 48).toInt from by first | omega | ((try (have i_t128 := Imp.go t128 (by omega))); omega)), (Or.inl ⟨W0 rl166, sx143, hr147, rl166, keepS.le (keepS.tr (keepS.tr (keepS.rf : keepS gs 0 gs) (keepS.n1 1)) kp146) (by decide)⟩), rw167, rw168, rw169, rw170⟩, by rw [ht]; exact hP, va_K.moved hW.alike hK, hD⟩, hS.F ht⟩) hS.2.2 dX12_partWithin_275
            · skip
              have hb171 : ∀ k, Rc gT (Crun gs (Ipart gd :: k)) (Cbad (V137 0 8).toInt) := fun k => (hr122 k).tr (h144 (k))
              refine lv_aload_n hx hb dX12_partWithin_78 rfl (lv_at hl 0 rfl) ?_
              refine lv_iconst (v := 4) hx hb dX12_partWithin_79 (by decide) ?_
              refine lv_iconst (v := 0) hx hb dX12_partWithin_80 (by decide) ?_
              refine lv_iconst (v := 0) hx hb dX12_partWithin_81 (by decide) ?_
              have r172 : Int32.toInt 4 = 4 := by decide
              have r173 : Int32.toInt 0 = 0 := by decide
              refine gA_int (gA_runV (As := [.int 4, .int 0, .int 0]) (rest := []) (ci := 12) (q0 := 0) hx hb hml hown hg hP hD hK hS hA hnw hgk (s_emit3 l D ks H.size ad kk V137 L138 4 0 0 hMV137 (show (V137 0 48).toInt ≤ 9999 from by first | omega | ((try (have i_t128 := Imp.go t128 (by omega))); omega))) w2140 w2142 w111 w172 w2143 rfl rfl hdV_yX12_emit ⟨(by show 0 + 1 ≤ 10 * dd + 15; omega), (by show 8 + (4 + 11) + (0) ≤ 300 * dd + 500; omega)⟩ rfl hl.1 rfl (Nat.le_of_ble_eq_true rfl) dX12_partWithin_82 ⟨Nat.le_of_ble_eq_true rfl, Nat.le_of_ble_eq_true rfl⟩) hP hD hK hS hA (fun z174 u175 H locs w176 hP hD hK hS => ?_)
              obtain ⟨V180, L181⟩ := u175
              obtain ⟨hMV180, ajV180, axL181, rgz174, t177, t178, t179⟩ := w176
              have axL181 : L138 = L181 := Eq.symm axL181
              subst axL181
              have hP : va_P D vwCl (mw ad kk ks.1 V180 L138) H := hP
              have hD : va_D A (mw ad kk ks.1 V180 L138) := hD
              have hMV180 : rgd bM V180 := hMV180
              have ajV180 : agr [(0, 48)] [45, 46, 47] V137 V180 := ajV180
              have agV180 : agr [(0, 7), (0, 8), (0, 48), (0, 50)] [35, 36, 37, 38, 45, 46, 47] V V180 := agV137.tr ajV180 (by decide) (by decide)
              have rgz174 : 0 ≤ z174.toInt ∧ z174.toInt ≤ 20000 := rgz174
              have t177 : (V180 0 48).toInt = (V137 0 48).toInt + 1 := t177
              have t178 : z174.toInt = (V137 0 49).toInt + (V137 0 48).toInt := t178
              have t179 : emitted V137 V180 (pA V137) 4 0 0 := t179
              have r182 : 0 ≤ ((V180 0 48)).toInt ∧ ((V180 0 48)).toInt ≤ 10000 := hMV180 0 48
              have pq183 : (V137 0 49).toInt = ((V 0 49)).toInt := congrArg Int32.toInt ((ajV137 0 49 rfl).trans ((ajV109 0 49 rfl).trans (ajV11 0 49 rfl)))
              have r184 : 0 ≤ ((V 0 49)).toInt ∧ ((V 0 49)).toInt ≤ 10000 := hMV 0 49
              refine lv_istore_n (lv' := [(1, .int z174), (0, .ref (ad 0))]) hx hb dX12_partWithin_85 rfl hl (by decide) rfl (fun ls hl => ?_)
              refine lv_goto (tgt := 275) hx hb dX12_partWithin_86 (by decide) ?_
              have pq185 : (V180 0 7).toInt = ((V137 0 7)).toInt := congrArg Int32.toInt (ajV180 0 7 rfl)
              have pq186 : (V180 0 8).toInt = ((V137 0 8)).toInt := congrArg Int32.toInt (ajV180 0 8 rfl)
              have pq187 : (V180 0 50).toInt = ((V137 0 50)).toInt := congrArg Int32.toInt (ajV180 0 50 rfl)
              have rw188 : RoV 35 bq V V180 := (fun k hk => ((ajV180 35 k rfl).trans ((t133 k hk).trans ((ajV109 35 k rfl).trans ((ajV11 35 k rfl).trans rfl)))))
              have rw189 : RoV 37 bq V V180 := (fun k hk => ((ajV180 37 k rfl).trans ((t134 k hk).trans ((ajV109 37 k rfl).trans ((ajV11 37 k rfl).trans rfl)))))
              have rw190 : RoL 36 20 bq L L138 := (fun k hk => ((t135 k hk).trans rfl))
              have rw191 : RoL 38 20 bq L L138 := (fun k hk => ((t136 k hk).trans rfl))
              exact W.vret hx hb hr (fun t ht hW => ⟨⟨(V180, L138), rfl, ⟨hMV180, agV180, alL138, (Imp.mk (fun hp => have hp : (V180 0 8).toInt = 0 := hp; (show (V180 0 48).toInt - (V 0 48).toInt + 1 ≤ 2 * ((V180 0 7).toInt - (V 0 7).toInt) from by first | omega | ((try (have i_t128 := Imp.go t128 (by omega))); omega)))), (show (V180 0 48).toInt ≤ 8054 - 6 * (V 0 50).toInt from by first | omega | ((try (have i_t128 := Imp.go t128 (by omega))); omega)), (show (V180 0 50).toInt = (V 0 50).toInt from by first | omega | ((try (have i_t128 := Imp.go t128 (by omega))); omega)), (show (V 0 48).toInt ≤ (V180 0 48).toInt from by first | omega | ((try (have i_t128 := Imp.go t128 (by omega))); omega)), (Or.inr ⟨(show 1 ≤ (V180 0 8).toInt from by omega), (fun k => by rw [show (V180 0 8).toInt = (V137 0 8).toInt from by omega]; exact hb171 k)⟩), rw188, rw189, rw190, rw191⟩, by rw [ht]; exact hP, va_K.moved hW.alike hK, hD⟩, hS.F ht⟩) hS.2.2 dX12_partWithin_275
        · skip
          have kd192 : gT.1 (gs.1 0) ≠ 45 := fun h9 => h112 (h9.trans (by decide))
          have fz193 := RelM.rg rl113
          have pq194 : (V109 0 8).toInt = ((V 0 8)).toInt := congrArg Int32.toInt ((ajV109 0 8 rfl).trans (ajV11 0 8 rfl))
          refine lv_if_eq (tgt := 89) hx hb dX12_partWithin_71 (by decide) (fun c195 => ?_) (fun c195 => ?_)
          · skip
            have f196 : z105.toInt = 0 := b_eq rfl (by decide) c195
            refine lv_aload_n hx hb dX12_partWithin_89 rfl (lv_at hl 0 rfl) ?_
            refine lv_bipush (v := 15) hx hb dX12_partWithin_90 (by decide) ?_
            have r197 : Int32.toInt 15 = 15 := by decide
            refine gA_int (gA_runV (As := [.int 15]) (rest := []) (ci := 12) (q0 := 0) hx hb hml hown hg hP hD hK hS hA hnw hgk (s_hasWordA l D ks H.size ad kk V109 L 15 (bq) (gn) (gT) (gs) (gl) hMV109 (by decide) rl113) w2055 w2057 w90 w172 w2058 rfl rfl hdV_yX12_hasWord ⟨(by show 1 + 1 ≤ 10 * dd + 15; omega), (by show 8 + (3 + 11) + (21) ≤ 300 * dd + 500; omega)⟩ rfl hl.1 rfl (Nat.le_of_ble_eq_true rfl) dX12_partWithin_92 ⟨Nat.le_of_ble_eq_true rfl, Nat.le_of_ble_eq_true rfl⟩) hP hD hK hS hA (fun z198 u199 H locs w200 hP hD hK hS => ?_)
            obtain ⟨V202, L203⟩ := u199
            obtain ⟨hMV202, ajV202, axL203, rgz198, t201⟩ := w200
            have axL203 : L = L203 := Eq.symm axL203
            subst axL203
            have hP : va_P D vwCl (mw ad kk ks.1 V202 L) H := hP
            have hD : va_D A (mw ad kk ks.1 V202 L) := hD
            have hMV202 : rgd bM V202 := hMV202
            have ajV202 : agr [(0, 7)] [] V109 V202 := ajV202
            have agV202 : agr [(0, 7), (0, 8), (0, 48), (0, 50)] [35, 36, 37, 38, 45, 46, 47] V V202 := agV109.tr ajV202 (by decide) (by decide)
            have rgz198 : 0 ≤ z198.toInt ∧ z198.toInt ≤ 1 := rgz198
            have t201 : (z198.toInt = 1 ∧ (gT).1 ((gs).1 0) = 128 + (Int32.toInt 15) ∧ RelM V202 L (bq) (gn) (gT) (nx (gs) 1) (gl)) ∨ (z198.toInt = 0 ∧ (gT).1 ((gs).1 0) ≠ 128 + (Int32.toInt 15) ∧ RelM V202 L (bq) (gn) (gT) (gs) (gl)) := t201
            rcases t201 with ⟨q204, h205, rl206⟩ | ⟨q204, h205, rl206⟩
            · skip
              have kd207 : gT.1 (gs.1 0) = 143 := h205.trans (by decide)
              have ps208 : (nx gs 1).1 0 = gs.1 0 + 1 := rfl
              have fz209 := RelM.rg rl206
              have pq210 : (V202 0 8).toInt = ((V 0 8)).toInt := congrArg Int32.toInt ((ajV202 0 8 rfl).trans ((ajV109 0 8 rfl).trans (ajV11 0 8 rfl)))
              refine lv_if_eq (tgt := 109) hx hb dX12_partWithin_95 (by decide) (fun c211 => ?_) (fun c211 => ?_)
              · skip
                have f212 : z198.toInt = 0 := b_eq rfl (by decide) c211
                exfalso; omega
              · skip
                have f213 : z198.toInt ≠ 0 := b_neq rfl (by decide) c211
                have hr214 : ∀ k, Rc gT (Crun gs (Ipart gd :: k)) (Crun gs (Ipart gd :: k)) := fun k => Rc.rf
                have hr215 : ∀ k, Rc gT (Crun gs (Ipart gd :: k)) (Crun (nx gs 1) (k)) := fun k => Rc.go1 (hr214 k) (pw_143 gd bg (by omega) kd207)
                refine lv_aload_n hx hb dX12_partWithin_98 rfl (lv_at hl 0 rfl) ?_
                refine lv_iconst (v := 3) hx hb dX12_partWithin_99 (by decide) ?_
                refine lv_iconst (v := 0) hx hb dX12_partWithin_100 (by decide) ?_
                refine lv_iconst (v := 0) hx hb dX12_partWithin_101 (by decide) ?_
                have r216 : Int32.toInt 3 = 3 := by decide
                have r217 : Int32.toInt 0 = 0 := by decide
                have pq218 : (V202 0 48).toInt = ((V 0 48)).toInt := congrArg Int32.toInt ((ajV202 0 48 rfl).trans ((ajV109 0 48 rfl).trans (ajV11 0 48 rfl)))
                refine gA_int (gA_runV (As := [.int 3, .int 0, .int 0]) (rest := []) (ci := 12) (q0 := 0) hx hb hml hown hg hP hD hK hS hA hnw hgk (s_emit3 l D ks H.size ad kk V202 L 3 0 0 hMV202 (show (V202 0 48).toInt ≤ 9999 from by omega)) w2140 w2142 w111 w172 w2143 rfl rfl hdV_yX12_emit ⟨(by show 0 + 1 ≤ 10 * dd + 15; omega), (by show 8 + (4 + 11) + (0) ≤ 300 * dd + 500; omega)⟩ rfl hl.1 rfl (Nat.le_of_ble_eq_true rfl) dX12_partWithin_102 ⟨Nat.le_of_ble_eq_true rfl, Nat.le_of_ble_eq_true rfl⟩) hP hD hK hS hA (fun z219 u220 H locs w221 hP hD hK hS => ?_)
                obtain ⟨V225, L226⟩ := u220
                obtain ⟨hMV225, ajV225, axL226, rgz219, t222, t223, t224⟩ := w221
                have axL226 : L = L226 := Eq.symm axL226
                subst axL226
                have hP : va_P D vwCl (mw ad kk ks.1 V225 L) H := hP
                have hD : va_D A (mw ad kk ks.1 V225 L) := hD
                have hMV225 : rgd bM V225 := hMV225
                have ajV225 : agr [(0, 48)] [45, 46, 47] V202 V225 := ajV225
                have agV225 : agr [(0, 7), (0, 8), (0, 48), (0, 50)] [35, 36, 37, 38, 45, 46, 47] V V225 := agV202.tr ajV225 (by decide) (by decide)
                have rgz219 : 0 ≤ z219.toInt ∧ z219.toInt ≤ 20000 := rgz219
                have t222 : (V225 0 48).toInt = (V202 0 48).toInt + 1 := t222
                have t223 : z219.toInt = (V202 0 49).toInt + (V202 0 48).toInt := t223
                have t224 : emitted V202 V225 (pA V202) 3 0 0 := t224
                have r227 : 0 ≤ ((V225 0 48)).toInt ∧ ((V225 0 48)).toInt ≤ 10000 := hMV225 0 48
                have pq228 : (V202 0 49).toInt = ((V 0 49)).toInt := congrArg Int32.toInt ((ajV202 0 49 rfl).trans ((ajV109 0 49 rfl).trans (ajV11 0 49 rfl)))
                have r229 : 0 ≤ ((V 0 49)).toInt ∧ ((V 0 49)).toInt ≤ 10000 := hMV 0 49
                refine lv_istore_n (lv' := [(1, .int z219), (0, .ref (ad 0))]) hx hb dX12_partWithin_105 rfl hl (by decide) rfl (fun ls hl => ?_)
                refine lv_goto (tgt := 275) hx hb dX12_partWithin_106 (by decide) ?_
                have pq230 : (V225 0 7).toInt = ((V202 0 7)).toInt := congrArg Int32.toInt (ajV225 0 7 rfl)
                have pq231 : (V225 0 8).toInt = ((V 0 8)).toInt := congrArg Int32.toInt ((ajV225 0 8 rfl).trans ((ajV202 0 8 rfl).trans ((ajV109 0 8 rfl).trans (ajV11 0 8 rfl))))
                have pq232 : (V225 0 50).toInt = ((V 0 50)).toInt := congrArg Int32.toInt ((ajV225 0 50 rfl).trans ((ajV202 0 50 rfl).trans ((ajV109 0 50 rfl).trans (ajV11 0 50 rfl))))
                have rl233 : RelM V225 L bq gn gT (nx gs 1) gl := RelM.ag rl206 (show agr [(0, 48)] [45, 46, 47] V202 V225 from (agr.tr agr.rf ajV225 (by decide) (by decide))) (by decide) (show agL [] L L from agL.rf) (by decide)
                have rw234 : RoV 35 bq V V225 := (fun k hk => ((ajV225 35 k rfl).trans ((ajV202 35 k rfl).trans ((ajV109 35 k rfl).trans ((ajV11 35 k rfl).trans rfl)))))
                have rw235 : RoV 37 bq V V225 := (fun k hk => ((ajV225 37 k rfl).trans ((ajV202 37 k rfl).trans ((ajV109 37 k rfl).trans ((ajV11 37 k rfl).trans rfl)))))
                have rw236 : RoL 36 20 bq L L := (fun k hk => rfl)
                have rw237 : RoL 38 20 bq L L := (fun k hk => rfl)
                exact W.vret hx hb hr (fun t ht hW => ⟨⟨(V225, L), rfl, ⟨hMV225, agV225, alL, (Imp.mk (fun hp => have hp : (V225 0 8).toInt = 0 := hp; (show (V225 0 48).toInt - (V 0 48).toInt + 1 ≤ 2 * ((V225 0 7).toInt - (V 0 7).toInt) from by omega))), (show (V225 0 48).toInt ≤ 8054 - 6 * (V 0 50).toInt from by omega), (show (V225 0 50).toInt = (V 0 50).toInt from by omega), (show (V 0 48).toInt ≤ (V225 0 48).toInt from by omega), (Or.inl ⟨W0 rl233, (nx gs 1), hr215, rl233, keepS.le (keepS.tr (keepS.rf : keepS gs 0 gs) (keepS.n1 1)) (by decide)⟩), rw234, rw235, rw236, rw237⟩, by rw [ht]; exact hP, va_K.moved hW.alike hK, hD⟩, hS.F ht⟩) hS.2.2 dX12_partWithin_275
            · skip
              have kd238 : gT.1 (gs.1 0) ≠ 143 := fun h9 => h205 (h9.trans (by decide))
              have fz239 := RelM.rg rl206
              have pq240 : (V202 0 8).toInt = ((V 0 8)).toInt := congrArg Int32.toInt ((ajV202 0 8 rfl).trans ((ajV109 0 8 rfl).trans (ajV11 0 8 rfl)))
              refine lv_if_eq (tgt := 109) hx hb dX12_partWithin_95 (by decide) (fun c241 => ?_) (fun c241 => ?_)
              · skip
                have f242 : z198.toInt = 0 := b_eq rfl (by decide) c241
                refine lv_aload_n hx hb dX12_partWithin_109 rfl (lv_at hl 0 rfl) ?_
                refine lv_bipush (v := 16) hx hb dX12_partWithin_110 (by decide) ?_
                have r243 : Int32.toInt 16 = 16 := by decide
                refine gA_int (gA_runV (As := [.int 16]) (rest := []) (ci := 12) (q0 := 0) hx hb hml hown hg hP hD hK hS hA hnw hgk (s_hasWordA l D ks H.size ad kk V202 L 16 (bq) (gn) (gT) (gs) (gl) hMV202 (by decide) rl206) w2055 w2057 w90 w172 w2058 rfl rfl hdV_yX12_hasWord ⟨(by show 1 + 1 ≤ 10 * dd + 15; omega), (by show 8 + (3 + 11) + (21) ≤ 300 * dd + 500; omega)⟩ rfl hl.1 rfl (Nat.le_of_ble_eq_true rfl) dX12_partWithin_112 ⟨Nat.le_of_ble_eq_true rfl, Nat.le_of_ble_eq_true rfl⟩) hP hD hK hS hA (fun z244 u245 H locs w246 hP hD hK hS => ?_)
                obtain ⟨V248, L249⟩ := u245
                obtain ⟨hMV248, ajV248, axL249, rgz244, t247⟩ := w246
                have axL249 : L = L249 := Eq.symm axL249
                subst axL249
                have hP : va_P D vwCl (mw ad kk ks.1 V248 L) H := hP
                have hD : va_D A (mw ad kk ks.1 V248 L) := hD
                have hMV248 : rgd bM V248 := hMV248
                have ajV248 : agr [(0, 7)] [] V202 V248 := ajV248
                have agV248 : agr [(0, 7), (0, 8), (0, 48), (0, 50)] [35, 36, 37, 38, 45, 46, 47] V V248 := agV202.tr ajV248 (by decide) (by decide)
                have rgz244 : 0 ≤ z244.toInt ∧ z244.toInt ≤ 1 := rgz244
                have t247 : (z244.toInt = 1 ∧ (gT).1 ((gs).1 0) = 128 + (Int32.toInt 16) ∧ RelM V248 L (bq) (gn) (gT) (nx (gs) 1) (gl)) ∨ (z244.toInt = 0 ∧ (gT).1 ((gs).1 0) ≠ 128 + (Int32.toInt 16) ∧ RelM V248 L (bq) (gn) (gT) (gs) (gl)) := t247
                rcases t247 with ⟨q250, h251, rl252⟩ | ⟨q250, h251, rl252⟩
                · skip
                  have kd253 : gT.1 (gs.1 0) = 144 := h251.trans (by decide)
                  have ps254 : (nx gs 1).1 0 = gs.1 0 + 1 := rfl
                  have fz255 := RelM.rg rl252
                  have pq256 : (V248 0 8).toInt = ((V 0 8)).toInt := congrArg Int32.toInt ((ajV248 0 8 rfl).trans ((ajV202 0 8 rfl).trans ((ajV109 0 8 rfl).trans (ajV11 0 8 rfl))))
                  refine lv_if_eq (tgt := 136) hx hb dX12_partWithin_115 (by decide) (fun c257 => ?_) (fun c257 => ?_)
                  · skip
                    have f258 : z244.toInt = 0 := b_eq rfl (by decide) c257
                    exfalso; omega
                  · skip
                    have f259 : z244.toInt ≠ 0 := b_neq rfl (by decide) c257
                    have hr260 : ∀ k, Rc gT (Crun gs (Ipart gd :: k)) (Crun gs (Ipart gd :: k)) := fun k => Rc.rf
                    have hr261 : ∀ k, Rc gT (Crun gs (Ipart gd :: k)) (Crun (nx gs 1) (Inum 1 9 :: k)) := fun k => Rc.go1 (hr260 k) (pw_144 gd bg (by omega) kd253)
                    refine lv_aload_n hx hb dX12_partWithin_118 rfl (lv_at hl 0 rfl) ?_
                    refine lv_bipush (v := 10) hx hb dX12_partWithin_119 (by decide) ?_
                    refine lv_aload_n hx hb dX12_partWithin_121 rfl (lv_at hl 0 rfl) ?_
                    refine lv_iconst (v := 1) hx hb dX12_partWithin_122 (by decide) ?_
                    refine lv_bipush (v := 9) hx hb dX12_partWithin_123 (by decide) ?_
                    have r262 : Int32.toInt 1 = 1 := by decide
                    have r263 : Int32.toInt 9 = 9 := by decide
                    refine gA_int (gA_runV (As := [.int 1, .int 9]) (rest := [.int 10, .ref (ad 0)]) (ci := 12) (q0 := 0) hx hb hml hown hg hP hD hK hS hA hnw hgk (s_takeNumberA l D ks H.size ad kk V248 L 1 9 (bq) (gn) (gT) ((nx gs 1)) (gl) hMV248 rl252 (show -1 ≤ (Int32.toInt 9) ∧ (Int32.toInt 9) ≤ 999999999 from by omega) (show 0 ≤ (Int32.toInt 1) from by omega)) w2088 w2090 w98 w172 w2091 rfl rfl hdV_yX12_takeNumber ⟨(by show 1 + 1 ≤ 10 * dd + 15; omega), (by show 8 + (3 + 11) + (21) ≤ 300 * dd + 500; omega)⟩ rfl hl.1 rfl (Nat.le_of_ble_eq_true rfl) dX12_partWithin_125 ⟨Nat.le_of_ble_eq_true rfl, Nat.le_of_ble_eq_true rfl⟩) hP hD hK hS hA (fun z264 u265 H locs w266 hP hD hK hS => ?_)
                    obtain ⟨V271, L272⟩ := u265
                    obtain ⟨hMV271, ajV271, axL272, t267, t268, t269, t270⟩ := w266
                    have axL272 : L = L272 := Eq.symm axL272
                    subst axL272
                    have hP : va_P D vwCl (mw ad kk ks.1 V271 L) H := hP
                    have hD : va_D A (mw ad kk ks.1 V271 L) := hD
                    have hMV271 : rgd bM V271 := hMV271
                    have ajV271 : agr [(0, 7), (0, 8)] [] V248 V271 := ajV271
                    have agV271 : agr [(0, 7), (0, 8), (0, 48), (0, 50)] [35, 36, 37, 38, 45, 46, 47] V V271 := agV248.tr ajV271 (by decide) (by decide)
                    have t267 : ((V271 0 8).toInt = 0 ∧ (gT).1 (((nx gs 1)).1 0) = 2 ∧ (Int32.toInt 1) ≤ ((gT).2.1 (((nx gs 1)).1 0)).toInt ∧ ((gT).2.1 (((nx gs 1)).1 0)).toInt ≤ (Int32.toInt 9) ∧ RelM V271 L (bq) (gn) (gT) (nx ((nx gs 1)) 1) (gl)) ∨ (1 ≤ (V271 0 8).toInt ∧ (((gT).1 (((nx gs 1)).1 0) ≠ 2 ∧ (V271 0 8).toInt = 1 + 16 * (gT).2.2 (((nx gs 1)).1 0)) ∨ ((gT).1 (((nx gs 1)).1 0) = 2 ∧ (((gT).2.1 (((nx gs 1)).1 0)).toInt < (Int32.toInt 1) ∨ (Int32.toInt 9) < ((gT).2.1 (((nx gs 1)).1 0)).toInt) ∧ (V271 0 8).toInt = 4 + 16 * (gT).2.2 (((nx gs 1)).1 0)))) := t267
                    have t268 : Imp ((V271 0 8).toInt = 0) ((Int32.toInt 1) ≤ z264.toInt ∧ z264.toInt ≤ (Int32.toInt 9)) := t268
                    have t269 : Imp (1 ≤ (V271 0 8).toInt) (z264.toInt = 0) := t269
                    have t270 : Imp ((V271 0 8).toInt = 0) (z264.toInt = ((gT).2.1 (((nx gs 1)).1 0)).toInt) := t270
                    have r273 : 0 ≤ ((V271 0 8)).toInt ∧ ((V271 0 8)).toInt ≤ 70000 := hMV271 0 8
                    rcases t267 with ⟨q274, h275, h276, h277, rl278⟩ | ⟨q274, ⟨h275, rl278⟩ | ⟨h275, h276, rl278⟩⟩
                    · skip
                      have hr279 : ∀ k, Rc gT (Crun gs (Ipart gd :: k)) (Crun (nx (nx gs 1) 1) (k)) := fun k => Rc.go1 (hr261 k) (nm_y h275 (by omega) (by omega))
                      have nw280 := Imp.go t270 q274
                      have ps281 : (nx (nx gs 1) 1).1 0 = (nx gs 1).1 0 + 1 := rfl
                      have fz282 := RelM.rg rl278
                      have nr283 := Imp.go t268 q274
                      refine lv_iconst (v := 0) hx hb dX12_partWithin_128 (by decide) ?_
                      have r284 : Int32.toInt 10 = 10 := by decide
                      have r285 : Int32.toInt 0 = 0 := by decide
                      have pq286 : (V271 0 48).toInt = ((V 0 48)).toInt := congrArg Int32.toInt ((ajV271 0 48 rfl).trans ((ajV248 0 48 rfl).trans ((ajV202 0 48 rfl).trans ((ajV109 0 48 rfl).trans (ajV11 0 48 rfl)))))
                      refine gA_int (gA_runV (As := [.int 10, .int z264, .int 0]) (rest := []) (ci := 12) (q0 := 0) hx hb hml hown hg hP hD hK hS hA hnw hgk (s_emit3 l D ks H.size ad kk V271 L 10 z264 0 hMV271 (show (V271 0 48).toInt ≤ 9999 from by first | omega | ((try (have i_t269 := Imp.go t269 (by omega))); (try (have i_t268 := Imp.go t268 (by omega))); (try (have i_t268 := Imp.go t268 (by omega))); (try (have i_t269 := Imp.go t269 (by omega))); omega))) w2140 w2142 w111 w172 w2143 rfl rfl hdV_yX12_emit ⟨(by show 0 + 1 ≤ 10 * dd + 15; omega), (by show 8 + (4 + 11) + (0) ≤ 300 * dd + 500; omega)⟩ rfl hl.1 rfl (Nat.le_of_ble_eq_true rfl) dX12_partWithin_129 ⟨Nat.le_of_ble_eq_true rfl, Nat.le_of_ble_eq_true rfl⟩) hP hD hK hS hA (fun z287 u288 H locs w289 hP hD hK hS => ?_)
                      obtain ⟨V293, L294⟩ := u288
                      obtain ⟨hMV293, ajV293, axL294, rgz287, t290, t291, t292⟩ := w289
                      have axL294 : L = L294 := Eq.symm axL294
                      subst axL294
                      have hP : va_P D vwCl (mw ad kk ks.1 V293 L) H := hP
                      have hD : va_D A (mw ad kk ks.1 V293 L) := hD
                      have hMV293 : rgd bM V293 := hMV293
                      have ajV293 : agr [(0, 48)] [45, 46, 47] V271 V293 := ajV293
                      have agV293 : agr [(0, 7), (0, 8), (0, 48), (0, 50)] [35, 36, 37, 38, 45, 46, 47] V V293 := agV271.tr ajV293 (by decide) (by decide)
                      have rgz287 : 0 ≤ z287.toInt ∧ z287.toInt ≤ 20000 := rgz287
                      have t290 : (V293 0 48).toInt = (V271 0 48).toInt + 1 := t290
                      have t291 : z287.toInt = (V271 0 49).toInt + (V271 0 48).toInt := t291
                      have t292 : emitted V271 V293 (pA V271) 10 z264 0 := t292
                      have r295 : 0 ≤ ((V293 0 48)).toInt ∧ ((V293 0 48)).toInt ≤ 10000 := hMV293 0 48
                      have pq296 : (V271 0 49).toInt = ((V 0 49)).toInt := congrArg Int32.toInt ((ajV271 0 49 rfl).trans ((ajV248 0 49 rfl).trans ((ajV202 0 49 rfl).trans ((ajV109 0 49 rfl).trans (ajV11 0 49 rfl)))))
                      have r297 : 0 ≤ ((V 0 49)).toInt ∧ ((V 0 49)).toInt ≤ 10000 := hMV 0 49
                      refine lv_istore_n (lv' := [(1, .int z287), (0, .ref (ad 0))]) hx hb dX12_partWithin_132 rfl hl (by decide) rfl (fun ls hl => ?_)
                      refine lv_goto (tgt := 275) hx hb dX12_partWithin_133 (by decide) ?_
                      have pq298 : (V293 0 7).toInt = ((V271 0 7)).toInt := congrArg Int32.toInt (ajV293 0 7 rfl)
                      have pq299 : (V293 0 8).toInt = ((V271 0 8)).toInt := congrArg Int32.toInt (ajV293 0 8 rfl)
                      have pq300 : (V293 0 50).toInt = ((V 0 50)).toInt := congrArg Int32.toInt ((ajV293 0 50 rfl).trans ((ajV271 0 50 rfl).trans ((ajV248 0 50 rfl).trans ((ajV202 0 50 rfl).trans ((ajV109 0 50 rfl).trans (ajV11 0 50 rfl))))))
                      have rl301 : RelM V293 L bq gn gT (nx (nx gs 1) 1) gl := RelM.ag rl278 (show agr [(0, 48)] [45, 46, 47] V271 V293 from (agr.tr agr.rf ajV293 (by decide) (by decide))) (by decide) (show agL [] L L from agL.rf) (by decide)
                      have rw302 : RoV 35 bq V V293 := (fun k hk => ((ajV293 35 k rfl).trans ((ajV271 35 k rfl).trans ((ajV248 35 k rfl).trans ((ajV202 35 k rfl).trans ((ajV109 35 k rfl).trans ((ajV11 35 k rfl).trans rfl)))))))
                      have rw303 : RoV 37 bq V V293 := (fun k hk => ((ajV293 37 k rfl).trans ((ajV271 37 k rfl).trans ((ajV248 37 k rfl).trans ((ajV202 37 k rfl).trans ((ajV109 37 k rfl).trans ((ajV11 37 k rfl).trans rfl)))))))
                      have rw304 : RoL 36 20 bq L L := (fun k hk => rfl)
                      have rw305 : RoL 38 20 bq L L := (fun k hk => rfl)
                      exact W.vret hx hb hr (fun t ht hW => ⟨⟨(V293, L), rfl, ⟨hMV293, agV293, alL, (Imp.mk (fun hp => have hp : (V293 0 8).toInt = 0 := hp; (show (V293 0 48).toInt - (V 0 48).toInt + 1 ≤ 2 * ((V293 0 7).toInt - (V 0 7).toInt) from by first | omega | ((try (have i_t269 := Imp.go t269 (by omega))); (try (have i_t268 := Imp.go t268 (by omega))); (try (have i_t268 := Imp.go t268 (by omega))); (try (have i_t269 := Imp.go t269 (by omega))); omega)))), (show (V293 0 48).toInt ≤ 8054 - 6 * (V 0 50).toInt from by first | omega | ((try (have i_t269 := Imp.go t269 (by omega))); (try (have i_t268 := Imp.go t268 (by omega))); (try (have i_t268 := Imp.go t268 (by omega))); (try (have i_t269 := Imp.go t269 (by omega))); omega)), (show (V293 0 50).toInt = (V 0 50).toInt from by first | omega | ((try (have i_t269 := Imp.go t269 (by omega))); (try (have i_t268 := Imp.go t268 (by omega))); (try (have i_t268 := Imp.go t268 (by omega))); (try (have i_t269 := Imp.go t269 (by omega))); omega)), (show (V 0 48).toInt ≤ (V293 0 48).toInt from by first | omega | ((try (have i_t269 := Imp.go t269 (by omega))); (try (have i_t268 := Imp.go t268 (by omega))); (try (have i_t268 := Imp.go t268 (by omega))); (try (have i_t269 := Imp.go t269 (by omega))); omega)), (Or.inl ⟨W0 rl301, (nx (nx gs 1) 1), hr279, rl301, keepS.le (keepS.tr (keepS.tr (keepS.rf : keepS gs 0 gs) (keepS.n1 1)) (keepS.n1 1)) (by decide)⟩), rw302, rw303, rw304, rw305⟩, by rw [ht]; exact hP, va_K.moved hW.alike hK, hD⟩, hS.F ht⟩) hS.2.2 dX12_partWithin_275
                    · skip
                      have hb306 : ∀ k, Rc gT (Crun gs (Ipart gd :: k)) (Cbad (V271 0 8).toInt) := fun k => Rc.go1 (hr261 k) ((nm_1 h275).trans (fl_eq rfl rl278))
                      have nr307 := Imp.go t269 q274
                      refine lv_iconst (v := 0) hx hb dX12_partWithin_128 (by decide) ?_
                      have r308 : Int32.toInt 10 = 10 := by decide
                      have r309 : Int32.toInt 0 = 0 := by decide
                      have pq310 : (V271 0 48).toInt = ((V 0 48)).toInt := congrArg Int32.toInt ((ajV271 0 48 rfl).trans ((ajV248 0 48 rfl).trans ((ajV202 0 48 rfl).trans ((ajV109 0 48 rfl).trans (ajV11 0 48 rfl)))))
                      refine gA_int (gA_runV (As := [.int 10, .int z264, .int 0]) (rest := []) (ci := 12) (q0 := 0) hx hb hml hown hg hP hD hK hS hA hnw hgk (s_emit3 l D ks H.size ad kk V271 L 10 z264 0 hMV271 (show (V271 0 48).toInt ≤ 9999 from by first | omega | ((try (have i_t269 := Imp.go t269 (by omega))); (try (have i_t268 := Imp.go t268 (by omega))); (try (have i_t268 := Imp.go t268 (by omega))); (try (have i_t269 := Imp.go t269 (by omega))); omega))) w2140 w2142 w111 w172 w2143 rfl rfl hdV_yX12_emit ⟨(by show 0 + 1 ≤ 10 * dd + 15; omega), (by show 8 + (4 + 11) + (0) ≤ 300 * dd + 500; omega)⟩ rfl hl.1 rfl (Nat.le_of_ble_eq_true rfl) dX12_partWithin_129 ⟨Nat.le_of_ble_eq_true rfl, Nat.le_of_ble_eq_true rfl⟩) hP hD hK hS hA (fun z311 u312 H locs w313 hP hD hK hS => ?_)
                      obtain ⟨V317, L318⟩ := u312
                      obtain ⟨hMV317, ajV317, axL318, rgz311, t314, t315, t316⟩ := w313
                      have axL318 : L = L318 := Eq.symm axL318
                      subst axL318
                      have hP : va_P D vwCl (mw ad kk ks.1 V317 L) H := hP
                      have hD : va_D A (mw ad kk ks.1 V317 L) := hD
                      have hMV317 : rgd bM V317 := hMV317
                      have ajV317 : agr [(0, 48)] [45, 46, 47] V271 V317 := ajV317
                      have agV317 : agr [(0, 7), (0, 8), (0, 48), (0, 50)] [35, 36, 37, 38, 45, 46, 47] V V317 := agV271.tr ajV317 (by decide) (by decide)
                      have rgz311 : 0 ≤ z311.toInt ∧ z311.toInt ≤ 20000 := rgz311
                      have t314 : (V317 0 48).toInt = (V271 0 48).toInt + 1 := t314
                      have t315 : z311.toInt = (V271 0 49).toInt + (V271 0 48).toInt := t315
                      have t316 : emitted V271 V317 (pA V271) 10 z264 0 := t316
                      have r319 : 0 ≤ ((V317 0 48)).toInt ∧ ((V317 0 48)).toInt ≤ 10000 := hMV317 0 48
                      have pq320 : (V271 0 49).toInt = ((V 0 49)).toInt := congrArg Int32.toInt ((ajV271 0 49 rfl).trans ((ajV248 0 49 rfl).trans ((ajV202 0 49 rfl).trans ((ajV109 0 49 rfl).trans (ajV11 0 49 rfl)))))
                      have r321 : 0 ≤ ((V 0 49)).toInt ∧ ((V 0 49)).toInt ≤ 10000 := hMV 0 49
                      refine lv_istore_n (lv' := [(1, .int z311), (0, .ref (ad 0))]) hx hb dX12_partWithin_132 rfl hl (by decide) rfl (fun ls hl => ?_)
                      refine lv_goto (tgt := 275) hx hb dX12_partWithin_133 (by decide) ?_
                      have pq322 : (V317 0 7).toInt = ((V271 0 7)).toInt := congrArg Int32.toInt (ajV317 0 7 rfl)
                      have pq323 : (V317 0 8).toInt = ((V271 0 8)).toInt := congrArg Int32.toInt (ajV317 0 8 rfl)
                      have pq324 : (V317 0 50).toInt = ((V 0 50)).toInt := congrArg Int32.toInt ((ajV317 0 50 rfl).trans ((ajV271 0 50 rfl).trans ((ajV248 0 50 rfl).trans ((ajV202 0 50 rfl).trans ((ajV109 0 50 rfl).trans (ajV11 0 50 rfl))))))
                      have rw325 : RoV 35 bq V V317 := (fun k hk => ((ajV317 35 k rfl).trans ((ajV271 35 k rfl).trans ((ajV248 35 k rfl).trans ((ajV202 35 k rfl).trans ((ajV109 35 k rfl).trans ((ajV11 35 k rfl).trans rfl)))))))
                      have rw326 : RoV 37 bq V V317 := (fun k hk => ((ajV317 37 k rfl).trans ((ajV271 37 k rfl).trans ((ajV248 37 k rfl).trans ((ajV202 37 k rfl).trans ((ajV109 37 k rfl).trans ((ajV11 37 k rfl).trans rfl)))))))
                      have rw327 : RoL 36 20 bq L L := (fun k hk => rfl)
                      have rw328 : RoL 38 20 bq L L := (fun k hk => rfl)
                      exact W.vret hx hb hr (fun t ht hW => ⟨⟨(V317, L), rfl, ⟨hMV317, agV317, alL, (Imp.mk (fun hp => have hp : (V317 0 8).toInt = 0 := hp; (show (V317 0 48).toInt - (V 0 48).toInt + 1 ≤ 2 * ((V317 0 7).toInt - (V 0 7).toInt) from by first | omega | ((try (have i_t269 := Imp.go t269 (by omega))); (try (have i_t268 := Imp.go t268 (by omega))); (try (have i_t268 := Imp.go t268 (by omega))); (try (have i_t269 := Imp.go t269 (by omega))); omega)))), (show (V317 0 48).toInt ≤ 8054 - 6 * (V 0 50).toInt from by first | omega | ((try (have i_t269 := Imp.go t269 (by omega))); (try (have i_t268 := Imp.go t268 (by omega))); (try (have i_t268 := Imp.go t268 (by omega))); (try (have i_t269 := Imp.go t269 (by omega))); omega)), (show (V317 0 50).toInt = (V 0 50).toInt from by first | omega | ((try (have i_t269 := Imp.go t269 (by omega))); (try (have i_t268 := Imp.go t268 (by omega))); (try (have i_t268 := Imp.go t268 (by omega))); (try (have i_t269 := Imp.go t269 (by omega))); omega)), (show (V 0 48).toInt ≤ (V317 0 48).toInt from by first | omega | ((try (have i_t269 := Imp.go t269 (by omega))); (try (have i_t268 := Imp.go t268 (by omega))); (try (have i_t268 := Imp.go t268 (by omega))); (try (have i_t269 := Imp.go t269 (by omega))); omega)), (Or.inr ⟨(show 1 ≤ (V317 0 8).toInt from by omega), (fun k => by rw [show (V317 0 8).toInt = (V271 0 8).toInt from by omega]; exact hb306 k)⟩), rw325, rw326, rw327, rw328⟩, by rw [ht]; exact hP, va_K.moved hW.alike hK, hD⟩, hS.F ht⟩) hS.2.2 dX12_partWithin_275
                    · skip
                      have hb329 : ∀ k, Rc gT (Crun gs (Ipart gd :: k)) (Cbad (V271 0 8).toInt) := fun k => Rc.go1 (hr261 k) ((nm_4 h275 (by omega)).trans (fl_eq rfl rl278))
                      have nr330 := Imp.go t269 q274
                      refine lv_iconst (v := 0) hx hb dX12_partWithin_128 (by decide) ?_
                      have r331 : Int32.toInt 10 = 10 := by decide
                      have r332 : Int32.toInt 0 = 0 := by decide
                      have pq333 : (V271 0 48).toInt = ((V 0 48)).toInt := congrArg Int32.toInt ((ajV271 0 48 rfl).trans ((ajV248 0 48 rfl).trans ((ajV202 0 48 rfl).trans ((ajV109 0 48 rfl).trans (ajV11 0 48 rfl)))))
                      refine gA_int (gA_runV (As := [.int 10, .int z264, .int 0]) (rest := []) (ci := 12) (q0 := 0) hx hb hml hown hg hP hD hK hS hA hnw hgk (s_emit3 l D ks H.size ad kk V271 L 10 z264 0 hMV271 (show (V271 0 48).toInt ≤ 9999 from by first | omega | ((try (have i_t269 := Imp.go t269 (by omega))); (try (have i_t268 := Imp.go t268 (by omega))); (try (have i_t268 := Imp.go t268 (by omega))); (try (have i_t269 := Imp.go t269 (by omega))); omega))) w2140 w2142 w111 w172 w2143 rfl rfl hdV_yX12_emit ⟨(by show 0 + 1 ≤ 10 * dd + 15; omega), (by show 8 + (4 + 11) + (0) ≤ 300 * dd + 500; omega)⟩ rfl hl.1 rfl (Nat.le_of_ble_eq_true rfl) dX12_partWithin_129 ⟨Nat.le_of_ble_eq_true rfl, Nat.le_of_ble_eq_true rfl⟩) hP hD hK hS hA (fun z334 u335 H locs w336 hP hD hK hS => ?_)
                      obtain ⟨V340, L341⟩ := u335
                      obtain ⟨hMV340, ajV340, axL341, rgz334, t337, t338, t339⟩ := w336
                      have axL341 : L = L341 := Eq.symm axL341
                      subst axL341
                      have hP : va_P D vwCl (mw ad kk ks.1 V340 L) H := hP
                      have hD : va_D A (mw ad kk ks.1 V340 L) := hD
                      have hMV340 : rgd bM V340 := hMV340
                      have ajV340 : agr [(0, 48)] [45, 46, 47] V271 V340 := ajV340
                      have agV340 : agr [(0, 7), (0, 8), (0, 48), (0, 50)] [35, 36, 37, 38, 45, 46, 47] V V340 := agV271.tr ajV340 (by decide) (by decide)
                      have rgz334 : 0 ≤ z334.toInt ∧ z334.toInt ≤ 20000 := rgz334
                      have t337 : (V340 0 48).toInt = (V271 0 48).toInt + 1 := t337
                      have t338 : z334.toInt = (V271 0 49).toInt + (V271 0 48).toInt := t338
                      have t339 : emitted V271 V340 (pA V271) 10 z264 0 := t339
                      have r342 : 0 ≤ ((V340 0 48)).toInt ∧ ((V340 0 48)).toInt ≤ 10000 := hMV340 0 48
                      have pq343 : (V271 0 49).toInt = ((V 0 49)).toInt := congrArg Int32.toInt ((ajV271 0 49 rfl).trans ((ajV248 0 49 rfl).trans ((ajV202 0 49 rfl).trans ((ajV109 0 49 rfl).trans (ajV11 0 49 rfl)))))
                      have r344 : 0 ≤ ((V 0 49)).toInt ∧ ((V 0 49)).toInt ≤ 10000 := hMV 0 49
                      refine lv_istore_n (lv' := [(1, .int z334), (0, .ref (ad 0))]) hx hb dX12_partWithin_132 rfl hl (by decide) rfl (fun ls hl => ?_)
                      refine lv_goto (tgt := 275) hx hb dX12_partWithin_133 (by decide) ?_
                      have pq345 : (V340 0 7).toInt = ((V271 0 7)).toInt := congrArg Int32.toInt (ajV340 0 7 rfl)
                      have pq346 : (V340 0 8).toInt = ((V271 0 8)).toInt := congrArg Int32.toInt (ajV340 0 8 rfl)
                      have pq347 : (V340 0 50).toInt = ((V 0 50)).toInt := congrArg Int32.toInt ((ajV340 0 50 rfl).trans ((ajV271 0 50 rfl).trans ((ajV248 0 50 rfl).trans ((ajV202 0 50 rfl).trans ((ajV109 0 50 rfl).trans (ajV11 0 50 rfl))))))
                      have rw348 : RoV 35 bq V V340 := (fun k hk => ((ajV340 35 k rfl).trans ((ajV271 35 k rfl).trans ((ajV248 35 k rfl).trans ((ajV202 35 k rfl).trans ((ajV109 35 k rfl).trans ((ajV11 35 k rfl).trans rfl)))))))
                      have rw349 : RoV 37 bq V V340 := (fun k hk => ((ajV340 37 k rfl).trans ((ajV271 37 k rfl).trans ((ajV248 37 k rfl).trans ((ajV202 37 k rfl).trans ((ajV109 37 k rfl).trans ((ajV11 37 k rfl).trans rfl)))))))
                      have rw350 : RoL 36 20 bq L L := (fun k hk => rfl)
                      have rw351 : RoL 38 20 bq L L := (fun k hk => rfl)
                      exact W.vret hx hb hr (fun t ht hW => ⟨⟨(V340, L), rfl, ⟨hMV340, agV340, alL, (Imp.mk (fun hp => have hp : (V340 0 8).toInt = 0 := hp; (show (V340 0 48).toInt - (V 0 48).toInt + 1 ≤ 2 * ((V340 0 7).toInt - (V 0 7).toInt) from by first | omega | ((try (have i_t269 := Imp.go t269 (by omega))); (try (have i_t268 := Imp.go t268 (by omega))); (try (have i_t268 := Imp.go t268 (by omega))); (try (have i_t269 := Imp.go t269 (by omega))); omega)))), (show (V340 0 48).toInt ≤ 8054 - 6 * (V 0 50).toInt from by first | omega | ((try (have i_t269 := Imp.go t269 (by omega))); (try (have i_t268 := Imp.go t268 (by omega))); (try (have i_t268 := Imp.go t268 (by omega))); (try (have i_t269 := Imp.go t269 (by omega))); omega)), (show (V340 0 50).toInt = (V 0 50).toInt from by first | omega | ((try (have i_t269 := Imp.go t269 (by omega))); (try (have i_t268 := Imp.go t268 (by omega))); (try (have i_t268 := Imp.go t268 (by omega))); (try (have i_t269 := Imp.go t269 (by omega))); omega)), (show (V 0 48).toInt ≤ (V340 0 48).toInt from by first | omega | ((try (have i_t269 := Imp.go t269 (by omega))); (try (have i_t268 := Imp.go t268 (by omega))); (try (have i_t268 := Imp.go t268 (by omega))); (try (have i_t269 := Imp.go t269 (by omega))); omega)), (Or.inr ⟨(show 1 ≤ (V340 0 8).toInt from by omega), (fun k => by rw [show (V340 0 8).toInt = (V271 0 8).toInt from by omega]; exact hb329 k)⟩), rw348, rw349, rw350, rw351⟩, by rw [ht]; exact hP, va_K.moved hW.alike hK, hD⟩, hS.F ht⟩) hS.2.2 dX12_partWithin_275
                · skip
                  have kd352 : gT.1 (gs.1 0) ≠ 144 := fun h9 => h251 (h9.trans (by decide))
                  have fz353 := RelM.rg rl252
                  have pq354 : (V248 0 8).toInt = ((V 0 8)).toInt := congrArg Int32.toInt ((ajV248 0 8 rfl).trans ((ajV202 0 8 rfl).trans ((ajV109 0 8 rfl).trans (ajV11 0 8 rfl))))
                  refine lv_if_eq (tgt := 136) hx hb dX12_partWithin_115 (by decide) (fun c355 => ?_) (fun c355 => ?_)
                  · skip
                    have f356 : z244.toInt = 0 := b_eq rfl (by decide) c355
                    refine lv_aload_n hx hb dX12_partWithin_136 rfl (lv_at hl 0 rfl) ?_
                    refine lv_iconst (v := 2) hx hb dX12_partWithin_137 (by decide) ?_
                    have r357 : Int32.toInt 2 = 2 := by decide
                    refine gA_int (gA_runV (As := [.int 2]) (rest := []) (ci := 12) (q0 := 0) hx hb hml hown hg hP hD hK hS hA hnw hgk (s_hasWordA l D ks H.size ad kk V248 L 2 (bq) (gn) (gT) (gs) (gl) hMV248 (by decide) rl252) w2055 w2057 w90 w172 w2058 rfl rfl hdV_yX12_hasWord ⟨(by show 1 + 1 ≤ 10 * dd + 15; omega), (by show 8 + (3 + 11) + (21) ≤ 300 * dd + 500; omega)⟩ rfl hl.1 rfl (Nat.le_of_ble_eq_true rfl) dX12_partWithin_138 ⟨Nat.le_of_ble_eq_true rfl, Nat.le_of_ble_eq_true rfl⟩) hP hD hK hS hA (fun z358 u359 H locs w360 hP hD hK hS => ?_)
                    obtain ⟨V362, L363⟩ := u359
                    obtain ⟨hMV362, ajV362, axL363, rgz358, t361⟩ := w360
                    have axL363 : L = L363 := Eq.symm axL363
                    subst axL363
                    have hP : va_P D vwCl (mw ad kk ks.1 V362 L) H := hP
                    have hD : va_D A (mw ad kk ks.1 V362 L) := hD
                    have hMV362 : rgd bM V362 := hMV362
                    have ajV362 : agr [(0, 7)] [] V248 V362 := ajV362
                    have agV362 : agr [(0, 7), (0, 8), (0, 48), (0, 50)] [35, 36, 37, 38, 45, 46, 47] V V362 := agV248.tr ajV362 (by decide) (by decide)
                    have rgz358 : 0 ≤ z358.toInt ∧ z358.toInt ≤ 1 := rgz358
                    have t361 : (z358.toInt = 1 ∧ (gT).1 ((gs).1 0) = 128 + (Int32.toInt 2) ∧ RelM V362 L (bq) (gn) (gT) (nx (gs) 1) (gl)) ∨ (z358.toInt = 0 ∧ (gT).1 ((gs).1 0) ≠ 128 + (Int32.toInt 2) ∧ RelM V362 L (bq) (gn) (gT) (gs) (gl)) := t361
                    rcases t361 with ⟨q364, h365, rl366⟩ | ⟨q364, h365, rl366⟩
                    · skip
                      have kd367 : gT.1 (gs.1 0) = 130 := h365.trans (by decide)
                      have ps368 : (nx gs 1).1 0 = gs.1 0 + 1 := rfl
                      have fz369 := RelM.rg rl366
                      have pq370 : (V362 0 8).toInt = ((V 0 8)).toInt := congrArg Int32.toInt ((ajV362 0 8 rfl).trans ((ajV248 0 8 rfl).trans ((ajV202 0 8 rfl).trans ((ajV109 0 8 rfl).trans (ajV11 0 8 rfl)))))
                      refine lv_if_eq (tgt := 179) hx hb dX12_partWithin_141 (by decide) (fun c371 => ?_) (fun c371 => ?_)
                      · skip
                        have f372 : z358.toInt = 0 := b_eq rfl (by decide) c371
                        exfalso; omega
                      · skip
                        have f373 : z358.toInt ≠ 0 := b_neq rfl (by decide) c371
                        have q16 : (V 16 (Int32.toNatClampNeg (V 0 12))).toInt = (V 16 bq).toInt := by rw [cq0]
                        have hr374 : ∀ k, Rc gT (Crun gs (Ipart gd :: k)) (Crun gs (Ipart gd :: k)) := fun k => Rc.rf
                        have hr375 : ∀ k, Rc gT (Crun gs (Ipart gd :: k)) (Crun (nx gs 1) (Isetting :: k)) := fun k => Rc.go1 (hr374 k) (pw_130 gd bg (by omega) kd367)
                        refine lv_aload_n hx hb dX12_partWithin_144 rfl (lv_at hl 0 rfl) ?_
                        refine lv_bipush (v := 11) hx hb dX12_partWithin_145 (by decide) ?_
                        refine lv_aload_n hx hb dX12_partWithin_147 rfl (lv_at hl 0 rfl) ?_
                        refine lv_aload_n hx hb dX12_partWithin_148 rfl (lv_at hl 0 rfl) ?_
                        refine va_get (D := D) (ci := 12) (v := .ref (ad 17)) (C := RX12) (T := TX12) (N := 100) hx hb hg inX12 hown hK hP 0 rfl rfl 17 (by decide) (hg _ w1727) (fun _ h9 => h9) rfl dX12_partWithin_149 ?_
                        refine lv_bipush (v := 12) hx hb dX12_partWithin_152 (by decide) ?_
                        refine lv_aload_n hx hb dX12_partWithin_154 rfl (lv_at hl 0 rfl) ?_
                        refine va_get (D := D) (ci := 12) (v := .int (V362 0 12)) (C := RX12) (T := TX12) (N := 100) hx hb hg inX12 hown hK hP 0 rfl rfl 12 (by decide) (hg _ w1722) (fun _ h9 => h9) rfl dX12_partWithin_155 ?_
                        refine g_top (v := (V 0 12)) ((ajV362 0 12 rfl).trans ((ajV248 0 12 rfl).trans ((ajV202 0 12 rfl).trans ((ajV109 0 12 rfl).trans (ajV11 0 12 rfl))))) ?_
                        have r376 : 0 ≤ ((V 0 12)).toInt ∧ ((V 0 12)).toInt ≤ 1 := hMV 0 12
                        refine lv_imul hx hb dX12_partWithin_158 ?_
                        refine lv_topi (fun z377 ez377 => ?_)
                        have hz377 : z377.toInt = 12 * ((V 0 12)).toInt := i_mul ez377 (by decide) rfl (by omega)
                        refine lv_aload_n hx hb dX12_partWithin_159 rfl (lv_at hl 0 rfl) ?_
                        refine va_get (D := D) (ci := 12) (v := .ref (ad 16)) (C := RX12) (T := TX12) (N := 100) hx hb hg inX12 hown hK hP 0 rfl rfl 16 (by decide) (hg _ w1726) (fun _ h9 => h9) rfl dX12_partWithin_160 ?_
                        refine lv_aload_n hx hb dX12_partWithin_163 rfl (lv_at hl 0 rfl) ?_
                        refine va_get (D := D) (ci := 12) (v := .int (V362 0 12)) (C := RX12) (T := TX12) (N := 100) hx hb hg inX12 hown hK hP 0 rfl rfl 12 (by decide) (hg _ w1722) (fun _ h9 => h9) rfl dX12_partWithin_164 ?_
                        refine g_top (v := (V 0 12)) ((ajV362 0 12 rfl).trans ((ajV248 0 12 rfl).trans ((ajV202 0 12 rfl).trans ((ajV109 0 12 rfl).trans (ajV11 0 12 rfl))))) ?_
                        refine va_iald (D := D) (i := (V 0 12)) hx hb hK hP 9 8 rfl rfl (i_in (a := ((V 0 12)).toInt) rfl (by omega)) dX12_partWithin_167 ?_
                        refine g_top (v := (V 16 (Int32.toNatClampNeg (V 0 12)))) ((ajV362 16 (Int32.toNatClampNeg (V 0 12)) rfl).trans ((ajV248 16 (Int32.toNatClampNeg (V 0 12)) rfl).trans ((ajV202 16 (Int32.toNatClampNeg (V 0 12)) rfl).trans ((ajV109 16 (Int32.toNatClampNeg (V 0 12)) rfl).trans (ajV11 16 (Int32.toNatClampNeg (V 0 12)) rfl))))) ?_
                        have r378 : 0 ≤ ((V 16 (Int32.toNatClampNeg (V 0 12)))).toInt ∧ ((V 16 (Int32.toNatClampNeg (V 0 12)))).toInt ≤ 12 := hMV 16 (Int32.toNatClampNeg (V 0 12))
                        have pq379 : (V362 16 bq).toInt = ((V 16 bq)).toInt := congrArg Int32.toInt ((ajV362 16 bq rfl).trans ((ajV248 16 bq rfl).trans ((ajV202 16 bq rfl).trans ((ajV109 16 bq rfl).trans (ajV11 16 bq rfl)))))
                        have r380 : 0 ≤ ((V 16 bq)).toInt ∧ ((V 16 bq)).toInt ≤ 12 := hMV 16 bq
                        refine gA_int (gA_runV (As := [.ref (ad 17), .int z377, .int (V 16 (Int32.toNatClampNeg (V 0 12)))]) (rest := [.int 11, .ref (ad 0)]) (ci := 12) (q0 := 0) hx hb hml hown hg hP hD hK hS hA hnw hgk (s_named1 l D ks H.size ad kk V362 L z377 (V 16 (Int32.toNatClampNeg (V 0 12))) (bq) (gn) (gT) ((nx gs 1)) (gl) hMV362 (by omega) (by omega) rl366 (show z377.toInt = ((12 * (bq) : Nat) : Int) from by omega) (show ((V 16 (Int32.toNatClampNeg (V 0 12)))).toInt = (V362 16 (bq)).toInt from by omega)) w2067 w2069 w93 w172 w2070 rfl rfl hdV_yX12_named ⟨(by show 1 + 1 ≤ 10 * dd + 15; omega), (by show 8 + (5 + 11) + (27) ≤ 300 * dd + 500; omega)⟩ rfl hl.1 rfl (Nat.le_of_ble_eq_true rfl) dX12_partWithin_168 ⟨Nat.le_of_ble_eq_true rfl, Nat.le_of_ble_eq_true rfl⟩) hP hD hK hS hA (fun z381 u382 H locs w383 hP hD hK hS => ?_)
                        obtain ⟨V387, L388⟩ := u382
                        obtain ⟨hMV387, ajV387, axL388, rgz381, t384, t385, t386⟩ := w383
                        have axL388 : L = L388 := Eq.symm axL388
                        subst axL388
                        have hP : va_P D vwCl (mw ad kk ks.1 V387 L) H := hP
                        have hD : va_D A (mw ad kk ks.1 V387 L) := hD
                        have hMV387 : rgd bM V387 := hMV387
                        have ajV387 : agr [(0, 7), (0, 8)] [] V362 V387 := ajV387
                        have agV387 : agr [(0, 7), (0, 8), (0, 48), (0, 50)] [35, 36, 37, 38, 45, 46, 47] V V387 := agV362.tr ajV387 (by decide) (by decide)
                        have rgz381 : (-1) ≤ z381.toInt ∧ z381.toInt ≤ 47 := rgz381
                        have t384 : KmN (look (gT) ((nx gs 1)) (((nx gs 1)).2.1 1)) (V387 0 8).toInt (fun f9 => RelM V387 L (bq) (gn) (gT) (nx ((nx gs 1)) 1) (gl) ∧ z381.toInt = ((f9 : Nat) : Int) ∧ f9 < 12) := t384
                        have t385 : z381.toInt < ((V 16 (Int32.toNatClampNeg (V 0 12)))).toInt := t385
                        have t386 : Imp ((V387 0 8).toInt = 0) (0 ≤ z381.toInt) := t386
                        have r389 : 0 ≤ ((V387 0 8)).toInt ∧ ((V387 0 8)).toInt ≤ 70000 := hMV387 0 8
                        rcases t384 with ⟨q390, fx391, h392, rl393, hf394, hb395⟩ | ⟨q390, h392⟩
                        · skip
                          have hr396 : ∀ k, Rc gT (Crun gs (Ipart gd :: k)) (Crun (nx (nx gs 1) 1) (k)) := fun k => Rc.go1 (hr375 k) (se_y h392)
                          have ps397 : (nx (nx gs 1) 1).1 0 = (nx gs 1).1 0 + 1 := rfl
                          have fz398 := RelM.rg rl393
                          refine lv_iconst (v := 0) hx hb dX12_partWithin_171 (by decide) ?_
                          have r399 : Int32.toInt 11 = 11 := by decide
                          have r400 : Int32.toInt 0 = 0 := by decide
                          have pq401 : (V387 0 48).toInt = ((V 0 48)).toInt := congrArg Int32.toInt ((ajV387 0 48 rfl).trans ((ajV362 0 48 rfl).trans ((ajV248 0 48 rfl).trans ((ajV202 0 48 rfl).trans ((ajV109 0 48 rfl).trans (ajV11 0 48 rfl))))))
                          refine gA_int (gA_runV (As := [.int 11, .int z381, .int 0]) (rest := []) (ci := 12) (q0 := 0) hx hb hml hown hg hP hD hK hS hA hnw hgk (s_emit3 l D ks H.size ad kk V387 L 11 z381 0 hMV387 (show (V387 0 48).toInt ≤ 9999 from by first | omega | ((try (have i_t386 := Imp.go t386 (by omega))); omega))) w2140 w2142 w111 w172 w2143 rfl rfl hdV_yX12_emit ⟨(by show 0 + 1 ≤ 10 * dd + 15; omega), (by show 8 + (4 + 11) + (0) ≤ 300 * dd + 500; omega)⟩ rfl hl.1 rfl (Nat.le_of_ble_eq_true rfl) dX12_partWithin_172 ⟨Nat.le_of_ble_eq_true rfl, Nat.le_of_ble_eq_true rfl⟩) hP hD hK hS hA (fun z402 u403 H locs w404 hP hD hK hS => ?_)
                          obtain ⟨V408, L409⟩ := u403
                          obtain ⟨hMV408, ajV408, axL409, rgz402, t405, t406, t407⟩ := w404
                          have axL409 : L = L409 := Eq.symm axL409
                          subst axL409
                          have hP : va_P D vwCl (mw ad kk ks.1 V408 L) H := hP
                          have hD : va_D A (mw ad kk ks.1 V408 L) := hD
                          have hMV408 : rgd bM V408 := hMV408
                          have ajV408 : agr [(0, 48)] [45, 46, 47] V387 V408 := ajV408
                          have agV408 : agr [(0, 7), (0, 8), (0, 48), (0, 50)] [35, 36, 37, 38, 45, 46, 47] V V408 := agV387.tr ajV408 (by decide) (by decide)
                          have rgz402 : 0 ≤ z402.toInt ∧ z402.toInt ≤ 20000 := rgz402
                          have t405 : (V408 0 48).toInt = (V387 0 48).toInt + 1 := t405
                          have t406 : z402.toInt = (V387 0 49).toInt + (V387 0 48).toInt := t406
                          have t407 : emitted V387 V408 (pA V387) 11 z381 0 := t407
                          have r410 : 0 ≤ ((V408 0 48)).toInt ∧ ((V408 0 48)).toInt ≤ 10000 := hMV408 0 48
                          have pq411 : (V387 0 49).toInt = ((V 0 49)).toInt := congrArg Int32.toInt ((ajV387 0 49 rfl).trans ((ajV362 0 49 rfl).trans ((ajV248 0 49 rfl).trans ((ajV202 0 49 rfl).trans ((ajV109 0 49 rfl).trans (ajV11 0 49 rfl))))))
                          have r412 : 0 ≤ ((V 0 49)).toInt ∧ ((V 0 49)).toInt ≤ 10000 := hMV 0 49
                          refine lv_istore_n (lv' := [(1, .int z402), (0, .ref (ad 0))]) hx hb dX12_partWithin_175 rfl hl (by decide) rfl (fun ls hl => ?_)
                          refine lv_goto (tgt := 275) hx hb dX12_partWithin_176 (by decide) ?_
                          have pq413 : (V408 0 7).toInt = ((V387 0 7)).toInt := congrArg Int32.toInt (ajV408 0 7 rfl)
                          have pq414 : (V408 0 8).toInt = ((V387 0 8)).toInt := congrArg Int32.toInt (ajV408 0 8 rfl)
                          have pq415 : (V408 0 50).toInt = ((V 0 50)).toInt := congrArg Int32.toInt ((ajV408 0 50 rfl).trans ((ajV387 0 50 rfl).trans ((ajV362 0 50 rfl).trans ((ajV248 0 50 rfl).trans ((ajV202 0 50 rfl).trans ((ajV109 0 50 rfl).trans (ajV11 0 50 rfl)))))))
                          have rl416 : RelM V408 L bq gn gT (nx (nx gs 1) 1) gl := RelM.ag rl393 (show agr [(0, 48)] [45, 46, 47] V387 V408 from (agr.tr agr.rf ajV408 (by decide) (by decide))) (by decide) (show agL [] L L from agL.rf) (by decide)
                          have rw417 : RoV 35 bq V V408 := (fun k hk => ((ajV408 35 k rfl).trans ((ajV387 35 k rfl).trans ((ajV362 35 k rfl).trans ((ajV248 35 k rfl).trans ((ajV202 35 k rfl).trans ((ajV109 35 k rfl).trans ((ajV11 35 k rfl).trans rfl))))))))
                          have rw418 : RoV 37 bq V V408 := (fun k hk => ((ajV408 37 k rfl).trans ((ajV387 37 k rfl).trans ((ajV362 37 k rfl).trans ((ajV248 37 k rfl).trans ((ajV202 37 k rfl).trans ((ajV109 37 k rfl).trans ((ajV11 37 k rfl).trans rfl))))))))
                          have rw419 : RoL 36 20 bq L L := (fun k hk => rfl)
                          have rw420 : RoL 38 20 bq L L := (fun k hk => rfl)
                          exact W.vret hx hb hr (fun t ht hW => ⟨⟨(V408, L), rfl, ⟨hMV408, agV408, alL, (Imp.mk (fun hp => have hp : (V408 0 8).toInt = 0 := hp; (show (V408 0 48).toInt - (V 0 48).toInt + 1 ≤ 2 * ((V408 0 7).toInt - (V 0 7).toInt) from by first | omega | ((try (have i_t386 := Imp.go t386 (by omega))); omega)))), (show (V408 0 48).toInt ≤ 8054 - 6 * (V 0 50).toInt from by first | omega | ((try (have i_t386 := Imp.go t386 (by omega))); omega)), (show (V408 0 50).toInt = (V 0 50).toInt from by first | omega | ((try (have i_t386 := Imp.go t386 (by omega))); omega)), (show (V 0 48).toInt ≤ (V408 0 48).toInt from by first | omega | ((try (have i_t386 := Imp.go t386 (by omega))); omega)), (Or.inl ⟨W0 rl416, (nx (nx gs 1) 1), hr396, rl416, keepS.le (keepS.tr (keepS.tr (keepS.rf : keepS gs 0 gs) (keepS.n1 1)) (keepS.n1 1)) (by decide)⟩), rw417, rw418, rw419, rw420⟩, by rw [ht]; exact hP, va_K.moved hW.alike hK, hD⟩, hS.F ht⟩) hS.2.2 dX12_partWithin_275
                        · skip
                          have hb421 : ∀ k, Rc gT (Crun gs (Ipart gd :: k)) (Cbad (V387 0 8).toInt) := fun k => Rc.go1 (hr375 k) (se_b h392)
                          refine lv_iconst (v := 0) hx hb dX12_partWithin_171 (by decide) ?_
                          have r422 : Int32.toInt 11 = 11 := by decide
                          have r423 : Int32.toInt 0 = 0 := by decide
                          have pq424 : (V387 0 48).toInt = ((V 0 48)).toInt := congrArg Int32.toInt ((ajV387 0 48 rfl).trans ((ajV362 0 48 rfl).trans ((ajV248 0 48 rfl).trans ((ajV202 0 48 rfl).trans ((ajV109 0 48 rfl).trans (ajV11 0 48 rfl))))))
                          refine gA_int (gA_runV (As := [.int 11, .int z381, .int 0]) (rest := []) (ci := 12) (q0 := 0) hx hb hml hown hg hP hD hK hS hA hnw hgk (s_emit3 l D ks H.size ad kk V387 L 11 z381 0 hMV387 (show (V387 0 48).toInt ≤ 9999 from by first | omega | ((try (have i_t386 := Imp.go t386 (by omega))); omega))) w2140 w2142 w111 w172 w2143 rfl rfl hdV_yX12_emit ⟨(by show 0 + 1 ≤ 10 * dd + 15; omega), (by show 8 + (4 + 11) + (0) ≤ 300 * dd + 500; omega)⟩ rfl hl.1 rfl (Nat.le_of_ble_eq_true rfl) dX12_partWithin_172 ⟨Nat.le_of_ble_eq_true rfl, Nat.le_of_ble_eq_true rfl⟩) hP hD hK hS hA (fun z425 u426 H locs w427 hP hD hK hS => ?_)
                          obtain ⟨V431, L432⟩ := u426
                          obtain ⟨hMV431, ajV431, axL432, rgz425, t428, t429, t430⟩ := w427
                          have axL432 : L = L432 := Eq.symm axL432
                          subst axL432
                          have hP : va_P D vwCl (mw ad kk ks.1 V431 L) H := hP
                          have hD : va_D A (mw ad kk ks.1 V431 L) := hD
                          have hMV431 : rgd bM V431 := hMV431
                          have ajV431 : agr [(0, 48)] [45, 46, 47] V387 V431 := ajV431
                          have agV431 : agr [(0, 7), (0, 8), (0, 48), (0, 50)] [35, 36, 37, 38, 45, 46, 47] V V431 := agV387.tr ajV431 (by decide) (by decide)
                          have rgz425 : 0 ≤ z425.toInt ∧ z425.toInt ≤ 20000 := rgz425
                          have t428 : (V431 0 48).toInt = (V387 0 48).toInt + 1 := t428
                          have t429 : z425.toInt = (V387 0 49).toInt + (V387 0 48).toInt := t429
                          have t430 : emitted V387 V431 (pA V387) 11 z381 0 := t430
                          have r433 : 0 ≤ ((V431 0 48)).toInt ∧ ((V431 0 48)).toInt ≤ 10000 := hMV431 0 48
                          have pq434 : (V387 0 49).toInt = ((V 0 49)).toInt := congrArg Int32.toInt ((ajV387 0 49 rfl).trans ((ajV362 0 49 rfl).trans ((ajV248 0 49 rfl).trans ((ajV202 0 49 rfl).trans ((ajV109 0 49 rfl).trans (ajV11 0 49 rfl))))))
                          have r435 : 0 ≤ ((V 0 49)).toInt ∧ ((V 0 49)).toInt ≤ 10000 := hMV 0 49
                          refine lv_istore_n (lv' := [(1, .int z425), (0, .ref (ad 0))]) hx hb dX12_partWithin_175 rfl hl (by decide) rfl (fun ls hl => ?_)
                          refine lv_goto (tgt := 275) hx hb dX12_partWithin_176 (by decide) ?_
                          have pq436 : (V431 0 7).toInt = ((V387 0 7)).toInt := congrArg Int32.toInt (ajV431 0 7 rfl)
                          have pq437 : (V431 0 8).toInt = ((V387 0 8)).toInt := congrArg Int32.toInt (ajV431 0 8 rfl)
                          have pq438 : (V431 0 50).toInt = ((V 0 50)).toInt := congrArg Int32.toInt ((ajV431 0 50 rfl).trans ((ajV387 0 50 rfl).trans ((ajV362 0 50 rfl).trans ((ajV248 0 50 rfl).trans ((ajV202 0 50 rfl).trans ((ajV109 0 50 rfl).trans (ajV11 0 50 rfl)))))))
                          have rw439 : RoV 35 bq V V431 := (fun k hk => ((ajV431 35 k rfl).trans ((ajV387 35 k rfl).trans ((ajV362 35 k rfl).trans ((ajV248 35 k rfl).trans ((ajV202 35 k rfl).trans ((ajV109 35 k rfl).trans ((ajV11 35 k rfl).trans rfl))))))))
                          have rw440 : RoV 37 bq V V431 := (fun k hk => ((ajV431 37 k rfl).trans ((ajV387 37 k rfl).trans ((ajV362 37 k rfl).trans ((ajV248 37 k rfl).trans ((ajV202 37 k rfl).trans ((ajV109 37 k rfl).trans ((ajV11 37 k rfl).trans rfl))))))))
                          have rw441 : RoL 36 20 bq L L := (fun k hk => rfl)
                          have rw442 : RoL 38 20 bq L L := (fun k hk => rfl)
                          exact W.vret hx hb hr (fun t ht hW => ⟨⟨(V431, L), rfl, ⟨hMV431, agV431, alL, (Imp.mk (fun hp => have hp : (V431 0 8).toInt = 0 := hp; (show (V431 0 48).toInt - (V 0 48).toInt + 1 ≤ 2 * ((V431 0 7).toInt - (V 0 7).toInt) from by first | omega | ((try (have i_t386 := Imp.go t386 (by omega))); omega)))), (show (V431 0 48).toInt ≤ 8054 - 6 * (V 0 50).toInt from by first | omega | ((try (have i_t386 := Imp.go t386 (by omega))); omega)), (show (V431 0 50).toInt = (V 0 50).toInt from by first | omega | ((try (have i_t386 := Imp.go t386 (by omega))); omega)), (show (V 0 48).toInt ≤ (V431 0 48).toInt from by first | omega | ((try (have i_t386 := Imp.go t386 (by omega))); omega)), (Or.inr ⟨(show 1 ≤ (V431 0 8).toInt from by omega), (fun k => by rw [show (V431 0 8).toInt = (V387 0 8).toInt from by omega]; exact hb421 k)⟩), rw439, rw440, rw441, rw442⟩, by rw [ht]; exact hP, va_K.moved hW.alike hK, hD⟩, hS.F ht⟩) hS.2.2 dX12_partWithin_275
                    · skip
                      have kd443 : gT.1 (gs.1 0) ≠ 130 := fun h9 => h365 (h9.trans (by decide))
                      have fz444 := RelM.rg rl366
                      have pq445 : (V362 0 8).toInt = ((V 0 8)).toInt := congrArg Int32.toInt ((ajV362 0 8 rfl).trans ((ajV248 0 8 rfl).trans ((ajV202 0 8 rfl).trans ((ajV109 0 8 rfl).trans (ajV11 0 8 rfl)))))
                      refine lv_if_eq (tgt := 179) hx hb dX12_partWithin_141 (by decide) (fun c446 => ?_) (fun c446 => ?_)
                      · skip
                        have f447 : z358.toInt = 0 := b_eq rfl (by decide) c446
                        refine lv_aload_n hx hb dX12_partWithin_179 rfl (lv_at hl 0 rfl) ?_
                        refine lv_bipush (v := 17) hx hb dX12_partWithin_180 (by decide) ?_
                        have r448 : Int32.toInt 17 = 17 := by decide
                        refine gA_int (gA_runV (As := [.int 17]) (rest := []) (ci := 12) (q0 := 0) hx hb hml hown hg hP hD hK hS hA hnw hgk (s_hasWordA l D ks H.size ad kk V362 L 17 (bq) (gn) (gT) (gs) (gl) hMV362 (by decide) rl366) w2055 w2057 w90 w172 w2058 rfl rfl hdV_yX12_hasWord ⟨(by show 1 + 1 ≤ 10 * dd + 15; omega), (by show 8 + (3 + 11) + (21) ≤ 300 * dd + 500; omega)⟩ rfl hl.1 rfl (Nat.le_of_ble_eq_true rfl) dX12_partWithin_182 ⟨Nat.le_of_ble_eq_true rfl, Nat.le_of_ble_eq_true rfl⟩) hP hD hK hS hA (fun z449 u450 H locs w451 hP hD hK hS => ?_)
                        obtain ⟨V453, L454⟩ := u450
                        obtain ⟨hMV453, ajV453, axL454, rgz449, t452⟩ := w451
                        have axL454 : L = L454 := Eq.symm axL454
                        subst axL454
                        have hP : va_P D vwCl (mw ad kk ks.1 V453 L) H := hP
                        have hD : va_D A (mw ad kk ks.1 V453 L) := hD
                        have hMV453 : rgd bM V453 := hMV453
                        have ajV453 : agr [(0, 7)] [] V362 V453 := ajV453
                        have agV453 : agr [(0, 7), (0, 8), (0, 48), (0, 50)] [35, 36, 37, 38, 45, 46, 47] V V453 := agV362.tr ajV453 (by decide) (by decide)
                        have rgz449 : 0 ≤ z449.toInt ∧ z449.toInt ≤ 1 := rgz449
                        have t452 : (z449.toInt = 1 ∧ (gT).1 ((gs).1 0) = 128 + (Int32.toInt 17) ∧ RelM V453 L (bq) (gn) (gT) (nx (gs) 1) (gl)) ∨ (z449.toInt = 0 ∧ (gT).1 ((gs).1 0) ≠ 128 + (Int32.toInt 17) ∧ RelM V453 L (bq) (gn) (gT) (gs) (gl)) := t452
                        rcases t452 with ⟨q455, h456, rl457⟩ | ⟨q455, h456, rl457⟩
                        · skip
                          have kd458 : gT.1 (gs.1 0) = 145 := h456.trans (by decide)
                          have ps459 : (nx gs 1).1 0 = gs.1 0 + 1 := rfl
                          have fz460 := RelM.rg rl457
                          have pq461 : (V453 0 8).toInt = ((V 0 8)).toInt := congrArg Int32.toInt ((ajV453 0 8 rfl).trans ((ajV362 0 8 rfl).trans ((ajV248 0 8 rfl).trans ((ajV202 0 8 rfl).trans ((ajV109 0 8 rfl).trans (ajV11 0 8 rfl))))))
                          refine lv_if_eq (tgt := 195) hx hb dX12_partWithin_185 (by decide) (fun c462 => ?_) (fun c462 => ?_)
                          · skip
                            have f463 : z449.toInt = 0 := b_eq rfl (by decide) c462
                            exfalso; omega
                          · skip
                            have f464 : z449.toInt ≠ 0 := b_neq rfl (by decide) c462
                            have hr465 : ∀ k, Rc gT (Crun gs (Ipart gd :: k)) (Crun gs (Ipart gd :: k)) := fun k => Rc.rf
                            have hr466 : ∀ k, Rc gT (Crun gs (Ipart gd :: k)) (Crun (nx gs 1) (Itake 40 :: Iexpr (gd + 1) :: Itake 44 :: Iexpr (gd + 1) :: Itake 44 :: Iexpr (gd + 1) :: Itake 41 :: k)) := fun k => Rc.go1 (hr465 k) (pw_145 gd bg (by omega) kd458)
                            refine lv_aload_n hx hb dX12_partWithin_188 rfl (lv_at hl 0 rfl) ?_
                            have pq467 : (V453 0 48).toInt = ((V 0 48)).toInt := congrArg Int32.toInt ((ajV453 0 48 rfl).trans ((ajV362 0 48 rfl).trans ((ajV248 0 48 rfl).trans ((ajV202 0 48 rfl).trans ((ajV109 0 48 rfl).trans (ajV11 0 48 rfl))))))
                            have pq468 : (V453 0 50).toInt = ((V 0 50)).toInt := congrArg Int32.toInt ((ajV453 0 50 rfl).trans ((ajV362 0 50 rfl).trans ((ajV248 0 50 rfl).trans ((ajV202 0 50 rfl).trans ((ajV109 0 50 rfl).trans (ajV11 0 50 rfl))))))
                            refine gA_void (gA_runV (As := []) (rest := []) (ci := 12) (q0 := 0) hx hb hml hown hg hP hD hK hS hA hnw hgk (hk_s_pickA H.size ad kk V453 L (bq) (gn) (gT) ((nx gs 1)) (gl) ((gd + 1)) hMV453 rl457 (show (V453 0 48).toInt ≤ 2 * (V453 0 7).toInt from by omega) (show (V453 0 50).toInt = (((gd + 1)) : Int) from by omega) (show (V453 0 50).toInt + (dd : Int) = 8 from by omega) (EM.mv em ((ajV453 0 51 rfl).trans ((ajV362 0 51 rfl).trans ((ajV248 0 51 rfl).trans ((ajV202 0 51 rfl).trans ((ajV109 0 51 rfl).trans (ajV11 0 51 rfl)))))) ((ajV453 0 52 rfl).trans ((ajV362 0 52 rfl).trans ((ajV248 0 52 rfl).trans ((ajV202 0 52 rfl).trans ((ajV109 0 52 rfl).trans (ajV11 0 52 rfl)))))) (by rw [(funext (fun q => ajV453 27 q rfl) : V453 27 = V362 27), (funext (fun q => ajV362 27 q rfl) : V362 27 = V248 27), (funext (fun q => ajV248 27 q rfl) : V248 27 = V202 27), (funext (fun q => ajV202 27 q rfl) : V202 27 = V109 27), (funext (fun q => ajV109 27 q rfl) : V109 27 = V11 27), (funext (fun q => ajV11 27 q rfl) : V11 27 = V 27)] : V453 27 = V 27) ((keepS.tr (keepS.rf : keepS gs 0 gs) (keepS.n1 1))).2.1)) w2148 w2150 w113 w172 w2151 rfl rfl hdV_yX12_pick ⟨(by show 10 * dd + 14 + 1 ≤ 10 * dd + 15; omega), (by show 8 + (3 + 11) + (300 * dd + 460) ≤ 300 * dd + 500; omega)⟩ rfl hl.1 rfl (Nat.le_of_ble_eq_true rfl) dX12_partWithin_189 ⟨Nat.le_of_ble_eq_true rfl, Nat.le_of_ble_eq_true rfl⟩) hP hD hK hS hA (fun u470 H locs w471 hP hD hK hS => ?_)
                            obtain ⟨V481, L482⟩ := u470
                            obtain ⟨hMV481, ajV481, axL482, t472, t473, t474, t475, t476, t477, t478, t479, t480⟩ := w471
                            have alL482 : agL [35, 36, 37, 38, 45, 46, 47] L L482 := agL.tr alL axL482 (by decide)
                            have hP : va_P D vwCl (mw ad kk ks.1 V481 L482) H := hP
                            have hD : va_D A (mw ad kk ks.1 V481 L482) := hD
                            have hMV481 : rgd bM V481 := hMV481
                            have ajV481 : agr [(0, 7), (0, 8), (0, 48), (0, 50)] [35, 36, 37, 38, 45, 46, 47] V453 V481 := ajV481
                            have agV481 : agr [(0, 7), (0, 8), (0, 48), (0, 50)] [35, 36, 37, 38, 45, 46, 47] V V481 := agV453.tr ajV481 (by decide) (by decide)
                            have t472 : Imp ((V481 0 8).toInt = 0) ((V481 0 48).toInt - (V453 0 48).toInt ≤ 2 * ((V481 0 7).toInt - (V453 0 7).toInt)) := t472
                            have t473 : (V481 0 48).toInt ≤ 8053 - 6 * (V453 0 50).toInt := t473
                            have t474 : (V481 0 50).toInt = (V453 0 50).toInt := t474
                            have t475 : (V453 0 48).toInt ≤ (V481 0 48).toInt := t475
                            have t476 : RdM (gT) ((nx gs 1)) (fun k => Itake 40 :: Iexpr ((gd + 1)) :: Itake 44 :: Iexpr ((gd + 1)) :: Itake 44 :: Iexpr ((gd + 1)) :: Itake 41 :: k) (fun k => k) (V481 0 8).toInt (fun s9 => RelM V481 L482 (bq) (gn) (gT) s9 (gl) ∧ keepS ((nx gs 1)) 1 s9) := t476
                            have t477 : RoV 35 (bq) V453 V481 := t477
                            have t478 : RoV 37 (bq) V453 V481 := t478
                            have t479 : RoL 36 20 (bq) L L482 := t479
                            have t480 : RoL 38 20 (bq) L L482 := t480
                            have r483 : 0 ≤ ((V481 0 48)).toInt ∧ ((V481 0 48)).toInt ≤ 10000 := hMV481 0 48
                            have r484 : 0 ≤ ((V481 0 8)).toInt ∧ ((V481 0 8)).toInt ≤ 70000 := hMV481 0 8
                            have r485 : 0 ≤ ((V481 0 50)).toInt ∧ ((V481 0 50)).toInt ≤ 9 := hMV481 0 50
                            rcases t476 with ⟨q486, sx487, h488, rl489, kp490⟩ | ⟨q486, h488⟩
                            · skip
                              have hr491 : ∀ k, Rc gT (Crun gs (Ipart gd :: k)) (Crun sx487 (k)) := fun k => (hr466 k).tr (h488 (k))
                              have fz492 := RelM.rg rl489
                              have ps493 := (kp490).1
                              refine lv_goto (tgt := 275) hx hb dX12_partWithin_192 (by decide) ?_
                              have rw494 : RoV 35 bq V V481 := (fun k hk => ((t477 k hk).trans ((ajV453 35 k rfl).trans ((ajV362 35 k rfl).trans ((ajV248 35 k rfl).trans ((ajV202 35 k rfl).trans ((ajV109 35 k rfl).trans ((ajV11 35 k rfl).trans rfl))))))))
                              have rw495 : RoV 37 bq V V481 := (fun k hk => ((t478 k hk).trans ((ajV453 37 k rfl).trans ((ajV362 37 k rfl).trans ((ajV248 37 k rfl).trans ((ajV202 37 k rfl).trans ((ajV109 37 k rfl).trans ((ajV11 37 k rfl).trans rfl))))))))
                              have rw496 : RoL 36 20 bq L L482 := (fun k hk => ((t479 k hk).trans rfl))
                              have rw497 : RoL 38 20 bq L L482 := (fun k hk => ((t480 k hk).trans rfl))
                              exact W.vret hx hb hr (fun t ht hW => ⟨⟨(V481, L482), rfl, ⟨hMV481, agV481, alL482, (Imp.mk (fun hp => have hp : (V481 0 8).toInt = 0 := hp; (show (V481 0 48).toInt - (V 0 48).toInt + 1 ≤ 2 * ((V481 0 7).toInt - (V 0 7).toInt) from by first | omega | ((try (have i_t472 := Imp.go t472 (by omega))); omega)))), (show (V481 0 48).toInt ≤ 8054 - 6 * (V 0 50).toInt from by first | omega | ((try (have i_t472 := Imp.go t472 (by omega))); omega)), (show (V481 0 50).toInt = (V 0 50).toInt from by first | omega | ((try (have i_t472 := Imp.go t472 (by omega))); omega)), (show (V 0 48).toInt ≤ (V481 0 48).toInt from by first | omega | ((try (have i_t472 := Imp.go t472 (by omega))); omega)), (Or.inl ⟨W0 rl489, sx487, hr491, rl489, keepS.le (keepS.tr (keepS.tr (keepS.rf : keepS gs 0 gs) (keepS.n1 1)) kp490) (by decide)⟩), rw494, rw495, rw496, rw497⟩, by rw [ht]; exact hP, va_K.moved hW.alike hK, hD⟩, hS.F ht⟩) hS.2.2 dX12_partWithin_275
                            · skip
                              have hb498 : ∀ k, Rc gT (Crun gs (Ipart gd :: k)) (Cbad (V481 0 8).toInt) := fun k => (hr466 k).tr (h488 (k))
                              refine lv_goto (tgt := 275) hx hb dX12_partWithin_192 (by decide) ?_
                              have rw499 : RoV 35 bq V V481 := (fun k hk => ((t477 k hk).trans ((ajV453 35 k rfl).trans ((ajV362 35 k rfl).trans ((ajV248 35 k rfl).trans ((ajV202 35 k rfl).trans ((ajV109 35 k rfl).trans ((ajV11 35 k rfl).trans rfl))))))))
                              have rw500 : RoV 37 bq V V481 := (fun k hk => ((t478 k hk).trans ((ajV453 37 k rfl).trans ((ajV362 37 k rfl).trans ((ajV248 37 k rfl).trans ((ajV202 37 k rfl).trans ((ajV109 37 k rfl).trans ((ajV11 37 k rfl).trans rfl))))))))
                              have rw501 : RoL 36 20 bq L L482 := (fun k hk => ((t479 k hk).trans rfl))
                              have rw502 : RoL 38 20 bq L L482 := (fun k hk => ((t480 k hk).trans rfl))
                              exact W.vret hx hb hr (fun t ht hW => ⟨⟨(V481, L482), rfl, ⟨hMV481, agV481, alL482, (Imp.mk (fun hp => have hp : (V481 0 8).toInt = 0 := hp; (show (V481 0 48).toInt - (V 0 48).toInt + 1 ≤ 2 * ((V481 0 7).toInt - (V 0 7).toInt) from by first | omega | ((try (have i_t472 := Imp.go t472 (by omega))); omega)))), (show (V481 0 48).toInt ≤ 8054 - 6 * (V 0 50).toInt from by first | omega | ((try (have i_t472 := Imp.go t472 (by omega))); omega)), (show (V481 0 50).toInt = (V 0 50).toInt from by first | omega | ((try (have i_t472 := Imp.go t472 (by omega))); omega)), (show (V 0 48).toInt ≤ (V481 0 48).toInt from by first | omega | ((try (have i_t472 := Imp.go t472 (by omega))); omega)), (Or.inr ⟨(show 1 ≤ (V481 0 8).toInt from by omega), hb498⟩), rw499, rw500, rw501, rw502⟩, by rw [ht]; exact hP, va_K.moved hW.alike hK, hD⟩, hS.F ht⟩) hS.2.2 dX12_partWithin_275
                        · skip
                          have kd503 : gT.1 (gs.1 0) ≠ 145 := fun h9 => h456 (h9.trans (by decide))
                          have fz504 := RelM.rg rl457
                          have pq505 : (V453 0 8).toInt = ((V 0 8)).toInt := congrArg Int32.toInt ((ajV453 0 8 rfl).trans ((ajV362 0 8 rfl).trans ((ajV248 0 8 rfl).trans ((ajV202 0 8 rfl).trans ((ajV109 0 8 rfl).trans (ajV11 0 8 rfl))))))
                          refine lv_if_eq (tgt := 195) hx hb dX12_partWithin_185 (by decide) (fun c506 => ?_) (fun c506 => ?_)
                          · skip
                            have f507 : z449.toInt = 0 := b_eq rfl (by decide) c506
                            refine lv_aload_n hx hb dX12_partWithin_195 rfl (lv_at hl 0 rfl) ?_
                            refine lv_bipush (v := 18) hx hb dX12_partWithin_196 (by decide) ?_
                            have r508 : Int32.toInt 18 = 18 := by decide
                            refine gA_int (gA_runV (As := [.int 18]) (rest := []) (ci := 12) (q0 := 0) hx hb hml hown hg hP hD hK hS hA hnw hgk (s_hasWordA l D ks H.size ad kk V453 L 18 (bq) (gn) (gT) (gs) (gl) hMV453 (by decide) rl457) w2055 w2057 w90 w172 w2058 rfl rfl hdV_yX12_hasWord ⟨(by show 1 + 1 ≤ 10 * dd + 15; omega), (by show 8 + (3 + 11) + (21) ≤ 300 * dd + 500; omega)⟩ rfl hl.1 rfl (Nat.le_of_ble_eq_true rfl) dX12_partWithin_198 ⟨Nat.le_of_ble_eq_true rfl, Nat.le_of_ble_eq_true rfl⟩) hP hD hK hS hA (fun z509 u510 H locs w511 hP hD hK hS => ?_)
                            obtain ⟨V513, L514⟩ := u510
                            obtain ⟨hMV513, ajV513, axL514, rgz509, t512⟩ := w511
                            have axL514 : L = L514 := Eq.symm axL514
                            subst axL514
                            have hP : va_P D vwCl (mw ad kk ks.1 V513 L) H := hP
                            have hD : va_D A (mw ad kk ks.1 V513 L) := hD
                            have hMV513 : rgd bM V513 := hMV513
                            have ajV513 : agr [(0, 7)] [] V453 V513 := ajV513
                            have agV513 : agr [(0, 7), (0, 8), (0, 48), (0, 50)] [35, 36, 37, 38, 45, 46, 47] V V513 := agV453.tr ajV513 (by decide) (by decide)
                            have rgz509 : 0 ≤ z509.toInt ∧ z509.toInt ≤ 1 := rgz509
                            have t512 : (z509.toInt = 1 ∧ (gT).1 ((gs).1 0) = 128 + (Int32.toInt 18) ∧ RelM V513 L (bq) (gn) (gT) (nx (gs) 1) (gl)) ∨ (z509.toInt = 0 ∧ (gT).1 ((gs).1 0) ≠ 128 + (Int32.toInt 18) ∧ RelM V513 L (bq) (gn) (gT) (gs) (gl)) := t512
                            rcases t512 with ⟨q515, h516, rl517⟩ | ⟨q515, h516, rl517⟩
                            · skip
                              have kd518 : gT.1 (gs.1 0) = 146 := h516.trans (by decide)
                              have ps519 : (nx gs 1).1 0 = gs.1 0 + 1 := rfl
                              have fz520 := RelM.rg rl517
                              have pq521 : (V513 0 8).toInt = ((V 0 8)).toInt := congrArg Int32.toInt ((ajV513 0 8 rfl).trans ((ajV453 0 8 rfl).trans ((ajV362 0 8 rfl).trans ((ajV248 0 8 rfl).trans ((ajV202 0 8 rfl).trans ((ajV109 0 8 rfl).trans (ajV11 0 8 rfl)))))))
                              refine lv_if_eq (tgt := 256) hx hb dX12_partWithin_201 (by decide) (fun c522 => ?_) (fun c522 => ?_)
                              · skip
                                have f523 : z509.toInt = 0 := b_eq rfl (by decide) c522
                                exfalso; omega
                              · skip
                                have f524 : z509.toInt ≠ 0 := b_neq rfl (by decide) c522
                                have w146 := bg_146 bg kd518
                                have of6 := EM.of em w146
                                have pq525 : (V513 0 51).toInt = ((V 0 51)).toInt := congrArg Int32.toInt ((ajV513 0 51 rfl).trans ((ajV453 0 51 rfl).trans ((ajV362 0 51 rfl).trans ((ajV248 0 51 rfl).trans ((ajV202 0 51 rfl).trans ((ajV109 0 51 rfl).trans (ajV11 0 51 rfl)))))))
                                have r526 : (-1) ≤ ((V 0 51)).toInt ∧ ((V 0 51)).toInt ≤ 47 := hMV 0 51
                                have hr527 : ∀ k, Rc gT (Crun gs (Ipart gd :: k)) (Crun gs (Ipart gd :: k)) := fun k => Rc.rf
                                have hr528 : ∀ k, Rc gT (Crun gs (Ipart gd :: k)) (Crun (nx gs 1) (Inum 0 (((gs.1 1 : Nat) : Int) - 1) :: Itake 46 :: Imeth :: Itake 40 :: Iexpr (gd + 1) :: Itake 41 :: k)) := fun k => Rc.go1 (hr527 k) (pw_146 gd bg (by omega) kd518)
                                refine lv_aload_n hx hb dX12_partWithin_204 rfl (lv_at hl 0 rfl) ?_
                                refine lv_iconst (v := 0) hx hb dX12_partWithin_205 (by decide) ?_
                                refine lv_aload_n hx hb dX12_partWithin_206 rfl (lv_at hl 0 rfl) ?_
                                refine va_get (D := D) (ci := 12) (v := .ref (ad 27)) (C := RX12) (T := TX12) (N := 100) hx hb hg inX12 hown hK hP 0 rfl rfl 27 (by decide) (hg _ w1737) (fun _ h9 => h9) rfl dX12_partWithin_207 ?_
                                refine lv_aload_n hx hb dX12_partWithin_210 rfl (lv_at hl 0 rfl) ?_
                                refine va_get (D := D) (ci := 12) (v := .int (V513 0 51)) (C := RX12) (T := TX12) (N := 100) hx hb hg inX12 hown hK hP 0 rfl rfl 51 (by decide) (hg _ w1761) (fun _ h9 => h9) rfl dX12_partWithin_211 ?_
                                refine g_top (v := (V 0 51)) ((ajV513 0 51 rfl).trans ((ajV453 0 51 rfl).trans ((ajV362 0 51 rfl).trans ((ajV248 0 51 rfl).trans ((ajV202 0 51 rfl).trans ((ajV109 0 51 rfl).trans (ajV11 0 51 rfl))))))) ?_
                                refine va_iald (D := D) (i := (V 0 51)) hx hb hK hP 20 19 rfl rfl (i_in (a := ((V 0 51)).toInt) rfl (by omega)) dX12_partWithin_214 ?_
                                refine g_top (v := (V 27 (Int32.toNatClampNeg (V 0 51)))) ((ajV513 27 (Int32.toNatClampNeg (V 0 51)) rfl).trans ((ajV453 27 (Int32.toNatClampNeg (V 0 51)) rfl).trans ((ajV362 27 (Int32.toNatClampNeg (V 0 51)) rfl).trans ((ajV248 27 (Int32.toNatClampNeg (V 0 51)) rfl).trans ((ajV202 27 (Int32.toNatClampNeg (V 0 51)) rfl).trans ((ajV109 27 (Int32.toNatClampNeg (V 0 51)) rfl).trans (ajV11 27 (Int32.toNatClampNeg (V 0 51)) rfl))))))) ?_
                                have r529 : 0 ≤ ((V 27 (Int32.toNatClampNeg (V 0 51)))).toInt ∧ ((V 27 (Int32.toNatClampNeg (V 0 51)))).toInt ≤ 8 := hMV 27 (Int32.toNatClampNeg (V 0 51))
                                refine lv_iconst (v := 1) hx hb dX12_partWithin_215 (by decide) ?_
                                refine lv_isub hx hb dX12_partWithin_216 ?_
                                refine lv_topi (fun z530 ez530 => ?_)
                                have hz530 : z530.toInt = ((V 27 (Int32.toNatClampNeg (V 0 51)))).toInt - 1 := i_sub ez530 rfl (by decide) (by omega)
                                have r531 : Int32.toInt 0 = 0 := by decide
                                refine gA_int (gA_runV (As := [.int 0, .int z530]) (rest := []) (ci := 12) (q0 := 0) hx hb hml hown hg hP hD hK hS hA hnw hgk (s_takeNumberA l D ks H.size ad kk V513 L 0 z530 (bq) (gn) (gT) ((nx gs 1)) (gl) hMV513 rl517 (show -1 ≤ z530.toInt ∧ z530.toInt ≤ 999999999 from by omega) (show 0 ≤ (Int32.toInt 0) from by omega)) w2088 w2090 w98 w172 w2091 rfl rfl hdV_yX12_takeNumber ⟨(by show 1 + 1 ≤ 10 * dd + 15; omega), (by show 8 + (3 + 11) + (21) ≤ 300 * dd + 500; omega)⟩ rfl hl.1 rfl (Nat.le_of_ble_eq_true rfl) dX12_partWithin_217 ⟨Nat.le_of_ble_eq_true rfl, Nat.le_of_ble_eq_true rfl⟩) hP hD hK hS hA (fun z532 u533 H locs w534 hP hD hK hS => ?_)
                                obtain ⟨V539, L540⟩ := u533
                                obtain ⟨hMV539, ajV539, axL540, t535, t536, t537, t538⟩ := w534
                                have axL540 : L = L540 := Eq.symm axL540
                                subst axL540
                                have hP : va_P D vwCl (mw ad kk ks.1 V539 L) H := hP
                                have hD : va_D A (mw ad kk ks.1 V539 L) := hD
                                have hMV539 : rgd bM V539 := hMV539
                                have ajV539 : agr [(0, 7), (0, 8)] [] V513 V539 := ajV539
                                have agV539 : agr [(0, 7), (0, 8), (0, 48), (0, 50)] [35, 36, 37, 38, 45, 46, 47] V V539 := agV513.tr ajV539 (by decide) (by decide)
                                have t535 : ((V539 0 8).toInt = 0 ∧ (gT).1 (((nx gs 1)).1 0) = 2 ∧ (Int32.toInt 0) ≤ ((gT).2.1 (((nx gs 1)).1 0)).toInt ∧ ((gT).2.1 (((nx gs 1)).1 0)).toInt ≤ z530.toInt ∧ RelM V539 L (bq) (gn) (gT) (nx ((nx gs 1)) 1) (gl)) ∨ (1 ≤ (V539 0 8).toInt ∧ (((gT).1 (((nx gs 1)).1 0) ≠ 2 ∧ (V539 0 8).toInt = 1 + 16 * (gT).2.2 (((nx gs 1)).1 0)) ∨ ((gT).1 (((nx gs 1)).1 0) = 2 ∧ (((gT).2.1 (((nx gs 1)).1 0)).toInt < (Int32.toInt 0) ∨ z530.toInt < ((gT).2.1 (((nx gs 1)).1 0)).toInt) ∧ (V539 0 8).toInt = 4 + 16 * (gT).2.2 (((nx gs 1)).1 0)))) := t535
                                have t536 : Imp ((V539 0 8).toInt = 0) ((Int32.toInt 0) ≤ z532.toInt ∧ z532.toInt ≤ z530.toInt) := t536
                                have t537 : Imp (1 ≤ (V539 0 8).toInt) (z532.toInt = 0) := t537
                                have t538 : Imp ((V539 0 8).toInt = 0) (z532.toInt = ((gT).2.1 (((nx gs 1)).1 0)).toInt) := t538
                                have r541 : 0 ≤ ((V539 0 8)).toInt ∧ ((V539 0 8)).toInt ≤ 70000 := hMV539 0 8
                                rcases t535 with ⟨q542, h543, h544, h545, rl546⟩ | ⟨q542, ⟨h543, rl546⟩ | ⟨h543, h544, rl546⟩⟩
                                · skip
                                  have hr547 : ∀ k, Rc gT (Crun gs (Ipart gd :: k)) (Crun (nx (nx gs 1) 1) (Itake 46 :: Imeth :: Itake 40 :: Iexpr (gd + 1) :: Itake 41 :: k)) := fun k => Rc.go1 (hr528 k) (nm_y h543 (by omega) (by omega))
                                  have nw548 := Imp.go t538 q542
                                  have ps549 : (nx (nx gs 1) 1).1 0 = (nx gs 1).1 0 + 1 := rfl
                                  have fz550 := RelM.rg rl546
                                  have nr551 := Imp.go t536 q542
                                  refine lv_istore_n (lv' := [(2, .int z532), (0, .ref (ad 0))]) hx hb dX12_partWithin_220 rfl hl (by decide) rfl (fun ls hl => ?_)
                                  refine lv_aload_n hx hb dX12_partWithin_221 rfl (lv_at hl 1 rfl) ?_
                                  refine lv_bipush (v := 46) hx hb dX12_partWithin_222 (by decide) ?_
                                  have r552 : Int32.toInt 46 = 46 := by decide
                                  refine gA_void (gA_runV (As := [.int 46]) (rest := []) (ci := 12) (q0 := 0) hx hb hml hown hg hP hD hK hS hA hnw hgk (s_takeSignA l D ks H.size ad kk V539 L 46 (bq) (gn) (gT) ((nx (nx gs 1) 1)) (gl) hMV539 rl546 (sg_yes (j := 46) (by decide) (by decide) (by decide))) w2079 w2081 w96 w172 w2082 rfl rfl hdV_yX12_takeSign ⟨(by show 1 + 1 ≤ 10 * dd + 15; omega), (by show 8 + (2 + 11) + (21) ≤ 300 * dd + 500; omega)⟩ rfl hl.1 rfl (Nat.le_of_ble_eq_true rfl) dX12_partWithin_224 ⟨Nat.le_of_ble_eq_true rfl, Nat.le_of_ble_eq_true rfl⟩) hP hD hK hS hA (fun u554 H locs w555 hP hD hK hS => ?_)
                                  obtain ⟨V557, L558⟩ := u554
                                  obtain ⟨hMV557, ajV557, axL558, t556⟩ := w555
                                  have axL558 : L = L558 := Eq.symm axL558
                                  subst axL558
                                  have hP : va_P D vwCl (mw ad kk ks.1 V557 L) H := hP
                                  have hD : va_D A (mw ad kk ks.1 V557 L) := hD
                                  have hMV557 : rgd bM V557 := hMV557
                                  have ajV557 : agr [(0, 7), (0, 8)] [] V539 V557 := ajV557
                                  have agV557 : agr [(0, 7), (0, 8), (0, 48), (0, 50)] [35, 36, 37, 38, 45, 46, 47] V V557 := agV539.tr ajV557 (by decide) (by decide)
                                  have t556 : ((V557 0 8).toInt = 0 ∧ (gT).1 (((nx (nx gs 1) 1)).1 0) = (Int32.toInt 46) ∧ RelM V557 L (bq) (gn) (gT) (nx ((nx (nx gs 1) 1)) 1) (gl)) ∨ (1 ≤ (V557 0 8).toInt ∧ (gT).1 (((nx (nx gs 1) 1)).1 0) ≠ (Int32.toInt 46) ∧ (V557 0 8).toInt = 1 + 16 * (gT).2.2 (((nx (nx gs 1) 1)).1 0)) := t556
                                  rcases t556 with ⟨q559, h560, rl561⟩ | ⟨q559, h560, rl561⟩
                                  · skip
                                    have kd562 : gT.1 ((nx (nx gs 1) 1).1 0) = 46 := h560.trans (by decide)
                                    have hr563 : ∀ k, Rc gT (Crun gs (Ipart gd :: k)) (Crun (nx (nx (nx gs 1) 1) 1) (Imeth :: Itake 40 :: Iexpr (gd + 1) :: Itake 41 :: k)) := fun k => Rc.go1 (hr547 k) (tk_y kd562)
                                    have ps564 : (nx (nx (nx gs 1) 1) 1).1 0 = (nx (nx gs 1) 1).1 0 + 1 := rfl
                                    have fz565 := RelM.rg rl561
                                    have r566 : 0 ≤ ((V557 0 8)).toInt ∧ ((V557 0 8)).toInt ≤ 70000 := hMV557 0 8
                                    refine lv_aload_n hx hb dX12_partWithin_227 rfl (lv_at hl 1 rfl) ?_
                                    refine lv_aload_n hx hb dX12_partWithin_228 rfl (lv_at hl 1 rfl) ?_
                                    refine va_get (D := D) (ci := 12) (v := .ref (ad 36)) (C := RX12) (T := TX12) (N := 100) hx hb hg inX12 hown hK hP 0 rfl rfl 36 (by decide) (hg _ w1746) (fun _ h9 => h9) rfl dX12_partWithin_229 ?_
                                    refine lv_aload_n hx hb dX12_partWithin_232 rfl (lv_at hl 1 rfl) ?_
                                    refine va_get (D := D) (ci := 12) (v := .ref (ad 35)) (C := RX12) (T := TX12) (N := 100) hx hb hg inX12 hown hK hP 0 rfl rfl 35 (by decide) (hg _ w1745) (fun _ h9 => h9) rfl dX12_partWithin_233 ?_
                                    refine gA_int (gA_runV (As := [.ref (ad 36), .ref (ad 35)]) (rest := []) (ci := 12) (q0 := 0) hx hb hml hown hg hP hD hK hS hA hnw hgk (s_takeWordOf3 l D ks H.size ad kk V557 L (bq) (gn) (gT) ((nx (nx (nx gs 1) 1) 1)) (gl) hMV557 rl561) w2104 w2106 w102 w172 w2107 rfl rfl hdV_yX12_takeWordOf ⟨(by show 1 + 1 ≤ 10 * dd + 15; omega), (by show 8 + (4 + 11) + (27) ≤ 300 * dd + 500; omega)⟩ rfl hl.1 rfl (Nat.le_of_ble_eq_true rfl) dX12_partWithin_236 ⟨Nat.le_of_ble_eq_true rfl, Nat.le_of_ble_eq_true rfl⟩) hP hD hK hS hA (fun z567 u568 H locs w569 hP hD hK hS => ?_)
                                    obtain ⟨V575, L576⟩ := u568
                                    obtain ⟨hMV575, ajV575, axL576, rgz567, t570, t571, t572, t573, t574⟩ := w569
                                    have alL576 : agL [35, 36, 37, 38, 45, 46, 47] L L576 := agL.tr alL axL576 (by decide)
                                    have hP : va_P D vwCl (mw ad kk ks.1 V575 L576) H := hP
                                    have hD : va_D A (mw ad kk ks.1 V575 L576) := hD
                                    have hMV575 : rgd bM V575 := hMV575
                                    have ajV575 : agr [(0, 7), (0, 8)] [35, 36, 37, 38] V557 V575 := ajV575
                                    have agV575 : agr [(0, 7), (0, 8), (0, 48), (0, 50)] [35, 36, 37, 38, 45, 46, 47] V V575 := agV557.tr ajV575 (by decide) (by decide)
                                    have rgz567 : (-1) ≤ z567.toInt ∧ z567.toInt ≤ 19 := rgz567
                                    have t570 : KmS (mthW (gT) ((nx (nx (nx gs 1) 1) 1)) 3) (V575 0 8).toInt (fun x9 => RelM V575 L576 (bq) (gn) (gT) x9.2 (gl) ∧ z567.toInt = ((x9.1 : Nat) : Int) ∧ x9.1 < 20 ∧ keepS ((nx (nx (nx gs 1) 1) 1)) 1 x9.2 ∧ MTX (gT) ((nx (nx (nx gs 1) 1) 1)) 3 x9) := t570
                                    have t571 : RoV 35 (bq) V557 V575 := t571
                                    have t572 : RoV 37 (bq) V557 V575 := t572
                                    have t573 : RoL 36 20 (bq) L L576 := t573
                                    have t574 : RoL 38 20 (bq) L L576 := t574
                                    rcases t570 with ⟨q577, mx578, h579, rl580, hf581, hb582, kp583, mt584⟩ | ⟨q577, h579⟩
                                    · skip
                                      have ps585 := kp583.1
                                      have hr586 : ∀ k, Rc gT (Crun gs (Ipart gd :: k)) (Crun mx578.2 (Itake 40 :: Iexpr (gd + 1) :: Itake 41 :: k)) := fun k => Rc.go1 (hr563 k) (me_y h579)
                                      have fz587 := RelM.rg rl580
                                      have r588 : 0 ≤ ((V575 0 8)).toInt ∧ ((V575 0 8)).toInt ≤ 70000 := hMV575 0 8
                                      refine lv_istore_n (lv' := [(3, .int z567), (2, .int z532), (0, .ref (ad 0))]) hx hb dX12_partWithin_239 rfl hl (by decide) rfl (fun ls hl => ?_)
                                      refine lv_aload_n hx hb dX12_partWithin_240 rfl (lv_at hl 2 rfl) ?_
                                      have pq589 : (V575 0 48).toInt = ((V 0 48)).toInt := congrArg Int32.toInt ((ajV575 0 48 rfl).trans ((ajV557 0 48 rfl).trans ((ajV539 0 48 rfl).trans ((ajV513 0 48 rfl).trans ((ajV453 0 48 rfl).trans ((ajV362 0 48 rfl).trans ((ajV248 0 48 rfl).trans ((ajV202 0 48 rfl).trans ((ajV109 0 48 rfl).trans (ajV11 0 48 rfl))))))))))
                                      have pq590 : (V575 0 50).toInt = ((V 0 50)).toInt := congrArg Int32.toInt ((ajV575 0 50 rfl).trans ((ajV557 0 50 rfl).trans ((ajV539 0 50 rfl).trans ((ajV513 0 50 rfl).trans ((ajV453 0 50 rfl).trans ((ajV362 0 50 rfl).trans ((ajV248 0 50 rfl).trans ((ajV202 0 50 rfl).trans ((ajV109 0 50 rfl).trans (ajV11 0 50 rfl))))))))))
                                      refine gA_void (gA_runV (As := []) (rest := []) (ci := 12) (q0 := 0) hx hb hml hown hg hP hD hK hS hA hnw hgk (hk_s_bracketedA H.size ad kk V575 L576 (bq) (gn) (gT) (mx578.2) (gl) ((gd + 1)) hMV575 rl580 (show (V575 0 48).toInt ≤ 2 * (V575 0 7).toInt from by first | omega | ((try (have i_t537 := Imp.go t537 (by omega))); (try (have i_t536 := Imp.go t536 (by omega))); (try (have i_t536 := Imp.go t536 (by omega))); (try (have i_t537 := Imp.go t537 (by omega))); omega)) (show (V575 0 50).toInt = (((gd + 1)) : Int) from by first | omega | ((try (have i_t537 := Imp.go t537 (by omega))); (try (have i_t536 := Imp.go t536 (by omega))); (try (have i_t536 := Imp.go t536 (by omega))); (try (have i_t537 := Imp.go t537 (by omega))); omega)) (show (V575 0 50).toInt + (dd : Int) = 8 from by first | omega | ((try (have i_t537 := Imp.go t537 (by omega))); (try (have i_t536 := Imp.go t536 (by omega))); (try (have i_t536 := Imp.go t536 (by omega))); (try (have i_t537 := Imp.go t537 (by omega))); omega)) (EM.mv em ((ajV575 0 51 rfl).trans ((ajV557 0 51 rfl).trans ((ajV539 0 51 rfl).trans ((ajV513 0 51 rfl).trans ((ajV453 0 51 rfl).trans ((ajV362 0 51 rfl).trans ((ajV248 0 51 rfl).trans ((ajV202 0 51 rfl).trans ((ajV109 0 51 rfl).trans (ajV11 0 51 rfl)))))))))) ((ajV575 0 52 rfl).trans ((ajV557 0 52 rfl).trans ((ajV539 0 52 rfl).trans ((ajV513 0 52 rfl).trans ((ajV453 0 52 rfl).trans ((ajV362 0 52 rfl).trans ((ajV248 0 52 rfl).trans ((ajV202 0 52 rfl).trans ((ajV109 0 52 rfl).trans (ajV11 0 52 rfl)))))))))) (by rw [(funext (fun q => ajV575 27 q rfl) : V575 27 = V557 27), (funext (fun q => ajV557 27 q rfl) : V557 27 = V539 27), (funext (fun q => ajV539 27 q rfl) : V539 27 = V513 27), (funext (fun q => ajV513 27 q rfl) : V513 27 = V453 27), (funext (fun q => ajV453 27 q rfl) : V453 27 = V362 27), (funext (fun q => ajV362 27 q rfl) : V362 27 = V248 27), (funext (fun q => ajV248 27 q rfl) : V248 27 = V202 27), (funext (fun q => ajV202 27 q rfl) : V202 27 = V109 27), (funext (fun q => ajV109 27 q rfl) : V109 27 = V11 27), (funext (fun q => ajV11 27 q rfl) : V11 27 = V 27)] : V575 27 = V 27) ((keepS.tr (keepS.tr (keepS.tr (keepS.tr (keepS.rf : keepS gs 0 gs) (keepS.n1 1)) (keepS.n1 1)) (keepS.n1 1)) kp583)).2.1)) w2152 w2154 w114 w172 w2155 rfl rfl hdV_yX12_bracketed ⟨(by show 10 * dd + 14 + 1 ≤ 10 * dd + 15; omega), (by show 8 + (1 + 11) + (300 * dd + 460) ≤ 300 * dd + 500; omega)⟩ rfl hl.1 rfl (Nat.le_of_ble_eq_true rfl) dX12_partWithin_241 ⟨Nat.le_of_ble_eq_true rfl, Nat.le_of_ble_eq_true rfl⟩) hP hD hK hS hA (fun u592 H locs w593 hP hD hK hS => ?_)
                                      obtain ⟨V603, L604⟩ := u592
                                      obtain ⟨hMV603, ajV603, axL604, t594, t595, t596, t597, t598, t599, t600, t601, t602⟩ := w593
                                      have alL604 : agL [35, 36, 37, 38, 45, 46, 47] L L604 := agL.tr alL576 axL604 (by decide)
                                      have hP : va_P D vwCl (mw ad kk ks.1 V603 L604) H := hP
                                      have hD : va_D A (mw ad kk ks.1 V603 L604) := hD
                                      have hMV603 : rgd bM V603 := hMV603
                                      have ajV603 : agr [(0, 7), (0, 8), (0, 48), (0, 50)] [35, 36, 37, 38, 45, 46, 47] V575 V603 := ajV603
                                      have agV603 : agr [(0, 7), (0, 8), (0, 48), (0, 50)] [35, 36, 37, 38, 45, 46, 47] V V603 := agV575.tr ajV603 (by decide) (by decide)
                                      have t594 : Imp ((V603 0 8).toInt = 0) ((V603 0 48).toInt - (V575 0 48).toInt ≤ 2 * ((V603 0 7).toInt - (V575 0 7).toInt)) := t594
                                      have t595 : (V603 0 48).toInt ≤ 8052 - 6 * (V575 0 50).toInt := t595
                                      have t596 : (V603 0 50).toInt = (V575 0 50).toInt := t596
                                      have t597 : (V575 0 48).toInt ≤ (V603 0 48).toInt := t597
                                      have t598 : RdM (gT) (mx578.2) (fun k => Itake 40 :: Iexpr ((gd + 1)) :: Itake 41 :: k) (fun k => k) (V603 0 8).toInt (fun s9 => RelM V603 L604 (bq) (gn) (gT) s9 (gl) ∧ keepS (mx578.2) 1 s9) := t598
                                      have t599 : RoV 35 (bq) V575 V603 := t599
                                      have t600 : RoV 37 (bq) V575 V603 := t600
                                      have t601 : RoL 36 20 (bq) L576 L604 := t601
                                      have t602 : RoL 38 20 (bq) L576 L604 := t602
                                      have r605 : 0 ≤ ((V603 0 48)).toInt ∧ ((V603 0 48)).toInt ≤ 10000 := hMV603 0 48
                                      have r606 : 0 ≤ ((V603 0 8)).toInt ∧ ((V603 0 8)).toInt ≤ 70000 := hMV603 0 8
                                      have r607 : 0 ≤ ((V603 0 50)).toInt ∧ ((V603 0 50)).toInt ≤ 9 := hMV603 0 50
                                      rcases t598 with ⟨q608, sx609, h610, rl611, kp612⟩ | ⟨q608, h610⟩
                                      · skip
                                        have hr613 : ∀ k, Rc gT (Crun gs (Ipart gd :: k)) (Crun sx609 (k)) := fun k => (hr586 k).tr (h610 (k))
                                        have fz614 := RelM.rg rl611
                                        have ps615 := (kp612).1
                                        refine lv_aload_n hx hb dX12_partWithin_244 rfl (lv_at hl 2 rfl) ?_
                                        refine lv_bipush (v := 14) hx hb dX12_partWithin_245 (by decide) ?_
                                        refine lv_iload_n hx hb dX12_partWithin_247 rfl (lv_at hl 1 rfl) ?_
                                        refine lv_iload_n hx hb dX12_partWithin_248 rfl (lv_at hl 0 rfl) ?_
                                        have r616 : Int32.toInt 14 = 14 := by decide
                                        refine gA_int (gA_runV (As := [.int 14, .int z532, .int z567]) (rest := []) (ci := 12) (q0 := 0) hx hb hml hown hg hP hD hK hS hA hnw hgk (s_emit3 l D ks H.size ad kk V603 L604 14 z532 z567 hMV603 (show (V603 0 48).toInt ≤ 9999 from by first | omega | ((try (have i_t594 := Imp.go t594 (by omega))); (try (have i_t537 := Imp.go t537 (by omega))); (try (have i_t536 := Imp.go t536 (by omega))); (try (have i_t536 := Imp.go t536 (by omega))); (try (have i_t537 := Imp.go t537 (by omega))); (try (have i_t594 := Imp.go t594 (by omega))); omega))) w2140 w2142 w111 w172 w2143 rfl rfl hdV_yX12_emit ⟨(by show 0 + 1 ≤ 10 * dd + 15; omega), (by show 8 + (4 + 11) + (0) ≤ 300 * dd + 500; omega)⟩ rfl hl.1 rfl (Nat.le_of_ble_eq_true rfl) dX12_partWithin_249 ⟨Nat.le_of_ble_eq_true rfl, Nat.le_of_ble_eq_true rfl⟩) hP hD hK hS hA (fun z617 u618 H locs w619 hP hD hK hS => ?_)
                                        obtain ⟨V623, L624⟩ := u618
                                        obtain ⟨hMV623, ajV623, axL624, rgz617, t620, t621, t622⟩ := w619
                                        have axL624 : L604 = L624 := Eq.symm axL624
                                        subst axL624
                                        have hP : va_P D vwCl (mw ad kk ks.1 V623 L604) H := hP
                                        have hD : va_D A (mw ad kk ks.1 V623 L604) := hD
                                        have hMV623 : rgd bM V623 := hMV623
                                        have ajV623 : agr [(0, 48)] [45, 46, 47] V603 V623 := ajV623
                                        have agV623 : agr [(0, 7), (0, 8), (0, 48), (0, 50)] [35, 36, 37, 38, 45, 46, 47] V V623 := agV603.tr ajV623 (by decide) (by decide)
                                        have rgz617 : 0 ≤ z617.toInt ∧ z617.toInt ≤ 20000 := rgz617
                                        have t620 : (V623 0 48).toInt = (V603 0 48).toInt + 1 := t620
                                        have t621 : z617.toInt = (V603 0 49).toInt + (V603 0 48).toInt := t621
                                        have t622 : emitted V603 V623 (pA V603) 14 z532 z567 := t622
                                        have r625 : 0 ≤ ((V623 0 48)).toInt ∧ ((V623 0 48)).toInt ≤ 10000 := hMV623 0 48
                                        have pq626 : (V603 0 49).toInt = ((V 0 49)).toInt := congrArg Int32.toInt ((ajV603 0 49 rfl).trans ((ajV575 0 49 rfl).trans ((ajV557 0 49 rfl).trans ((ajV539 0 49 rfl).trans ((ajV513 0 49 rfl).trans ((ajV453 0 49 rfl).trans ((ajV362 0 49 rfl).trans ((ajV248 0 49 rfl).trans ((ajV202 0 49 rfl).trans ((ajV109 0 49 rfl).trans (ajV11 0 49 rfl)))))))))))
                                        have r627 : 0 ≤ ((V 0 49)).toInt ∧ ((V 0 49)).toInt ≤ 10000 := hMV 0 49
                                        refine lv_istore_n (lv' := [(1, .int z617), (3, .int z567), (2, .int z532), (0, .ref (ad 0))]) hx hb dX12_partWithin_252 rfl hl (by decide) rfl (fun ls hl => ?_)
                                        refine lv_goto (tgt := 275) hx hb dX12_partWithin_253 (by decide) ?_
                                        have pq628 : (V623 0 7).toInt = ((V603 0 7)).toInt := congrArg Int32.toInt (ajV623 0 7 rfl)
                                        have pq629 : (V623 0 8).toInt = ((V603 0 8)).toInt := congrArg Int32.toInt (ajV623 0 8 rfl)
                                        have pq630 : (V623 0 50).toInt = ((V603 0 50)).toInt := congrArg Int32.toInt (ajV623 0 50 rfl)
                                        have rl631 : RelM V623 L604 bq gn gT sx609 gl := RelM.ag rl611 (show agr [(0, 48)] [45, 46, 47] V603 V623 from (agr.tr agr.rf ajV623 (by decide) (by decide))) (by decide) (show agL [] L604 L604 from agL.rf) (by decide)
                                        have rw632 : RoV 35 bq V V623 := (fun k hk => ((ajV623 35 k rfl).trans ((t599 k hk).trans ((t571 k hk).trans ((ajV557 35 k rfl).trans ((ajV539 35 k rfl).trans ((ajV513 35 k rfl).trans ((ajV453 35 k rfl).trans ((ajV362 35 k rfl).trans ((ajV248 35 k rfl).trans ((ajV202 35 k rfl).trans ((ajV109 35 k rfl).trans ((ajV11 35 k rfl).trans rfl)))))))))))))
                                        have rw633 : RoV 37 bq V V623 := (fun k hk => ((ajV623 37 k rfl).trans ((t600 k hk).trans ((t572 k hk).trans ((ajV557 37 k rfl).trans ((ajV539 37 k rfl).trans ((ajV513 37 k rfl).trans ((ajV453 37 k rfl).trans ((ajV362 37 k rfl).trans ((ajV248 37 k rfl).trans ((ajV202 37 k rfl).trans ((ajV109 37 k rfl).trans ((ajV11 37 k rfl).trans rfl)))))))))))))
                                        have rw634 : RoL 36 20 bq L L604 := (fun k hk => ((t601 k hk).trans ((t573 k hk).trans rfl)))
                                        have rw635 : RoL 38 20 bq L L604 := (fun k hk => ((t602 k hk).trans ((t574 k hk).trans rfl)))
                                        exact W.vret hx hb hr (fun t ht hW => ⟨⟨(V623, L604), rfl, ⟨hMV623, agV623, alL604, (Imp.mk (fun hp => have hp : (V623 0 8).toInt = 0 := hp; (show (V623 0 48).toInt - (V 0 48).toInt + 1 ≤ 2 * ((V623 0 7).toInt - (V 0 7).toInt) from by first | omega | ((try (have i_t594 := Imp.go t594 (by omega))); (try (have i_t537 := Imp.go t537 (by omega))); (try (have i_t536 := Imp.go t536 (by omega))); (try (have i_t536 := Imp.go t536 (by omega))); (try (have i_t537 := Imp.go t537 (by omega))); (try (have i_t594 := Imp.go t594 (by omega))); omega)))), (show (V623 0 48).toInt ≤ 8054 - 6 * (V 0 50).toInt from by first | omega | ((try (have i_t594 := Imp.go t594 (by omega))); (try (have i_t537 := Imp.go t537 (by omega))); (try (have i_t536 := Imp.go t536 (by omega))); (try (have i_t536 := Imp.go t536 (by omega))); (try (have i_t537 := Imp.go t537 (by omega))); (try (have i_t594 := Imp.go t594 (by omega))); omega)), (show (V623 0 50).toInt = (V 0 50).toInt from by first | omega | ((try (have i_t594 := Imp.go t594 (by omega))); (try (have i_t537 := Imp.go t537 (by omega))); (try (have i_t536 := Imp.go t536 (by omega))); (try (have i_t536 := Imp.go t536 (by omega))); (try (have i_t537 := Imp.go t537 (by omega))); (try (have i_t594 := Imp.go t594 (by omega))); omega)), (show (V 0 48).toInt ≤ (V623 0 48).toInt from by first | omega | ((try (have i_t594 := Imp.go t594 (by omega))); (try (have i_t537 := Imp.go t537 (by omega))); (try (have i_t536 := Imp.go t536 (by omega))); (try (have i_t536 := Imp.go t536 (by omega))); (try (have i_t537 := Imp.go t537 (by omega))); (try (have i_t594 := Imp.go t594 (by omega))); omega)), (Or.inl ⟨W0 rl631, sx609, hr613, rl631, keepS.le (keepS.tr (keepS.tr (keepS.tr (keepS.tr (keepS.tr (keepS.rf : keepS gs 0 gs) (keepS.n1 1)) (keepS.n1 1)) (keepS.n1 1)) kp583) kp612) (by decide)⟩), rw632, rw633, rw634, rw635⟩, by rw [ht]; exact hP, va_K.moved hW.alike hK, hD⟩, hS.F ht⟩) hS.2.2 dX12_partWithin_275
                                      · skip
                                        have hb636 : ∀ k, Rc gT (Crun gs (Ipart gd :: k)) (Cbad (V603 0 8).toInt) := fun k => (hr586 k).tr (h610 (k))
                                        refine lv_aload_n hx hb dX12_partWithin_244 rfl (lv_at hl 2 rfl) ?_
                                        refine lv_bipush (v := 14) hx hb dX12_partWithin_245 (by decide) ?_
                                        refine lv_iload_n hx hb dX12_partWithin_247 rfl (lv_at hl 1 rfl) ?_
                                        refine lv_iload_n hx hb dX12_partWithin_248 rfl (lv_at hl 0 rfl) ?_
                                        have r637 : Int32.toInt 14 = 14 := by decide
                                        refine gA_int (gA_runV (As := [.int 14, .int z532, .int z567]) (rest := []) (ci := 12) (q0 := 0) hx hb hml hown hg hP hD hK hS hA hnw hgk (s_emit3 l D ks H.size ad kk V603 L604 14 z532 z567 hMV603 (show (V603 0 48).toInt ≤ 9999 from by first | omega | ((try (have i_t594 := Imp.go t594 (by omega))); (try (have i_t537 := Imp.go t537 (by omega))); (try (have i_t536 := Imp.go t536 (by omega))); (try (have i_t536 := Imp.go t536 (by omega))); (try (have i_t537 := Imp.go t537 (by omega))); (try (have i_t594 := Imp.go t594 (by omega))); omega))) w2140 w2142 w111 w172 w2143 rfl rfl hdV_yX12_emit ⟨(by show 0 + 1 ≤ 10 * dd + 15; omega), (by show 8 + (4 + 11) + (0) ≤ 300 * dd + 500; omega)⟩ rfl hl.1 rfl (Nat.le_of_ble_eq_true rfl) dX12_partWithin_249 ⟨Nat.le_of_ble_eq_true rfl, Nat.le_of_ble_eq_true rfl⟩) hP hD hK hS hA (fun z638 u639 H locs w640 hP hD hK hS => ?_)
                                        obtain ⟨V644, L645⟩ := u639
                                        obtain ⟨hMV644, ajV644, axL645, rgz638, t641, t642, t643⟩ := w640
                                        have axL645 : L604 = L645 := Eq.symm axL645
                                        subst axL645
                                        have hP : va_P D vwCl (mw ad kk ks.1 V644 L604) H := hP
                                        have hD : va_D A (mw ad kk ks.1 V644 L604) := hD
                                        have hMV644 : rgd bM V644 := hMV644
                                        have ajV644 : agr [(0, 48)] [45, 46, 47] V603 V644 := ajV644
                                        have agV644 : agr [(0, 7), (0, 8), (0, 48), (0, 50)] [35, 36, 37, 38, 45, 46, 47] V V644 := agV603.tr ajV644 (by decide) (by decide)
                                        have rgz638 : 0 ≤ z638.toInt ∧ z638.toInt ≤ 20000 := rgz638
                                        have t641 : (V644 0 48).toInt = (V603 0 48).toInt + 1 := t641
                                        have t642 : z638.toInt = (V603 0 49).toInt + (V603 0 48).toInt := t642
                                        have t643 : emitted V603 V644 (pA V603) 14 z532 z567 := t643
                                        have r646 : 0 ≤ ((V644 0 48)).toInt ∧ ((V644 0 48)).toInt ≤ 10000 := hMV644 0 48
                                        have pq647 : (V603 0 49).toInt = ((V 0 49)).toInt := congrArg Int32.toInt ((ajV603 0 49 rfl).trans ((ajV575 0 49 rfl).trans ((ajV557 0 49 rfl).trans ((ajV539 0 49 rfl).trans ((ajV513 0 49 rfl).trans ((ajV453 0 49 rfl).trans ((ajV362 0 49 rfl).trans ((ajV248 0 49 rfl).trans ((ajV202 0 49 rfl).trans ((ajV109 0 49 rfl).trans (ajV11 0 49 rfl)))))))))))
                                        have r648 : 0 ≤ ((V 0 49)).toInt ∧ ((V 0 49)).toInt ≤ 10000 := hMV 0 49
                                        refine lv_istore_n (lv' := [(1, .int z638), (3, .int z567), (2, .int z532), (0, .ref (ad 0))]) hx hb dX12_partWithin_252 rfl hl (by decide) rfl (fun ls hl => ?_)
                                        refine lv_goto (tgt := 275) hx hb dX12_partWithin_253 (by decide) ?_
                                        have pq649 : (V644 0 7).toInt = ((V603 0 7)).toInt := congrArg Int32.toInt (ajV644 0 7 rfl)
                                        have pq650 : (V644 0 8).toInt = ((V603 0 8)).toInt := congrArg Int32.toInt (ajV644 0 8 rfl)
                                        have pq651 : (V644 0 50).toInt = ((V603 0 50)).toInt := congrArg Int32.toInt (ajV644 0 50 rfl)
                                        have rw652 : RoV 35 bq V V644 := (fun k hk => ((ajV644 35 k rfl).trans ((t599 k hk).trans ((t571 k hk).trans ((ajV557 35 k rfl).trans ((ajV539 35 k rfl).trans ((ajV513 35 k rfl).trans ((ajV453 35 k rfl).trans ((ajV362 35 k rfl).trans ((ajV248 35 k rfl).trans ((ajV202 35 k rfl).trans ((ajV109 35 k rfl).trans ((ajV11 35 k rfl).trans rfl)))))))))))))
                                        have rw653 : RoV 37 bq V V644 := (fun k hk => ((ajV644 37 k rfl).trans ((t600 k hk).trans ((t572 k hk).trans ((ajV557 37 k rfl).trans ((ajV539 37 k rfl).trans ((ajV513 37 k rfl).trans ((ajV453 37 k rfl).trans ((ajV362 37 k rfl).trans ((ajV248 37 k rfl).trans ((ajV202 37 k rfl).trans ((ajV109 37 k rfl).trans ((ajV11 37 k rfl).trans rfl)))))))))))))
                                        have rw654 : RoL 36 20 bq L L604 := (fun k hk => ((t601 k hk).trans ((t573 k hk).trans rfl)))
                                        have rw655 : RoL 38 20 bq L L604 := (fun k hk => ((t602 k hk).trans ((t574 k hk).trans rfl)))
                                        exact W.vret hx hb hr (fun t ht hW => ⟨⟨(V644, L604), rfl, ⟨hMV644, agV644, alL604, (Imp.mk (fun hp => have hp : (V644 0 8).toInt = 0 := hp; (show (V644 0 48).toInt - (V 0 48).toInt + 1 ≤ 2 * ((V644 0 7).toInt - (V 0 7).toInt) from by first | omega | ((try (have i_t594 := Imp.go t594 (by omega))); (try (have i_t537 := Imp.go t537 (by omega))); (try (have i_t536 := Imp.go t536 (by omega))); (try (have i_t536 := Imp.go t536 (by omega))); (try (have i_t537 := Imp.go t537 (by omega))); (try (have i_t594 := Imp.go t594 (by omega))); omega)))), (show (V644 0 48).toInt ≤ 8054 - 6 * (V 0 50).toInt from by first | omega | ((try (have i_t594 := Imp.go t594 (by omega))); (try (have i_t537 := Imp.go t537 (by omega))); (try (have i_t536 := Imp.go t536 (by omega))); (try (have i_t536 := Imp.go t536 (by omega))); (try (have i_t537 := Imp.go t537 (by omega))); (try (have i_t594 := Imp.go t594 (by omega))); omega)), (show (V644 0 50).toInt = (V 0 50).toInt from by first | omega | ((try (have i_t594 := Imp.go t594 (by omega))); (try (have i_t537 := Imp.go t537 (by omega))); (try (have i_t536 := Imp.go t536 (by omega))); (try (have i_t536 := Imp.go t536 (by omega))); (try (have i_t537 := Imp.go t537 (by omega))); (try (have i_t594 := Imp.go t594 (by omega))); omega)), (show (V 0 48).toInt ≤ (V644 0 48).toInt from by first | omega | ((try (have i_t594 := Imp.go t594 (by omega))); (try (have i_t537 := Imp.go t537 (by omega))); (try (have i_t536 := Imp.go t536 (by omega))); (try (have i_t536 := Imp.go t536 (by omega))); (try (have i_t537 := Imp.go t537 (by omega))); (try (have i_t594 := Imp.go t594 (by omega))); omega)), (Or.inr ⟨(show 1 ≤ (V644 0 8).toInt from by omega), (fun k => by rw [show (V644 0 8).toInt = (V603 0 8).toInt from by omega]; exact hb636 k)⟩), rw652, rw653, rw654, rw655⟩, by rw [ht]; exact hP, va_K.moved hW.alike hK, hD⟩, hS.F ht⟩) hS.2.2 dX12_partWithin_275
                                    · skip
                                      have hb656 : ∀ k, Rc gT (Crun gs (Ipart gd :: k)) (Cbad (V575 0 8).toInt) := fun k => Rc.go1 (hr563 k) (me_b h579)
                                      have r657 : 0 ≤ ((V575 0 8)).toInt ∧ ((V575 0 8)).toInt ≤ 70000 := hMV575 0 8
                                      refine lv_istore_n (lv' := [(3, .int z567), (2, .int z532), (0, .ref (ad 0))]) hx hb dX12_partWithin_239 rfl hl (by decide) rfl (fun ls hl => ?_)
                                      refine lv_aload_n hx hb dX12_partWithin_240 rfl (lv_at hl 2 rfl) ?_
                                      have pq658 : (V575 0 50).toInt = ((V 0 50)).toInt := congrArg Int32.toInt ((ajV575 0 50 rfl).trans ((ajV557 0 50 rfl).trans ((ajV539 0 50 rfl).trans ((ajV513 0 50 rfl).trans ((ajV453 0 50 rfl).trans ((ajV362 0 50 rfl).trans ((ajV248 0 50 rfl).trans ((ajV202 0 50 rfl).trans ((ajV109 0 50 rfl).trans (ajV11 0 50 rfl))))))))))
                                      refine gA_void (gA_runV (As := []) (rest := []) (ci := 12) (q0 := 0) hx hb hml hown hg hP hD hK hS hA hnw hgk (s_bracketedB l D ks H.size ad kk V575 L576  hMV575 (show 1 ≤ (V575 0 8).toInt from by first | omega | ((try (have i_t537 := Imp.go t537 (by omega))); (try (have i_t536 := Imp.go t536 (by omega))); (try (have i_t536 := Imp.go t536 (by omega))); (try (have i_t537 := Imp.go t537 (by omega))); omega)) (show (V575 0 50).toInt ≤ 8 from by first | omega | ((try (have i_t537 := Imp.go t537 (by omega))); (try (have i_t536 := Imp.go t536 (by omega))); (try (have i_t536 := Imp.go t536 (by omega))); (try (have i_t537 := Imp.go t537 (by omega))); omega))) w2152 w2154 w114 w172 w2155 rfl rfl hdV_yX12_bracketed ⟨(by show 5 + 1 ≤ 10 * dd + 15; omega), (by show 8 + (1 + 11) + (108) ≤ 300 * dd + 500; omega)⟩ rfl hl.1 rfl (Nat.le_of_ble_eq_true rfl) dX12_partWithin_241 ⟨Nat.le_of_ble_eq_true rfl, Nat.le_of_ble_eq_true rfl⟩) hP hD hK hS hA (fun u660 H locs w661 hP hD hK hS => ?_)
                                      obtain ⟨V669, L670⟩ := u660
                                      obtain ⟨hMV669, ajV669, axL670, t662, t663, t664, t665, t666, t667, t668⟩ := w661
                                      have alL670 : agL [35, 36, 37, 38, 45, 46, 47] L L670 := agL.tr alL576 axL670 (by decide)
                                      have hP : va_P D vwCl (mw ad kk ks.1 V669 L670) H := hP
                                      have hD : va_D A (mw ad kk ks.1 V669 L670) := hD
                                      have hMV669 : rgd bM V669 := hMV669
                                      have ajV669 : agr [(0, 7), (0, 8), (0, 48), (0, 50)] [35, 36, 37, 38, 45, 46, 47] V575 V669 := ajV669
                                      have agV669 : agr [(0, 7), (0, 8), (0, 48), (0, 50)] [35, 36, 37, 38, 45, 46, 47] V V669 := agV575.tr ajV669 (by decide) (by decide)
                                      have t662 : (V669 0 48).toInt = (V575 0 48).toInt := t662
                                      have t663 : (V669 0 50).toInt = (V575 0 50).toInt := t663
                                      have t664 : (V669 0 8).toInt = (V575 0 8).toInt := t664
                                      have t665 : NoV 35 V575 V669 := t665
                                      have t666 : NoV 37 V575 V669 := t666
                                      have t667 : NoL 36 L576 L670 := t667
                                      have t668 : NoL 38 L576 L670 := t668
                                      have pq671 : (V575 0 48).toInt = ((V 0 48)).toInt := congrArg Int32.toInt ((ajV575 0 48 rfl).trans ((ajV557 0 48 rfl).trans ((ajV539 0 48 rfl).trans ((ajV513 0 48 rfl).trans ((ajV453 0 48 rfl).trans ((ajV362 0 48 rfl).trans ((ajV248 0 48 rfl).trans ((ajV202 0 48 rfl).trans ((ajV109 0 48 rfl).trans (ajV11 0 48 rfl))))))))))
                                      have r672 : 0 ≤ ((V669 0 48)).toInt ∧ ((V669 0 48)).toInt ≤ 10000 := hMV669 0 48
                                      have r673 : 0 ≤ ((V669 0 50)).toInt ∧ ((V669 0 50)).toInt ≤ 9 := hMV669 0 50
                                      have r674 : 0 ≤ ((V669 0 8)).toInt ∧ ((V669 0 8)).toInt ≤ 70000 := hMV669 0 8
                                      refine lv_aload_n hx hb dX12_partWithin_244 rfl (lv_at hl 2 rfl) ?_
                                      refine lv_bipush (v := 14) hx hb dX12_partWithin_245 (by decide) ?_
                                      refine lv_iload_n hx hb dX12_partWithin_247 rfl (lv_at hl 1 rfl) ?_
                                      refine lv_iload_n hx hb dX12_partWithin_248 rfl (lv_at hl 0 rfl) ?_
                                      have r675 : Int32.toInt 14 = 14 := by decide
                                      refine gA_int (gA_runV (As := [.int 14, .int z532, .int z567]) (rest := []) (ci := 12) (q0 := 0) hx hb hml hown hg hP hD hK hS hA hnw hgk (s_emit3 l D ks H.size ad kk V669 L670 14 z532 z567 hMV669 (show (V669 0 48).toInt ≤ 9999 from by first | omega | ((try (have i_t537 := Imp.go t537 (by omega))); (try (have i_t536 := Imp.go t536 (by omega))); (try (have i_t536 := Imp.go t536 (by omega))); (try (have i_t537 := Imp.go t537 (by omega))); omega))) w2140 w2142 w111 w172 w2143 rfl rfl hdV_yX12_emit ⟨(by show 0 + 1 ≤ 10 * dd + 15; omega), (by show 8 + (4 + 11) + (0) ≤ 300 * dd + 500; omega)⟩ rfl hl.1 rfl (Nat.le_of_ble_eq_true rfl) dX12_partWithin_249 ⟨Nat.le_of_ble_eq_true rfl, Nat.le_of_ble_eq_true rfl⟩) hP hD hK hS hA (fun z676 u677 H locs w678 hP hD hK hS => ?_)
                                      obtain ⟨V682, L683⟩ := u677
                                      obtain ⟨hMV682, ajV682, axL683, rgz676, t679, t680, t681⟩ := w678
                                      have axL683 : L670 = L683 := Eq.symm axL683
                                      subst axL683
                                      have hP : va_P D vwCl (mw ad kk ks.1 V682 L670) H := hP
                                      have hD : va_D A (mw ad kk ks.1 V682 L670) := hD
                                      have hMV682 : rgd bM V682 := hMV682
                                      have ajV682 : agr [(0, 48)] [45, 46, 47] V669 V682 := ajV682
                                      have agV682 : agr [(0, 7), (0, 8), (0, 48), (0, 50)] [35, 36, 37, 38, 45, 46, 47] V V682 := agV669.tr ajV682 (by decide) (by decide)
                                      have rgz676 : 0 ≤ z676.toInt ∧ z676.toInt ≤ 20000 := rgz676
                                      have t679 : (V682 0 48).toInt = (V669 0 48).toInt + 1 := t679
                                      have t680 : z676.toInt = (V669 0 49).toInt + (V669 0 48).toInt := t680
                                      have t681 : emitted V669 V682 (pA V669) 14 z532 z567 := t681
                                      have r684 : 0 ≤ ((V682 0 48)).toInt ∧ ((V682 0 48)).toInt ≤ 10000 := hMV682 0 48
                                      have pq685 : (V669 0 49).toInt = ((V 0 49)).toInt := congrArg Int32.toInt ((ajV669 0 49 rfl).trans ((ajV575 0 49 rfl).trans ((ajV557 0 49 rfl).trans ((ajV539 0 49 rfl).trans ((ajV513 0 49 rfl).trans ((ajV453 0 49 rfl).trans ((ajV362 0 49 rfl).trans ((ajV248 0 49 rfl).trans ((ajV202 0 49 rfl).trans ((ajV109 0 49 rfl).trans (ajV11 0 49 rfl)))))))))))
                                      have r686 : 0 ≤ ((V 0 49)).toInt ∧ ((V 0 49)).toInt ≤ 10000 := hMV 0 49
                                      refine lv_istore_n (lv' := [(1, .int z676), (3, .int z567), (2, .int z532), (0, .ref (ad 0))]) hx hb dX12_partWithin_252 rfl hl (by decide) rfl (fun ls hl => ?_)
                                      refine lv_goto (tgt := 275) hx hb dX12_partWithin_253 (by decide) ?_
                                      have pq687 : (V682 0 7).toInt = ((V669 0 7)).toInt := congrArg Int32.toInt (ajV682 0 7 rfl)
                                      have pq688 : (V682 0 8).toInt = ((V669 0 8)).toInt := congrArg Int32.toInt (ajV682 0 8 rfl)
                                      have pq689 : (V682 0 50).toInt = ((V669 0 50)).toInt := congrArg Int32.toInt (ajV682 0 50 rfl)
                                      have rw690 : RoV 35 bq V V682 := (fun k hk => ((ajV682 35 k rfl).trans ((t665 k).trans ((t571 k hk).trans ((ajV557 35 k rfl).trans ((ajV539 35 k rfl).trans ((ajV513 35 k rfl).trans ((ajV453 35 k rfl).trans ((ajV362 35 k rfl).trans ((ajV248 35 k rfl).trans ((ajV202 35 k rfl).trans ((ajV109 35 k rfl).trans ((ajV11 35 k rfl).trans rfl)))))))))))))
                                      have rw691 : RoV 37 bq V V682 := (fun k hk => ((ajV682 37 k rfl).trans ((t666 k).trans ((t572 k hk).trans ((ajV557 37 k rfl).trans ((ajV539 37 k rfl).trans ((ajV513 37 k rfl).trans ((ajV453 37 k rfl).trans ((ajV362 37 k rfl).trans ((ajV248 37 k rfl).trans ((ajV202 37 k rfl).trans ((ajV109 37 k rfl).trans ((ajV11 37 k rfl).trans rfl)))))))))))))
                                      have rw692 : RoL 36 20 bq L L670 := (fun k hk => ((t667 k).trans ((t573 k hk).trans rfl)))
                                      have rw693 : RoL 38 20 bq L L670 := (fun k hk => ((t668 k).trans ((t574 k hk).trans rfl)))
                                      exact W.vret hx hb hr (fun t ht hW => ⟨⟨(V682, L670), rfl, ⟨hMV682, agV682, alL670, (Imp.mk (fun hp => have hp : (V682 0 8).toInt = 0 := hp; (show (V682 0 48).toInt - (V 0 48).toInt + 1 ≤ 2 * ((V682 0 7).toInt - (V 0 7).toInt) from by first | omega | ((try (have i_t537 := Imp.go t537 (by omega))); (try (have i_t536 := Imp.go t536 (by omega))); (try (have i_t536 := Imp.go t536 (by omega))); (try (have i_t537 := Imp.go t537 (by omega))); omega)))), (show (V682 0 48).toInt ≤ 8054 - 6 * (V 0 50).toInt from by first | omega | ((try (have i_t537 := Imp.go t537 (by omega))); (try (have i_t536 := Imp.go t536 (by omega))); (try (have i_t536 := Imp.go t536 (by omega))); (try (have i_t537 := Imp.go t537 (by omega))); omega)), (show (V682 0 50).toInt = (V 0 50).toInt from by first | omega | ((try (have i_t537 := Imp.go t537 (by omega))); (try (have i_t536 := Imp.go t536 (by omega))); (try (have i_t536 := Imp.go t536 (by omega))); (try (have i_t537 := Imp.go t537 (by omega))); omega)), (show (V 0 48).toInt ≤ (V682 0 48).toInt from by first | omega | ((try (have i_t537 := Imp.go t537 (by omega))); (try (have i_t536 := Imp.go t536 (by omega))); (try (have i_t536 := Imp.go t536 (by omega))); (try (have i_t537 := Imp.go t537 (by omega))); omega)), (Or.inr ⟨(show 1 ≤ (V682 0 8).toInt from by omega), (fun k => by rw [show (V682 0 8).toInt = (V575 0 8).toInt from by omega]; exact hb656 k)⟩), rw690, rw691, rw692, rw693⟩, by rw [ht]; exact hP, va_K.moved hW.alike hK, hD⟩, hS.F ht⟩) hS.2.2 dX12_partWithin_275
                                  · skip
                                    have kd694 : gT.1 ((nx (nx gs 1) 1).1 0) ≠ 46 := fun h9 => h560 (h9.trans (by decide))
                                    have hb695 : ∀ k, Rc gT (Crun gs (Ipart gd :: k)) (Cbad (V557 0 8).toInt) := fun k => Rc.go1 (hr547 k) ((tk_n kd694).trans (fl_eq rfl rl561))
                                    have r696 : 0 ≤ ((V557 0 8)).toInt ∧ ((V557 0 8)).toInt ≤ 70000 := hMV557 0 8
                                    refine lv_aload_n hx hb dX12_partWithin_227 rfl (lv_at hl 1 rfl) ?_
                                    refine lv_aload_n hx hb dX12_partWithin_228 rfl (lv_at hl 1 rfl) ?_
                                    refine va_get (D := D) (ci := 12) (v := .ref (ad 36)) (C := RX12) (T := TX12) (N := 100) hx hb hg inX12 hown hK hP 0 rfl rfl 36 (by decide) (hg _ w1746) (fun _ h9 => h9) rfl dX12_partWithin_229 ?_
                                    refine lv_aload_n hx hb dX12_partWithin_232 rfl (lv_at hl 1 rfl) ?_
                                    refine va_get (D := D) (ci := 12) (v := .ref (ad 35)) (C := RX12) (T := TX12) (N := 100) hx hb hg inX12 hown hK hP 0 rfl rfl 35 (by decide) (hg _ w1745) (fun _ h9 => h9) rfl dX12_partWithin_233 ?_
                                    refine gA_int (gA_runV (As := [.ref (ad 36), .ref (ad 35)]) (rest := []) (ci := 12) (q0 := 0) hx hb hml hown hg hP hD hK hS hA hnw hgk (s_takeWordOfB3 l D ks H.size ad kk V557 L  hMV557 (show 1 ≤ (V557 0 8).toInt from by first | omega | ((try (have i_t537 := Imp.go t537 (by omega))); (try (have i_t536 := Imp.go t536 (by omega))); (try (have i_t536 := Imp.go t536 (by omega))); (try (have i_t537 := Imp.go t537 (by omega))); omega))) w2104 w2106 w102 w172 w2107 rfl rfl hdV_yX12_takeWordOf ⟨(by show 0 + 1 ≤ 10 * dd + 15; omega), (by show 8 + (4 + 11) + (0) ≤ 300 * dd + 500; omega)⟩ rfl hl.1 rfl (Nat.le_of_ble_eq_true rfl) dX12_partWithin_236 ⟨Nat.le_of_ble_eq_true rfl, Nat.le_of_ble_eq_true rfl⟩) hP hD hK hS hA (fun z697 u698 H locs w699 hP hD hK hS => ?_)
                                    obtain ⟨V705, L706⟩ := u698
                                    obtain ⟨hMV705, ajV705, axL706, rgz697, t700, t701, t702, t703, t704⟩ := w699
                                    have alL706 : agL [35, 36, 37, 38, 45, 46, 47] L L706 := agL.tr alL axL706 (by decide)
                                    have hP : va_P D vwCl (mw ad kk ks.1 V705 L706) H := hP
                                    have hD : va_D A (mw ad kk ks.1 V705 L706) := hD
                                    have hMV705 : rgd bM V705 := hMV705
                                    have ajV705 : agr [(0, 7), (0, 8)] [35, 36, 37, 38] V557 V705 := ajV705
                                    have agV705 : agr [(0, 7), (0, 8), (0, 48), (0, 50)] [35, 36, 37, 38, 45, 46, 47] V V705 := agV557.tr ajV705 (by decide) (by decide)
                                    have rgz697 : (-1) ≤ z697.toInt ∧ z697.toInt ≤ (-1) := rgz697
                                    have t700 : (V705 0 8).toInt = (V557 0 8).toInt := t700
                                    have t701 : NoV 35 V557 V705 := t701
                                    have t702 : NoV 37 V557 V705 := t702
                                    have t703 : NoL 36 L L706 := t703
                                    have t704 : NoL 38 L L706 := t704
                                    have r707 : 0 ≤ ((V705 0 8)).toInt ∧ ((V705 0 8)).toInt ≤ 70000 := hMV705 0 8
                                    refine lv_istore_n (lv' := [(3, .int z697), (2, .int z532), (0, .ref (ad 0))]) hx hb dX12_partWithin_239 rfl hl (by decide) rfl (fun ls hl => ?_)
                                    refine lv_aload_n hx hb dX12_partWithin_240 rfl (lv_at hl 2 rfl) ?_
                                    have pq708 : (V705 0 50).toInt = ((V 0 50)).toInt := congrArg Int32.toInt ((ajV705 0 50 rfl).trans ((ajV557 0 50 rfl).trans ((ajV539 0 50 rfl).trans ((ajV513 0 50 rfl).trans ((ajV453 0 50 rfl).trans ((ajV362 0 50 rfl).trans ((ajV248 0 50 rfl).trans ((ajV202 0 50 rfl).trans ((ajV109 0 50 rfl).trans (ajV11 0 50 rfl))))))))))
                                    refine gA_void (gA_runV (As := []) (rest := []) (ci := 12) (q0 := 0) hx hb hml hown hg hP hD hK hS hA hnw hgk (s_bracketedB l D ks H.size ad kk V705 L706  hMV705 (show 1 ≤ (V705 0 8).toInt from by first | omega | ((try (have i_t537 := Imp.go t537 (by omega))); (try (have i_t536 := Imp.go t536 (by omega))); (try (have i_t536 := Imp.go t536 (by omega))); (try (have i_t537 := Imp.go t537 (by omega))); omega)) (show (V705 0 50).toInt ≤ 8 from by first | omega | ((try (have i_t537 := Imp.go t537 (by omega))); (try (have i_t536 := Imp.go t536 (by omega))); (try (have i_t536 := Imp.go t536 (by omega))); (try (have i_t537 := Imp.go t537 (by omega))); omega))) w2152 w2154 w114 w172 w2155 rfl rfl hdV_yX12_bracketed ⟨(by show 5 + 1 ≤ 10 * dd + 15; omega), (by show 8 + (1 + 11) + (108) ≤ 300 * dd + 500; omega)⟩ rfl hl.1 rfl (Nat.le_of_ble_eq_true rfl) dX12_partWithin_241 ⟨Nat.le_of_ble_eq_true rfl, Nat.le_of_ble_eq_true rfl⟩) hP hD hK hS hA (fun u710 H locs w711 hP hD hK hS => ?_)
                                    obtain ⟨V719, L720⟩ := u710
                                    obtain ⟨hMV719, ajV719, axL720, t712, t713, t714, t715, t716, t717, t718⟩ := w711
                                    have alL720 : agL [35, 36, 37, 38, 45, 46, 47] L L720 := agL.tr alL706 axL720 (by decide)
                                    have hP : va_P D vwCl (mw ad kk ks.1 V719 L720) H := hP
                                    have hD : va_D A (mw ad kk ks.1 V719 L720) := hD
                                    have hMV719 : rgd bM V719 := hMV719
                                    have ajV719 : agr [(0, 7), (0, 8), (0, 48), (0, 50)] [35, 36, 37, 38, 45, 46, 47] V705 V719 := ajV719
                                    have agV719 : agr [(0, 7), (0, 8), (0, 48), (0, 50)] [35, 36, 37, 38, 45, 46, 47] V V719 := agV705.tr ajV719 (by decide) (by decide)
                                    have t712 : (V719 0 48).toInt = (V705 0 48).toInt := t712
                                    have t713 : (V719 0 50).toInt = (V705 0 50).toInt := t713
                                    have t714 : (V719 0 8).toInt = (V705 0 8).toInt := t714
                                    have t715 : NoV 35 V705 V719 := t715
                                    have t716 : NoV 37 V705 V719 := t716
                                    have t717 : NoL 36 L706 L720 := t717
                                    have t718 : NoL 38 L706 L720 := t718
                                    have pq721 : (V705 0 48).toInt = ((V 0 48)).toInt := congrArg Int32.toInt ((ajV705 0 48 rfl).trans ((ajV557 0 48 rfl).trans ((ajV539 0 48 rfl).trans ((ajV513 0 48 rfl).trans ((ajV453 0 48 rfl).trans ((ajV362 0 48 rfl).trans ((ajV248 0 48 rfl).trans ((ajV202 0 48 rfl).trans ((ajV109 0 48 rfl).trans (ajV11 0 48 rfl))))))))))
                                    have r722 : 0 ≤ ((V719 0 48)).toInt ∧ ((V719 0 48)).toInt ≤ 10000 := hMV719 0 48
                                    have r723 : 0 ≤ ((V719 0 50)).toInt ∧ ((V719 0 50)).toInt ≤ 9 := hMV719 0 50
                                    have r724 : 0 ≤ ((V719 0 8)).toInt ∧ ((V719 0 8)).toInt ≤ 70000 := hMV719 0 8
                                    refine lv_aload_n hx hb dX12_partWithin_244 rfl (lv_at hl 2 rfl) ?_
                                    refine lv_bipush (v := 14) hx hb dX12_partWithin_245 (by decide) ?_
                                    refine lv_iload_n hx hb dX12_partWithin_247 rfl (lv_at hl 1 rfl) ?_
                                    refine lv_iload_n hx hb dX12_partWithin_248 rfl (lv_at hl 0 rfl) ?_
                                    have r725 : Int32.toInt 14 = 14 := by decide
                                    refine gA_int (gA_runV (As := [.int 14, .int z532, .int z697]) (rest := []) (ci := 12) (q0 := 0) hx hb hml hown hg hP hD hK hS hA hnw hgk (s_emit3 l D ks H.size ad kk V719 L720 14 z532 z697 hMV719 (show (V719 0 48).toInt ≤ 9999 from by first | omega | ((try (have i_t537 := Imp.go t537 (by omega))); (try (have i_t536 := Imp.go t536 (by omega))); (try (have i_t536 := Imp.go t536 (by omega))); (try (have i_t537 := Imp.go t537 (by omega))); omega))) w2140 w2142 w111 w172 w2143 rfl rfl hdV_yX12_emit ⟨(by show 0 + 1 ≤ 10 * dd + 15; omega), (by show 8 + (4 + 11) + (0) ≤ 300 * dd + 500; omega)⟩ rfl hl.1 rfl (Nat.le_of_ble_eq_true rfl) dX12_partWithin_249 ⟨Nat.le_of_ble_eq_true rfl, Nat.le_of_ble_eq_true rfl⟩) hP hD hK hS hA (fun z726 u727 H locs w728 hP hD hK hS => ?_)
                                    obtain ⟨V732, L733⟩ := u727
                                    obtain ⟨hMV732, ajV732, axL733, rgz726, t729, t730, t731⟩ := w728
                                    have axL733 : L720 = L733 := Eq.symm axL733
                                    subst axL733
                                    have hP : va_P D vwCl (mw ad kk ks.1 V732 L720) H := hP
                                    have hD : va_D A (mw ad kk ks.1 V732 L720) := hD
                                    have hMV732 : rgd bM V732 := hMV732
                                    have ajV732 : agr [(0, 48)] [45, 46, 47] V719 V732 := ajV732
                                    have agV732 : agr [(0, 7), (0, 8), (0, 48), (0, 50)] [35, 36, 37, 38, 45, 46, 47] V V732 := agV719.tr ajV732 (by decide) (by decide)
                                    have rgz726 : 0 ≤ z726.toInt ∧ z726.toInt ≤ 20000 := rgz726
                                    have t729 : (V732 0 48).toInt = (V719 0 48).toInt + 1 := t729
                                    have t730 : z726.toInt = (V719 0 49).toInt + (V719 0 48).toInt := t730
                                    have t731 : emitted V719 V732 (pA V719) 14 z532 z697 := t731
                                    have r734 : 0 ≤ ((V732 0 48)).toInt ∧ ((V732 0 48)).toInt ≤ 10000 := hMV732 0 48
                                    have pq735 : (V719 0 49).toInt = ((V 0 49)).toInt := congrArg Int32.toInt ((ajV719 0 49 rfl).trans ((ajV705 0 49 rfl).trans ((ajV557 0 49 rfl).trans ((ajV539 0 49 rfl).trans ((ajV513 0 49 rfl).trans ((ajV453 0 49 rfl).trans ((ajV362 0 49 rfl).trans ((ajV248 0 49 rfl).trans ((ajV202 0 49 rfl).trans ((ajV109 0 49 rfl).trans (ajV11 0 49 rfl)))))))))))
                                    have r736 : 0 ≤ ((V 0 49)).toInt ∧ ((V 0 49)).toInt ≤ 10000 := hMV 0 49
                                    refine lv_istore_n (lv' := [(1, .int z726), (3, .int z697), (2, .int z532), (0, .ref (ad 0))]) hx hb dX12_partWithin_252 rfl hl (by decide) rfl (fun ls hl => ?_)
                                    refine lv_goto (tgt := 275) hx hb dX12_partWithin_253 (by decide) ?_
                                    have pq737 : (V732 0 7).toInt = ((V719 0 7)).toInt := congrArg Int32.toInt (ajV732 0 7 rfl)
                                    have pq738 : (V732 0 8).toInt = ((V719 0 8)).toInt := congrArg Int32.toInt (ajV732 0 8 rfl)
                                    have pq739 : (V732 0 50).toInt = ((V719 0 50)).toInt := congrArg Int32.toInt (ajV732 0 50 rfl)
                                    have rw740 : RoV 35 bq V V732 := (fun k hk => ((ajV732 35 k rfl).trans ((t715 k).trans ((t701 k).trans ((ajV557 35 k rfl).trans ((ajV539 35 k rfl).trans ((ajV513 35 k rfl).trans ((ajV453 35 k rfl).trans ((ajV362 35 k rfl).trans ((ajV248 35 k rfl).trans ((ajV202 35 k rfl).trans ((ajV109 35 k rfl).trans ((ajV11 35 k rfl).trans rfl)))))))))))))
                                    have rw741 : RoV 37 bq V V732 := (fun k hk => ((ajV732 37 k rfl).trans ((t716 k).trans ((t702 k).trans ((ajV557 37 k rfl).trans ((ajV539 37 k rfl).trans ((ajV513 37 k rfl).trans ((ajV453 37 k rfl).trans ((ajV362 37 k rfl).trans ((ajV248 37 k rfl).trans ((ajV202 37 k rfl).trans ((ajV109 37 k rfl).trans ((ajV11 37 k rfl).trans rfl)))))))))))))
                                    have rw742 : RoL 36 20 bq L L720 := (fun k hk => ((t717 k).trans ((t703 k).trans rfl)))
                                    have rw743 : RoL 38 20 bq L L720 := (fun k hk => ((t718 k).trans ((t704 k).trans rfl)))
                                    exact W.vret hx hb hr (fun t ht hW => ⟨⟨(V732, L720), rfl, ⟨hMV732, agV732, alL720, (Imp.mk (fun hp => have hp : (V732 0 8).toInt = 0 := hp; (show (V732 0 48).toInt - (V 0 48).toInt + 1 ≤ 2 * ((V732 0 7).toInt - (V 0 7).toInt) from by first | omega | ((try (have i_t537 := Imp.go t537 (by omega))); (try (have i_t536 := Imp.go t536 (by omega))); (try (have i_t536 := Imp.go t536 (by omega))); (try (have i_t537 := Imp.go t537 (by omega))); omega)))), (show (V732 0 48).toInt ≤ 8054 - 6 * (V 0 50).toInt from by first | omega | ((try (have i_t537 := Imp.go t537 (by omega))); (try (have i_t536 := Imp.go t536 (by omega))); (try (have i_t536 := Imp.go t536 (by omega))); (try (have i_t537 := Imp.go t537 (by omega))); omega)), (show (V732 0 50).toInt = (V 0 50).toInt from by first | omega | ((try (have i_t537 := Imp.go t537 (by omega))); (try (have i_t536 := Imp.go t536 (by omega))); (try (have i_t536 := Imp.go t536 (by omega))); (try (have i_t537 := Imp.go t537 (by omega))); omega)), (show (V 0 48).toInt ≤ (V732 0 48).toInt from by first | omega | ((try (have i_t537 := Imp.go t537 (by omega))); (try (have i_t536 := Imp.go t536 (by omega))); (try (have i_t536 := Imp.go t536 (by omega))); (try (have i_t537 := Imp.go t537 (by omega))); omega)), (Or.inr ⟨(show 1 ≤ (V732 0 8).toInt from by omega), (fun k => by rw [show (V732 0 8).toInt = (V557 0 8).toInt from by omega]; exact hb695 k)⟩), rw740, rw741, rw742, rw743⟩, by rw [ht]; exact hP, va_K.moved hW.alike hK, hD⟩, hS.F ht⟩) hS.2.2 dX12_partWithin_275
                                · skip
                                  have hb744 : ∀ k, Rc gT (Crun gs (Ipart gd :: k)) (Cbad (V539 0 8).toInt) := fun k => Rc.go1 (hr528 k) ((nm_1 h543).trans (fl_eq rfl rl546))
                                  have nr745 := Imp.go t537 q542
                                  refine lv_istore_n (lv' := [(2, .int z532), (0, .ref (ad 0))]) hx hb dX12_partWithin_220 rfl hl (by decide) rfl (fun ls hl => ?_)
                                  refine lv_aload_n hx hb dX12_partWithin_221 rfl (lv_at hl 1 rfl) ?_
                                  refine lv_bipush (v := 46) hx hb dX12_partWithin_222 (by decide) ?_
                                  have r746 : Int32.toInt 46 = 46 := by decide
                                  refine gA_void (gA_runV (As := [.int 46]) (rest := []) (ci := 12) (q0 := 0) hx hb hml hown hg hP hD hK hS hA hnw hgk (s_takeSignB l D ks H.size ad kk V539 L 46 hMV539 (show 1 ≤ (V539 0 8).toInt from by first | omega | ((try (have i_t537 := Imp.go t537 (by omega))); (try (have i_t536 := Imp.go t536 (by omega))); (try (have i_t536 := Imp.go t536 (by omega))); (try (have i_t537 := Imp.go t537 (by omega))); omega))) w2079 w2081 w96 w172 w2082 rfl rfl hdV_yX12_takeSign ⟨(by show 1 + 1 ≤ 10 * dd + 15; omega), (by show 8 + (2 + 11) + (21) ≤ 300 * dd + 500; omega)⟩ rfl hl.1 rfl (Nat.le_of_ble_eq_true rfl) dX12_partWithin_224 ⟨Nat.le_of_ble_eq_true rfl, Nat.le_of_ble_eq_true rfl⟩) hP hD hK hS hA (fun u748 H locs w749 hP hD hK hS => ?_)
                                  obtain ⟨V751, L752⟩ := u748
                                  obtain ⟨hMV751, ajV751, axL752, t750⟩ := w749
                                  have axL752 : L = L752 := Eq.symm axL752
                                  subst axL752
                                  have hP : va_P D vwCl (mw ad kk ks.1 V751 L) H := hP
                                  have hD : va_D A (mw ad kk ks.1 V751 L) := hD
                                  have hMV751 : rgd bM V751 := hMV751
                                  have ajV751 : agr [(0, 7), (0, 8)] [] V539 V751 := ajV751
                                  have agV751 : agr [(0, 7), (0, 8), (0, 48), (0, 50)] [35, 36, 37, 38, 45, 46, 47] V V751 := agV539.tr ajV751 (by decide) (by decide)
                                  have t750 : (V751 0 8).toInt = (V539 0 8).toInt := t750
                                  have r753 : 0 ≤ ((V751 0 8)).toInt ∧ ((V751 0 8)).toInt ≤ 70000 := hMV751 0 8
                                  refine lv_aload_n hx hb dX12_partWithin_227 rfl (lv_at hl 1 rfl) ?_
                                  refine lv_aload_n hx hb dX12_partWithin_228 rfl (lv_at hl 1 rfl) ?_
                                  refine va_get (D := D) (ci := 12) (v := .ref (ad 36)) (C := RX12) (T := TX12) (N := 100) hx hb hg inX12 hown hK hP 0 rfl rfl 36 (by decide) (hg _ w1746) (fun _ h9 => h9) rfl dX12_partWithin_229 ?_
                                  refine lv_aload_n hx hb dX12_partWithin_232 rfl (lv_at hl 1 rfl) ?_
                                  refine va_get (D := D) (ci := 12) (v := .ref (ad 35)) (C := RX12) (T := TX12) (N := 100) hx hb hg inX12 hown hK hP 0 rfl rfl 35 (by decide) (hg _ w1745) (fun _ h9 => h9) rfl dX12_partWithin_233 ?_
                                  refine gA_int (gA_runV (As := [.ref (ad 36), .ref (ad 35)]) (rest := []) (ci := 12) (q0 := 0) hx hb hml hown hg hP hD hK hS hA hnw hgk (s_takeWordOfB3 l D ks H.size ad kk V751 L  hMV751 (show 1 ≤ (V751 0 8).toInt from by first | omega | ((try (have i_t537 := Imp.go t537 (by omega))); (try (have i_t536 := Imp.go t536 (by omega))); (try (have i_t536 := Imp.go t536 (by omega))); (try (have i_t537 := Imp.go t537 (by omega))); omega))) w2104 w2106 w102 w172 w2107 rfl rfl hdV_yX12_takeWordOf ⟨(by show 0 + 1 ≤ 10 * dd + 15; omega), (by show 8 + (4 + 11) + (0) ≤ 300 * dd + 500; omega)⟩ rfl hl.1 rfl (Nat.le_of_ble_eq_true rfl) dX12_partWithin_236 ⟨Nat.le_of_ble_eq_true rfl, Nat.le_of_ble_eq_true rfl⟩) hP hD hK hS hA (fun z754 u755 H locs w756 hP hD hK hS => ?_)
                                  obtain ⟨V762, L763⟩ := u755
                                  obtain ⟨hMV762, ajV762, axL763, rgz754, t757, t758, t759, t760, t761⟩ := w756
                                  have alL763 : agL [35, 36, 37, 38, 45, 46, 47] L L763 := agL.tr alL axL763 (by decide)
                                  have hP : va_P D vwCl (mw ad kk ks.1 V762 L763) H := hP
                                  have hD : va_D A (mw ad kk ks.1 V762 L763) := hD
                                  have hMV762 : rgd bM V762 := hMV762
                                  have ajV762 : agr [(0, 7), (0, 8)] [35, 36, 37, 38] V751 V762 := ajV762
                                  have agV762 : agr [(0, 7), (0, 8), (0, 48), (0, 50)] [35, 36, 37, 38, 45, 46, 47] V V762 := agV751.tr ajV762 (by decide) (by decide)
                                  have rgz754 : (-1) ≤ z754.toInt ∧ z754.toInt ≤ (-1) := rgz754
                                  have t757 : (V762 0 8).toInt = (V751 0 8).toInt := t757
                                  have t758 : NoV 35 V751 V762 := t758
                                  have t759 : NoV 37 V751 V762 := t759
                                  have t760 : NoL 36 L L763 := t760
                                  have t761 : NoL 38 L L763 := t761
                                  have r764 : 0 ≤ ((V762 0 8)).toInt ∧ ((V762 0 8)).toInt ≤ 70000 := hMV762 0 8
                                  refine lv_istore_n (lv' := [(3, .int z754), (2, .int z532), (0, .ref (ad 0))]) hx hb dX12_partWithin_239 rfl hl (by decide) rfl (fun ls hl => ?_)
                                  refine lv_aload_n hx hb dX12_partWithin_240 rfl (lv_at hl 2 rfl) ?_
                                  have pq765 : (V762 0 50).toInt = ((V 0 50)).toInt := congrArg Int32.toInt ((ajV762 0 50 rfl).trans ((ajV751 0 50 rfl).trans ((ajV539 0 50 rfl).trans ((ajV513 0 50 rfl).trans ((ajV453 0 50 rfl).trans ((ajV362 0 50 rfl).trans ((ajV248 0 50 rfl).trans ((ajV202 0 50 rfl).trans ((ajV109 0 50 rfl).trans (ajV11 0 50 rfl))))))))))
                                  refine gA_void (gA_runV (As := []) (rest := []) (ci := 12) (q0 := 0) hx hb hml hown hg hP hD hK hS hA hnw hgk (s_bracketedB l D ks H.size ad kk V762 L763  hMV762 (show 1 ≤ (V762 0 8).toInt from by first | omega | ((try (have i_t537 := Imp.go t537 (by omega))); (try (have i_t536 := Imp.go t536 (by omega))); (try (have i_t536 := Imp.go t536 (by omega))); (try (have i_t537 := Imp.go t537 (by omega))); omega)) (show (V762 0 50).toInt ≤ 8 from by first | omega | ((try (have i_t537 := Imp.go t537 (by omega))); (try (have i_t536 := Imp.go t536 (by omega))); (try (have i_t536 := Imp.go t536 (by omega))); (try (have i_t537 := Imp.go t537 (by omega))); omega))) w2152 w2154 w114 w172 w2155 rfl rfl hdV_yX12_bracketed ⟨(by show 5 + 1 ≤ 10 * dd + 15; omega), (by show 8 + (1 + 11) + (108) ≤ 300 * dd + 500; omega)⟩ rfl hl.1 rfl (Nat.le_of_ble_eq_true rfl) dX12_partWithin_241 ⟨Nat.le_of_ble_eq_true rfl, Nat.le_of_ble_eq_true rfl⟩) hP hD hK hS hA (fun u767 H locs w768 hP hD hK hS => ?_)
                                  obtain ⟨V776, L777⟩ := u767
                                  obtain ⟨hMV776, ajV776, axL777, t769, t770, t771, t772, t773, t774, t775⟩ := w768
                                  have alL777 : agL [35, 36, 37, 38, 45, 46, 47] L L777 := agL.tr alL763 axL777 (by decide)
                                  have hP : va_P D vwCl (mw ad kk ks.1 V776 L777) H := hP
                                  have hD : va_D A (mw ad kk ks.1 V776 L777) := hD
                                  have hMV776 : rgd bM V776 := hMV776
                                  have ajV776 : agr [(0, 7), (0, 8), (0, 48), (0, 50)] [35, 36, 37, 38, 45, 46, 47] V762 V776 := ajV776
                                  have agV776 : agr [(0, 7), (0, 8), (0, 48), (0, 50)] [35, 36, 37, 38, 45, 46, 47] V V776 := agV762.tr ajV776 (by decide) (by decide)
                                  have t769 : (V776 0 48).toInt = (V762 0 48).toInt := t769
                                  have t770 : (V776 0 50).toInt = (V762 0 50).toInt := t770
                                  have t771 : (V776 0 8).toInt = (V762 0 8).toInt := t771
                                  have t772 : NoV 35 V762 V776 := t772
                                  have t773 : NoV 37 V762 V776 := t773
                                  have t774 : NoL 36 L763 L777 := t774
                                  have t775 : NoL 38 L763 L777 := t775
                                  have pq778 : (V762 0 48).toInt = ((V 0 48)).toInt := congrArg Int32.toInt ((ajV762 0 48 rfl).trans ((ajV751 0 48 rfl).trans ((ajV539 0 48 rfl).trans ((ajV513 0 48 rfl).trans ((ajV453 0 48 rfl).trans ((ajV362 0 48 rfl).trans ((ajV248 0 48 rfl).trans ((ajV202 0 48 rfl).trans ((ajV109 0 48 rfl).trans (ajV11 0 48 rfl))))))))))
                                  have r779 : 0 ≤ ((V776 0 48)).toInt ∧ ((V776 0 48)).toInt ≤ 10000 := hMV776 0 48
                                  have r780 : 0 ≤ ((V776 0 50)).toInt ∧ ((V776 0 50)).toInt ≤ 9 := hMV776 0 50
                                  have r781 : 0 ≤ ((V776 0 8)).toInt ∧ ((V776 0 8)).toInt ≤ 70000 := hMV776 0 8
                                  refine lv_aload_n hx hb dX12_partWithin_244 rfl (lv_at hl 2 rfl) ?_
                                  refine lv_bipush (v := 14) hx hb dX12_partWithin_245 (by decide) ?_
                                  refine lv_iload_n hx hb dX12_partWithin_247 rfl (lv_at hl 1 rfl) ?_
                                  refine lv_iload_n hx hb dX12_partWithin_248 rfl (lv_at hl 0 rfl) ?_
                                  have r782 : Int32.toInt 14 = 14 := by decide
                                  refine gA_int (gA_runV (As := [.int 14, .int z532, .int z754]) (rest := []) (ci := 12) (q0 := 0) hx hb hml hown hg hP hD hK hS hA hnw hgk (s_emit3 l D ks H.size ad kk V776 L777 14 z532 z754 hMV776 (show (V776 0 48).toInt ≤ 9999 from by first | omega | ((try (have i_t537 := Imp.go t537 (by omega))); (try (have i_t536 := Imp.go t536 (by omega))); (try (have i_t536 := Imp.go t536 (by omega))); (try (have i_t537 := Imp.go t537 (by omega))); omega))) w2140 w2142 w111 w172 w2143 rfl rfl hdV_yX12_emit ⟨(by show 0 + 1 ≤ 10 * dd + 15; omega), (by show 8 + (4 + 11) + (0) ≤ 300 * dd + 500; omega)⟩ rfl hl.1 rfl (Nat.le_of_ble_eq_true rfl) dX12_partWithin_249 ⟨Nat.le_of_ble_eq_true rfl, Nat.le_of_ble_eq_true rfl⟩) hP hD hK hS hA (fun z783 u784 H locs w785 hP hD hK hS => ?_)
                                  obtain ⟨V789, L790⟩ := u784
                                  obtain ⟨hMV789, ajV789, axL790, rgz783, t786, t787, t788⟩ := w785
                                  have axL790 : L777 = L790 := Eq.symm axL790
                                  subst axL790
                                  have hP : va_P D vwCl (mw ad kk ks.1 V789 L777) H := hP
                                  have hD : va_D A (mw ad kk ks.1 V789 L777) := hD
                                  have hMV789 : rgd bM V789 := hMV789
                                  have ajV789 : agr [(0, 48)] [45, 46, 47] V776 V789 := ajV789
                                  have agV789 : agr [(0, 7), (0, 8), (0, 48), (0, 50)] [35, 36, 37, 38, 45, 46, 47] V V789 := agV776.tr ajV789 (by decide) (by decide)
                                  have rgz783 : 0 ≤ z783.toInt ∧ z783.toInt ≤ 20000 := rgz783
                                  have t786 : (V789 0 48).toInt = (V776 0 48).toInt + 1 := t786
                                  have t787 : z783.toInt = (V776 0 49).toInt + (V776 0 48).toInt := t787
                                  have t788 : emitted V776 V789 (pA V776) 14 z532 z754 := t788
                                  have r791 : 0 ≤ ((V789 0 48)).toInt ∧ ((V789 0 48)).toInt ≤ 10000 := hMV789 0 48
                                  have pq792 : (V776 0 49).toInt = ((V 0 49)).toInt := congrArg Int32.toInt ((ajV776 0 49 rfl).trans ((ajV762 0 49 rfl).trans ((ajV751 0 49 rfl).trans ((ajV539 0 49 rfl).trans ((ajV513 0 49 rfl).trans ((ajV453 0 49 rfl).trans ((ajV362 0 49 rfl).trans ((ajV248 0 49 rfl).trans ((ajV202 0 49 rfl).trans ((ajV109 0 49 rfl).trans (ajV11 0 49 rfl)))))))))))
                                  have r793 : 0 ≤ ((V 0 49)).toInt ∧ ((V 0 49)).toInt ≤ 10000 := hMV 0 49
                                  refine lv_istore_n (lv' := [(1, .int z783), (3, .int z754), (2, .int z532), (0, .ref (ad 0))]) hx hb dX12_partWithin_252 rfl hl (by decide) rfl (fun ls hl => ?_)
                                  refine lv_goto (tgt := 275) hx hb dX12_partWithin_253 (by decide) ?_
                                  have pq794 : (V789 0 7).toInt = ((V776 0 7)).toInt := congrArg Int32.toInt (ajV789 0 7 rfl)
                                  have pq795 : (V789 0 8).toInt = ((V776 0 8)).toInt := congrArg Int32.toInt (ajV789 0 8 rfl)
                                  have pq796 : (V789 0 50).toInt = ((V776 0 50)).toInt := congrArg Int32.toInt (ajV789 0 50 rfl)
                                  have rw797 : RoV 35 bq V V789 := (fun k hk => ((ajV789 35 k rfl).trans ((t772 k).trans ((t758 k).trans ((ajV751 35 k rfl).trans ((ajV539 35 k rfl).trans ((ajV513 35 k rfl).trans ((ajV453 35 k rfl).trans ((ajV362 35 k rfl).trans ((ajV248 35 k rfl).trans ((ajV202 35 k rfl).trans ((ajV109 35 k rfl).trans ((ajV11 35 k rfl).trans rfl)))))))))))))
                                  have rw798 : RoV 37 bq V V789 := (fun k hk => ((ajV789 37 k rfl).trans ((t773 k).trans ((t759 k).trans ((ajV751 37 k rfl).trans ((ajV539 37 k rfl).trans ((ajV513 37 k rfl).trans ((ajV453 37 k rfl).trans ((ajV362 37 k rfl).trans ((ajV248 37 k rfl).trans ((ajV202 37 k rfl).trans ((ajV109 37 k rfl).trans ((ajV11 37 k rfl).trans rfl)))))))))))))
                                  have rw799 : RoL 36 20 bq L L777 := (fun k hk => ((t774 k).trans ((t760 k).trans rfl)))
                                  have rw800 : RoL 38 20 bq L L777 := (fun k hk => ((t775 k).trans ((t761 k).trans rfl)))
                                  exact W.vret hx hb hr (fun t ht hW => ⟨⟨(V789, L777), rfl, ⟨hMV789, agV789, alL777, (Imp.mk (fun hp => have hp : (V789 0 8).toInt = 0 := hp; (show (V789 0 48).toInt - (V 0 48).toInt + 1 ≤ 2 * ((V789 0 7).toInt - (V 0 7).toInt) from by first | omega | ((try (have i_t537 := Imp.go t537 (by omega))); (try (have i_t536 := Imp.go t536 (by omega))); (try (have i_t536 := Imp.go t536 (by omega))); (try (have i_t537 := Imp.go t537 (by omega))); omega)))), (show (V789 0 48).toInt ≤ 8054 - 6 * (V 0 50).toInt from by first | omega | ((try (have i_t537 := Imp.go t537 (by omega))); (try (have i_t536 := Imp.go t536 (by omega))); (try (have i_t536 := Imp.go t536 (by omega))); (try (have i_t537 := Imp.go t537 (by omega))); omega)), (show (V789 0 50).toInt = (V 0 50).toInt from by first | omega | ((try (have i_t537 := Imp.go t537 (by omega))); (try (have i_t536 := Imp.go t536 (by omega))); (try (have i_t536 := Imp.go t536 (by omega))); (try (have i_t537 := Imp.go t537 (by omega))); omega)), (show (V 0 48).toInt ≤ (V789 0 48).toInt from by first | omega | ((try (have i_t537 := Imp.go t537 (by omega))); (try (have i_t536 := Imp.go t536 (by omega))); (try (have i_t536 := Imp.go t536 (by omega))); (try (have i_t537 := Imp.go t537 (by omega))); omega)), (Or.inr ⟨(show 1 ≤ (V789 0 8).toInt from by omega), (fun k => by rw [show (V789 0 8).toInt = (V539 0 8).toInt from by omega]; exact hb744 k)⟩), rw797, rw798, rw799, rw800⟩, by rw [ht]; exact hP, va_K.moved hW.alike hK, hD⟩, hS.F ht⟩) hS.2.2 dX12_partWithin_275
                                · skip
                                  have hb801 : ∀ k, Rc gT (Crun gs (Ipart gd :: k)) (Cbad (V539 0 8).toInt) := fun k => Rc.go1 (hr528 k) ((nm_4 h543 (by omega)).trans (fl_eq rfl rl546))
                                  have nr802 := Imp.go t537 q542
                                  refine lv_istore_n (lv' := [(2, .int z532), (0, .ref (ad 0))]) hx hb dX12_partWithin_220 rfl hl (by decide) rfl (fun ls hl => ?_)
                                  refine lv_aload_n hx hb dX12_partWithin_221 rfl (lv_at hl 1 rfl) ?_
                                  refine lv_bipush (v := 46) hx hb dX12_partWithin_222 (by decide) ?_
                                  have r803 : Int32.toInt 46 = 46 := by decide
                                  refine gA_void (gA_runV (As := [.int 46]) (rest := []) (ci := 12) (q0 := 0) hx hb hml hown hg hP hD hK hS hA hnw hgk (s_takeSignB l D ks H.size ad kk V539 L 46 hMV539 (show 1 ≤ (V539 0 8).toInt from by first | omega | ((try (have i_t537 := Imp.go t537 (by omega))); (try (have i_t536 := Imp.go t536 (by omega))); (try (have i_t536 := Imp.go t536 (by omega))); (try (have i_t537 := Imp.go t537 (by omega))); omega))) w2079 w2081 w96 w172 w2082 rfl rfl hdV_yX12_takeSign ⟨(by show 1 + 1 ≤ 10 * dd + 15; omega), (by show 8 + (2 + 11) + (21) ≤ 300 * dd + 500; omega)⟩ rfl hl.1 rfl (Nat.le_of_ble_eq_true rfl) dX12_partWithin_224 ⟨Nat.le_of_ble_eq_true rfl, Nat.le_of_ble_eq_true rfl⟩) hP hD hK hS hA (fun u805 H locs w806 hP hD hK hS => ?_)
                                  obtain ⟨V808, L809⟩ := u805
                                  obtain ⟨hMV808, ajV808, axL809, t807⟩ := w806
                                  have axL809 : L = L809 := Eq.symm axL809
                                  subst axL809
                                  have hP : va_P D vwCl (mw ad kk ks.1 V808 L) H := hP
                                  have hD : va_D A (mw ad kk ks.1 V808 L) := hD
                                  have hMV808 : rgd bM V808 := hMV808
                                  have ajV808 : agr [(0, 7), (0, 8)] [] V539 V808 := ajV808
                                  have agV808 : agr [(0, 7), (0, 8), (0, 48), (0, 50)] [35, 36, 37, 38, 45, 46, 47] V V808 := agV539.tr ajV808 (by decide) (by decide)
                                  have t807 : (V808 0 8).toInt = (V539 0 8).toInt := t807
                                  have r810 : 0 ≤ ((V808 0 8)).toInt ∧ ((V808 0 8)).toInt ≤ 70000 := hMV808 0 8
                                  refine lv_aload_n hx hb dX12_partWithin_227 rfl (lv_at hl 1 rfl) ?_
                                  refine lv_aload_n hx hb dX12_partWithin_228 rfl (lv_at hl 1 rfl) ?_
                                  refine va_get (D := D) (ci := 12) (v := .ref (ad 36)) (C := RX12) (T := TX12) (N := 100) hx hb hg inX12 hown hK hP 0 rfl rfl 36 (by decide) (hg _ w1746) (fun _ h9 => h9) rfl dX12_partWithin_229 ?_
                                  refine lv_aload_n hx hb dX12_partWithin_232 rfl (lv_at hl 1 rfl) ?_
                                  refine va_get (D := D) (ci := 12) (v := .ref (ad 35)) (C := RX12) (T := TX12) (N := 100) hx hb hg inX12 hown hK hP 0 rfl rfl 35 (by decide) (hg _ w1745) (fun _ h9 => h9) rfl dX12_partWithin_233 ?_
                                  refine gA_int (gA_runV (As := [.ref (ad 36), .ref (ad 35)]) (rest := []) (ci := 12) (q0 := 0) hx hb hml hown hg hP hD hK hS hA hnw hgk (s_takeWordOfB3 l D ks H.size ad kk V808 L  hMV808 (show 1 ≤ (V808 0 8).toInt from by first | omega | ((try (have i_t537 := Imp.go t537 (by omega))); (try (have i_t536 := Imp.go t536 (by omega))); (try (have i_t536 := Imp.go t536 (by omega))); (try (have i_t537 := Imp.go t537 (by omega))); omega))) w2104 w2106 w102 w172 w2107 rfl rfl hdV_yX12_takeWordOf ⟨(by show 0 + 1 ≤ 10 * dd + 15; omega), (by show 8 + (4 + 11) + (0) ≤ 300 * dd + 500; omega)⟩ rfl hl.1 rfl (Nat.le_of_ble_eq_true rfl) dX12_partWithin_236 ⟨Nat.le_of_ble_eq_true rfl, Nat.le_of_ble_eq_true rfl⟩) hP hD hK hS hA (fun z811 u812 H locs w813 hP hD hK hS => ?_)
                                  obtain ⟨V819, L820⟩ := u812
                                  obtain ⟨hMV819, ajV819, axL820, rgz811, t814, t815, t816, t817, t818⟩ := w813
                                  have alL820 : agL [35, 36, 37, 38, 45, 46, 47] L L820 := agL.tr alL axL820 (by decide)
                                  have hP : va_P D vwCl (mw ad kk ks.1 V819 L820) H := hP
                                  have hD : va_D A (mw ad kk ks.1 V819 L820) := hD
                                  have hMV819 : rgd bM V819 := hMV819
                                  have ajV819 : agr [(0, 7), (0, 8)] [35, 36, 37, 38] V808 V819 := ajV819
                                  have agV819 : agr [(0, 7), (0, 8), (0, 48), (0, 50)] [35, 36, 37, 38, 45, 46, 47] V V819 := agV808.tr ajV819 (by decide) (by decide)
                                  have rgz811 : (-1) ≤ z811.toInt ∧ z811.toInt ≤ (-1) := rgz811
                                  have t814 : (V819 0 8).toInt = (V808 0 8).toInt := t814
                                  have t815 : NoV 35 V808 V819 := t815
                                  have t816 : NoV 37 V808 V819 := t816
                                  have t817 : NoL 36 L L820 := t817
                                  have t818 : NoL 38 L L820 := t818
                                  have r821 : 0 ≤ ((V819 0 8)).toInt ∧ ((V819 0 8)).toInt ≤ 70000 := hMV819 0 8
                                  refine lv_istore_n (lv' := [(3, .int z811), (2, .int z532), (0, .ref (ad 0))]) hx hb dX12_partWithin_239 rfl hl (by decide) rfl (fun ls hl => ?_)
                                  refine lv_aload_n hx hb dX12_partWithin_240 rfl (lv_at hl 2 rfl) ?_
                                  have pq822 : (V819 0 50).toInt = ((V 0 50)).toInt := congrArg Int32.toInt ((ajV819 0 50 rfl).trans ((ajV808 0 50 rfl).trans ((ajV539 0 50 rfl).trans ((ajV513 0 50 rfl).trans ((ajV453 0 50 rfl).trans ((ajV362 0 50 rfl).trans ((ajV248 0 50 rfl).trans ((ajV202 0 50 rfl).trans ((ajV109 0 50 rfl).trans (ajV11 0 50 rfl))))))))))
                                  refine gA_void (gA_runV (As := []) (rest := []) (ci := 12) (q0 := 0) hx hb hml hown hg hP hD hK hS hA hnw hgk (s_bracketedB l D ks H.size ad kk V819 L820  hMV819 (show 1 ≤ (V819 0 8).toInt from by first | omega | ((try (have i_t537 := Imp.go t537 (by omega))); (try (have i_t536 := Imp.go t536 (by omega))); (try (have i_t536 := Imp.go t536 (by omega))); (try (have i_t537 := Imp.go t537 (by omega))); omega)) (show (V819 0 50).toInt ≤ 8 from by first | omega | ((try (have i_t537 := Imp.go t537 (by omega))); (try (have i_t536 := Imp.go t536 (by omega))); (try (have i_t536 := Imp.go t536 (by omega))); (try (have i_t537 := Imp.go t537 (by omega))); omega))) w2152 w2154 w114 w172 w2155 rfl rfl hdV_yX12_bracketed ⟨(by show 5 + 1 ≤ 10 * dd + 15; omega), (by show 8 + (1 + 11) + (108) ≤ 300 * dd + 500; omega)⟩ rfl hl.1 rfl (Nat.le_of_ble_eq_true rfl) dX12_partWithin_241 ⟨Nat.le_of_ble_eq_true rfl, Nat.le_of_ble_eq_true rfl⟩) hP hD hK hS hA (fun u824 H locs w825 hP hD hK hS => ?_)
                                  obtain ⟨V833, L834⟩ := u824
                                  obtain ⟨hMV833, ajV833, axL834, t826, t827, t828, t829, t830, t831, t832⟩ := w825
                                  have alL834 : agL [35, 36, 37, 38, 45, 46, 47] L L834 := agL.tr alL820 axL834 (by decide)
                                  have hP : va_P D vwCl (mw ad kk ks.1 V833 L834) H := hP
                                  have hD : va_D A (mw ad kk ks.1 V833 L834) := hD
                                  have hMV833 : rgd bM V833 := hMV833
                                  have ajV833 : agr [(0, 7), (0, 8), (0, 48), (0, 50)] [35, 36, 37, 38, 45, 46, 47] V819 V833 := ajV833
                                  have agV833 : agr [(0, 7), (0, 8), (0, 48), (0, 50)] [35, 36, 37, 38, 45, 46, 47] V V833 := agV819.tr ajV833 (by decide) (by decide)
                                  have t826 : (V833 0 48).toInt = (V819 0 48).toInt := t826
                                  have t827 : (V833 0 50).toInt = (V819 0 50).toInt := t827
                                  have t828 : (V833 0 8).toInt = (V819 0 8).toInt := t828
                                  have t829 : NoV 35 V819 V833 := t829
                                  have t830 : NoV 37 V819 V833 := t830
                                  have t831 : NoL 36 L820 L834 := t831
                                  have t832 : NoL 38 L820 L834 := t832
                                  have pq835 : (V819 0 48).toInt = ((V 0 48)).toInt := congrArg Int32.toInt ((ajV819 0 48 rfl).trans ((ajV808 0 48 rfl).trans ((ajV539 0 48 rfl).trans ((ajV513 0 48 rfl).trans ((ajV453 0 48 rfl).trans ((ajV362 0 48 rfl).trans ((ajV248 0 48 rfl).trans ((ajV202 0 48 rfl).trans ((ajV109 0 48 rfl).trans (ajV11 0 48 rfl))))))))))
                                  have r836 : 0 ≤ ((V833 0 48)).toInt ∧ ((V833 0 48)).toInt ≤ 10000 := hMV833 0 48
                                  have r837 : 0 ≤ ((V833 0 50)).toInt ∧ ((V833 0 50)).toInt ≤ 9 := hMV833 0 50
                                  have r838 : 0 ≤ ((V833 0 8)).toInt ∧ ((V833 0 8)).toInt ≤ 70000 := hMV833 0 8
                                  refine lv_aload_n hx hb dX12_partWithin_244 rfl (lv_at hl 2 rfl) ?_
                                  refine lv_bipush (v := 14) hx hb dX12_partWithin_245 (by decide) ?_
                                  refine lv_iload_n hx hb dX12_partWithin_247 rfl (lv_at hl 1 rfl) ?_
                                  refine lv_iload_n hx hb dX12_partWithin_248 rfl (lv_at hl 0 rfl) ?_
                                  have r839 : Int32.toInt 14 = 14 := by decide
                                  refine gA_int (gA_runV (As := [.int 14, .int z532, .int z811]) (rest := []) (ci := 12) (q0 := 0) hx hb hml hown hg hP hD hK hS hA hnw hgk (s_emit3 l D ks H.size ad kk V833 L834 14 z532 z811 hMV833 (show (V833 0 48).toInt ≤ 9999 from by first | omega | ((try (have i_t537 := Imp.go t537 (by omega))); (try (have i_t536 := Imp.go t536 (by omega))); (try (have i_t536 := Imp.go t536 (by omega))); (try (have i_t537 := Imp.go t537 (by omega))); omega))) w2140 w2142 w111 w172 w2143 rfl rfl hdV_yX12_emit ⟨(by show 0 + 1 ≤ 10 * dd + 15; omega), (by show 8 + (4 + 11) + (0) ≤ 300 * dd + 500; omega)⟩ rfl hl.1 rfl (Nat.le_of_ble_eq_true rfl) dX12_partWithin_249 ⟨Nat.le_of_ble_eq_true rfl, Nat.le_of_ble_eq_true rfl⟩) hP hD hK hS hA (fun z840 u841 H locs w842 hP hD hK hS => ?_)
                                  obtain ⟨V846, L847⟩ := u841
                                  obtain ⟨hMV846, ajV846, axL847, rgz840, t843, t844, t845⟩ := w842
                                  have axL847 : L834 = L847 := Eq.symm axL847
                                  subst axL847
                                  have hP : va_P D vwCl (mw ad kk ks.1 V846 L834) H := hP
                                  have hD : va_D A (mw ad kk ks.1 V846 L834) := hD
                                  have hMV846 : rgd bM V846 := hMV846
                                  have ajV846 : agr [(0, 48)] [45, 46, 47] V833 V846 := ajV846
                                  have agV846 : agr [(0, 7), (0, 8), (0, 48), (0, 50)] [35, 36, 37, 38, 45, 46, 47] V V846 := agV833.tr ajV846 (by decide) (by decide)
                                  have rgz840 : 0 ≤ z840.toInt ∧ z840.toInt ≤ 20000 := rgz840
                                  have t843 : (V846 0 48).toInt = (V833 0 48).toInt + 1 := t843
                                  have t844 : z840.toInt = (V833 0 49).toInt + (V833 0 48).toInt := t844
                                  have t845 : emitted V833 V846 (pA V833) 14 z532 z811 := t845
                                  have r848 : 0 ≤ ((V846 0 48)).toInt ∧ ((V846 0 48)).toInt ≤ 10000 := hMV846 0 48
                                  have pq849 : (V833 0 49).toInt = ((V 0 49)).toInt := congrArg Int32.toInt ((ajV833 0 49 rfl).trans ((ajV819 0 49 rfl).trans ((ajV808 0 49 rfl).trans ((ajV539 0 49 rfl).trans ((ajV513 0 49 rfl).trans ((ajV453 0 49 rfl).trans ((ajV362 0 49 rfl).trans ((ajV248 0 49 rfl).trans ((ajV202 0 49 rfl).trans ((ajV109 0 49 rfl).trans (ajV11 0 49 rfl)))))))))))
                                  have r850 : 0 ≤ ((V 0 49)).toInt ∧ ((V 0 49)).toInt ≤ 10000 := hMV 0 49
                                  refine lv_istore_n (lv' := [(1, .int z840), (3, .int z811), (2, .int z532), (0, .ref (ad 0))]) hx hb dX12_partWithin_252 rfl hl (by decide) rfl (fun ls hl => ?_)
                                  refine lv_goto (tgt := 275) hx hb dX12_partWithin_253 (by decide) ?_
                                  have pq851 : (V846 0 7).toInt = ((V833 0 7)).toInt := congrArg Int32.toInt (ajV846 0 7 rfl)
                                  have pq852 : (V846 0 8).toInt = ((V833 0 8)).toInt := congrArg Int32.toInt (ajV846 0 8 rfl)
                                  have pq853 : (V846 0 50).toInt = ((V833 0 50)).toInt := congrArg Int32.toInt (ajV846 0 50 rfl)
                                  have rw854 : RoV 35 bq V V846 := (fun k hk => ((ajV846 35 k rfl).trans ((t829 k).trans ((t815 k).trans ((ajV808 35 k rfl).trans ((ajV539 35 k rfl).trans ((ajV513 35 k rfl).trans ((ajV453 35 k rfl).trans ((ajV362 35 k rfl).trans ((ajV248 35 k rfl).trans ((ajV202 35 k rfl).trans ((ajV109 35 k rfl).trans ((ajV11 35 k rfl).trans rfl)))))))))))))
                                  have rw855 : RoV 37 bq V V846 := (fun k hk => ((ajV846 37 k rfl).trans ((t830 k).trans ((t816 k).trans ((ajV808 37 k rfl).trans ((ajV539 37 k rfl).trans ((ajV513 37 k rfl).trans ((ajV453 37 k rfl).trans ((ajV362 37 k rfl).trans ((ajV248 37 k rfl).trans ((ajV202 37 k rfl).trans ((ajV109 37 k rfl).trans ((ajV11 37 k rfl).trans rfl)))))))))))))
                                  have rw856 : RoL 36 20 bq L L834 := (fun k hk => ((t831 k).trans ((t817 k).trans rfl)))
                                  have rw857 : RoL 38 20 bq L L834 := (fun k hk => ((t832 k).trans ((t818 k).trans rfl)))
                                  exact W.vret hx hb hr (fun t ht hW => ⟨⟨(V846, L834), rfl, ⟨hMV846, agV846, alL834, (Imp.mk (fun hp => have hp : (V846 0 8).toInt = 0 := hp; (show (V846 0 48).toInt - (V 0 48).toInt + 1 ≤ 2 * ((V846 0 7).toInt - (V 0 7).toInt) from by first | omega | ((try (have i_t537 := Imp.go t537 (by omega))); (try (have i_t536 := Imp.go t536 (by omega))); (try (have i_t536 := Imp.go t536 (by omega))); (try (have i_t537 := Imp.go t537 (by omega))); omega)))), (show (V846 0 48).toInt ≤ 8054 - 6 * (V 0 50).toInt from by first | omega | ((try (have i_t537 := Imp.go t537 (by omega))); (try (have i_t536 := Imp.go t536 (by omega))); (try (have i_t536 := Imp.go t536 (by omega))); (try (have i_t537 := Imp.go t537 (by omega))); omega)), (show (V846 0 50).toInt = (V 0 50).toInt from by first | omega | ((try (have i_t537 := Imp.go t537 (by omega))); (try (have i_t536 := Imp.go t536 (by omega))); (try (have i_t536 := Imp.go t536 (by omega))); (try (have i_t537 := Imp.go t537 (by omega))); omega)), (show (V 0 48).toInt ≤ (V846 0 48).toInt from by first | omega | ((try (have i_t537 := Imp.go t537 (by omega))); (try (have i_t536 := Imp.go t536 (by omega))); (try (have i_t536 := Imp.go t536 (by omega))); (try (have i_t537 := Imp.go t537 (by omega))); omega)), (Or.inr ⟨(show 1 ≤ (V846 0 8).toInt from by omega), (fun k => by rw [show (V846 0 8).toInt = (V539 0 8).toInt from by omega]; exact hb801 k)⟩), rw854, rw855, rw856, rw857⟩, by rw [ht]; exact hP, va_K.moved hW.alike hK, hD⟩, hS.F ht⟩) hS.2.2 dX12_partWithin_275
                            · skip
                              have kd858 : gT.1 (gs.1 0) ≠ 146 := fun h9 => h516 (h9.trans (by decide))
                              have fz859 := RelM.rg rl517
                              have pq860 : (V513 0 8).toInt = ((V 0 8)).toInt := congrArg Int32.toInt ((ajV513 0 8 rfl).trans ((ajV453 0 8 rfl).trans ((ajV362 0 8 rfl).trans ((ajV248 0 8 rfl).trans ((ajV202 0 8 rfl).trans ((ajV109 0 8 rfl).trans (ajV11 0 8 rfl)))))))
                              refine lv_if_eq (tgt := 256) hx hb dX12_partWithin_201 (by decide) (fun c861 => ?_) (fun c861 => ?_)
                              · skip
                                have f862 : z509.toInt = 0 := b_eq rfl (by decide) c861
                                refine lv_aload_n hx hb dX12_partWithin_256 rfl (lv_at hl 0 rfl) ?_
                                refine lv_bipush (v := 19) hx hb dX12_partWithin_257 (by decide) ?_
                                have r863 : Int32.toInt 19 = 19 := by decide
                                refine gA_void (gA_runV (As := [.int 19]) (rest := []) (ci := 12) (q0 := 0) hx hb hml hown hg hP hD hK hS hA hnw hgk (s_takeWordA l D ks H.size ad kk V513 L 19 (bq) (gn) (gT) (gs) (gl) hMV513 (by decide) rl517) w2096 w2098 w100 w172 w2099 rfl rfl hdV_yX12_takeWord ⟨(by show 2 + 1 ≤ 10 * dd + 15; omega), (by show 8 + (2 + 11) + (43) ≤ 300 * dd + 500; omega)⟩ rfl hl.1 rfl (Nat.le_of_ble_eq_true rfl) dX12_partWithin_259 ⟨Nat.le_of_ble_eq_true rfl, Nat.le_of_ble_eq_true rfl⟩) hP hD hK hS hA (fun u865 H locs w866 hP hD hK hS => ?_)
                                obtain ⟨V868, L869⟩ := u865
                                obtain ⟨hMV868, ajV868, axL869, t867⟩ := w866
                                have axL869 : L = L869 := Eq.symm axL869
                                subst axL869
                                have hP : va_P D vwCl (mw ad kk ks.1 V868 L) H := hP
                                have hD : va_D A (mw ad kk ks.1 V868 L) := hD
                                have hMV868 : rgd bM V868 := hMV868
                                have ajV868 : agr [(0, 7), (0, 8)] [] V513 V868 := ajV868
                                have agV868 : agr [(0, 7), (0, 8), (0, 48), (0, 50)] [35, 36, 37, 38, 45, 46, 47] V V868 := agV513.tr ajV868 (by decide) (by decide)
                                have t867 : ((V868 0 8).toInt = 0 ∧ (gT).1 ((gs).1 0) = 128 + (Int32.toInt 19) ∧ RelM V868 L (bq) (gn) (gT) (nx (gs) 1) (gl)) ∨ (1 ≤ (V868 0 8).toInt ∧ (gT).1 ((gs).1 0) ≠ 128 + (Int32.toInt 19) ∧ (V868 0 8).toInt = 1 + 16 * (gT).2.2 ((gs).1 0)) := t867
                                rcases t867 with ⟨q870, h871, rl872⟩ | ⟨q870, h871, rl872⟩
                                · skip
                                  have kd873 : gT.1 (gs.1 0) = 147 := h871.trans (by decide)
                                  have ps874 : (nx gs 1).1 0 = gs.1 0 + 1 := rfl
                                  have fz875 := RelM.rg rl872
                                  have r876 : 0 ≤ ((V868 0 8)).toInt ∧ ((V868 0 8)).toInt ≤ 70000 := hMV868 0 8
                                  have hr877 : ∀ k, Rc gT (Crun gs (Ipart gd :: k)) (Crun gs (Ipart gd :: k)) := fun k => Rc.rf
                                  have hr878 : ∀ k, Rc gT (Crun gs (Ipart gd :: k)) (Crun (nx gs 1) (Itake 40 :: Iexpr (gd + 1) :: Itake 41 :: k)) := fun k => Rc.go1 (hr877 k) (pw_147 gd bg (by omega) kd873)
                                  refine lv_aload_n hx hb dX12_partWithin_262 rfl (lv_at hl 0 rfl) ?_
                                  have pq879 : (V868 0 48).toInt = ((V 0 48)).toInt := congrArg Int32.toInt ((ajV868 0 48 rfl).trans ((ajV513 0 48 rfl).trans ((ajV453 0 48 rfl).trans ((ajV362 0 48 rfl).trans ((ajV248 0 48 rfl).trans ((ajV202 0 48 rfl).trans ((ajV109 0 48 rfl).trans (ajV11 0 48 rfl))))))))
                                  have pq880 : (V868 0 50).toInt = ((V 0 50)).toInt := congrArg Int32.toInt ((ajV868 0 50 rfl).trans ((ajV513 0 50 rfl).trans ((ajV453 0 50 rfl).trans ((ajV362 0 50 rfl).trans ((ajV248 0 50 rfl).trans ((ajV202 0 50 rfl).trans ((ajV109 0 50 rfl).trans (ajV11 0 50 rfl))))))))
                                  refine gA_void (gA_runV (As := []) (rest := []) (ci := 12) (q0 := 0) hx hb hml hown hg hP hD hK hS hA hnw hgk (hk_s_bracketedA H.size ad kk V868 L (bq) (gn) (gT) ((nx gs 1)) (gl) ((gd + 1)) hMV868 rl872 (show (V868 0 48).toInt ≤ 2 * (V868 0 7).toInt from by omega) (show (V868 0 50).toInt = (((gd + 1)) : Int) from by omega) (show (V868 0 50).toInt + (dd : Int) = 8 from by omega) (EM.mv em ((ajV868 0 51 rfl).trans ((ajV513 0 51 rfl).trans ((ajV453 0 51 rfl).trans ((ajV362 0 51 rfl).trans ((ajV248 0 51 rfl).trans ((ajV202 0 51 rfl).trans ((ajV109 0 51 rfl).trans (ajV11 0 51 rfl)))))))) ((ajV868 0 52 rfl).trans ((ajV513 0 52 rfl).trans ((ajV453 0 52 rfl).trans ((ajV362 0 52 rfl).trans ((ajV248 0 52 rfl).trans ((ajV202 0 52 rfl).trans ((ajV109 0 52 rfl).trans (ajV11 0 52 rfl)))))))) (by rw [(funext (fun q => ajV868 27 q rfl) : V868 27 = V513 27), (funext (fun q => ajV513 27 q rfl) : V513 27 = V453 27), (funext (fun q => ajV453 27 q rfl) : V453 27 = V362 27), (funext (fun q => ajV362 27 q rfl) : V362 27 = V248 27), (funext (fun q => ajV248 27 q rfl) : V248 27 = V202 27), (funext (fun q => ajV202 27 q rfl) : V202 27 = V109 27), (funext (fun q => ajV109 27 q rfl) : V109 27 = V11 27), (funext (fun q => ajV11 27 q rfl) : V11 27 = V 27)] : V868 27 = V 27) ((keepS.tr (keepS.rf : keepS gs 0 gs) (keepS.n1 1))).2.1)) w2152 w2154 w114 w172 w2155 rfl rfl hdV_yX12_bracketed ⟨(by show 10 * dd + 14 + 1 ≤ 10 * dd + 15; omega), (by show 8 + (1 + 11) + (300 * dd + 460) ≤ 300 * dd + 500; omega)⟩ rfl hl.1 rfl (Nat.le_of_ble_eq_true rfl) dX12_partWithin_263 ⟨Nat.le_of_ble_eq_true rfl, Nat.le_of_ble_eq_true rfl⟩) hP hD hK hS hA (fun u882 H locs w883 hP hD hK hS => ?_)
                                  obtain ⟨V893, L894⟩ := u882
                                  obtain ⟨hMV893, ajV893, axL894, t884, t885, t886, t887, t888, t889, t890, t891, t892⟩ := w883
                                  have alL894 : agL [35, 36, 37, 38, 45, 46, 47] L L894 := agL.tr alL axL894 (by decide)
                                  have hP : va_P D vwCl (mw ad kk ks.1 V893 L894) H := hP
                                  have hD : va_D A (mw ad kk ks.1 V893 L894) := hD
                                  have hMV893 : rgd bM V893 := hMV893
                                  have ajV893 : agr [(0, 7), (0, 8), (0, 48), (0, 50)] [35, 36, 37, 38, 45, 46, 47] V868 V893 := ajV893
                                  have agV893 : agr [(0, 7), (0, 8), (0, 48), (0, 50)] [35, 36, 37, 38, 45, 46, 47] V V893 := agV868.tr ajV893 (by decide) (by decide)
                                  have t884 : Imp ((V893 0 8).toInt = 0) ((V893 0 48).toInt - (V868 0 48).toInt ≤ 2 * ((V893 0 7).toInt - (V868 0 7).toInt)) := t884
                                  have t885 : (V893 0 48).toInt ≤ 8052 - 6 * (V868 0 50).toInt := t885
                                  have t886 : (V893 0 50).toInt = (V868 0 50).toInt := t886
                                  have t887 : (V868 0 48).toInt ≤ (V893 0 48).toInt := t887
                                  have t888 : RdM (gT) ((nx gs 1)) (fun k => Itake 40 :: Iexpr ((gd + 1)) :: Itake 41 :: k) (fun k => k) (V893 0 8).toInt (fun s9 => RelM V893 L894 (bq) (gn) (gT) s9 (gl) ∧ keepS ((nx gs 1)) 1 s9) := t888
                                  have t889 : RoV 35 (bq) V868 V893 := t889
                                  have t890 : RoV 37 (bq) V868 V893 := t890
                                  have t891 : RoL 36 20 (bq) L L894 := t891
                                  have t892 : RoL 38 20 (bq) L L894 := t892
                                  have r895 : 0 ≤ ((V893 0 48)).toInt ∧ ((V893 0 48)).toInt ≤ 10000 := hMV893 0 48
                                  have r896 : 0 ≤ ((V893 0 8)).toInt ∧ ((V893 0 8)).toInt ≤ 70000 := hMV893 0 8
                                  have r897 : 0 ≤ ((V893 0 50)).toInt ∧ ((V893 0 50)).toInt ≤ 9 := hMV893 0 50
                                  rcases t888 with ⟨q898, sx899, h900, rl901, kp902⟩ | ⟨q898, h900⟩
                                  · skip
                                    have hr903 : ∀ k, Rc gT (Crun gs (Ipart gd :: k)) (Crun sx899 (k)) := fun k => (hr878 k).tr (h900 (k))
                                    have fz904 := RelM.rg rl901
                                    have ps905 := (kp902).1
                                    refine lv_aload_n hx hb dX12_partWithin_266 rfl (lv_at hl 0 rfl) ?_
                                    refine lv_bipush (v := 15) hx hb dX12_partWithin_267 (by decide) ?_
                                    refine lv_iconst (v := 0) hx hb dX12_partWithin_269 (by decide) ?_
                                    refine lv_iconst (v := 0) hx hb dX12_partWithin_270 (by decide) ?_
                                    have r906 : Int32.toInt 0 = 0 := by decide
                                    refine gA_int (gA_runV (As := [.int 15, .int 0, .int 0]) (rest := []) (ci := 12) (q0 := 0) hx hb hml hown hg hP hD hK hS hA hnw hgk (s_emit3 l D ks H.size ad kk V893 L894 15 0 0 hMV893 (show (V893 0 48).toInt ≤ 9999 from by first | omega | ((try (have i_t884 := Imp.go t884 (by omega))); omega))) w2140 w2142 w111 w172 w2143 rfl rfl hdV_yX12_emit ⟨(by show 0 + 1 ≤ 10 * dd + 15; omega), (by show 8 + (4 + 11) + (0) ≤ 300 * dd + 500; omega)⟩ rfl hl.1 rfl (Nat.le_of_ble_eq_true rfl) dX12_partWithin_271 ⟨Nat.le_of_ble_eq_true rfl, Nat.le_of_ble_eq_true rfl⟩) hP hD hK hS hA (fun z907 u908 H locs w909 hP hD hK hS => ?_)
                                    obtain ⟨V913, L914⟩ := u908
                                    obtain ⟨hMV913, ajV913, axL914, rgz907, t910, t911, t912⟩ := w909
                                    have axL914 : L894 = L914 := Eq.symm axL914
                                    subst axL914
                                    have hP : va_P D vwCl (mw ad kk ks.1 V913 L894) H := hP
                                    have hD : va_D A (mw ad kk ks.1 V913 L894) := hD
                                    have hMV913 : rgd bM V913 := hMV913
                                    have ajV913 : agr [(0, 48)] [45, 46, 47] V893 V913 := ajV913
                                    have agV913 : agr [(0, 7), (0, 8), (0, 48), (0, 50)] [35, 36, 37, 38, 45, 46, 47] V V913 := agV893.tr ajV913 (by decide) (by decide)
                                    have rgz907 : 0 ≤ z907.toInt ∧ z907.toInt ≤ 20000 := rgz907
                                    have t910 : (V913 0 48).toInt = (V893 0 48).toInt + 1 := t910
                                    have t911 : z907.toInt = (V893 0 49).toInt + (V893 0 48).toInt := t911
                                    have t912 : emitted V893 V913 (pA V893) 15 0 0 := t912
                                    have r915 : 0 ≤ ((V913 0 48)).toInt ∧ ((V913 0 48)).toInt ≤ 10000 := hMV913 0 48
                                    have pq916 : (V893 0 49).toInt = ((V 0 49)).toInt := congrArg Int32.toInt ((ajV893 0 49 rfl).trans ((ajV868 0 49 rfl).trans ((ajV513 0 49 rfl).trans ((ajV453 0 49 rfl).trans ((ajV362 0 49 rfl).trans ((ajV248 0 49 rfl).trans ((ajV202 0 49 rfl).trans ((ajV109 0 49 rfl).trans (ajV11 0 49 rfl)))))))))
                                    have r917 : 0 ≤ ((V 0 49)).toInt ∧ ((V 0 49)).toInt ≤ 10000 := hMV 0 49
                                    refine lv_istore_n (lv' := [(1, .int z907), (0, .ref (ad 0))]) hx hb dX12_partWithin_274 rfl hl (by decide) rfl (fun ls hl => ?_)
                                    have pq918 : (V913 0 7).toInt = ((V893 0 7)).toInt := congrArg Int32.toInt (ajV913 0 7 rfl)
                                    have pq919 : (V913 0 8).toInt = ((V893 0 8)).toInt := congrArg Int32.toInt (ajV913 0 8 rfl)
                                    have pq920 : (V913 0 50).toInt = ((V893 0 50)).toInt := congrArg Int32.toInt (ajV913 0 50 rfl)
                                    have rl921 : RelM V913 L894 bq gn gT sx899 gl := RelM.ag rl901 (show agr [(0, 48)] [45, 46, 47] V893 V913 from (agr.tr agr.rf ajV913 (by decide) (by decide))) (by decide) (show agL [] L894 L894 from agL.rf) (by decide)
                                    have rw922 : RoV 35 bq V V913 := (fun k hk => ((ajV913 35 k rfl).trans ((t889 k hk).trans ((ajV868 35 k rfl).trans ((ajV513 35 k rfl).trans ((ajV453 35 k rfl).trans ((ajV362 35 k rfl).trans ((ajV248 35 k rfl).trans ((ajV202 35 k rfl).trans ((ajV109 35 k rfl).trans ((ajV11 35 k rfl).trans rfl)))))))))))
                                    have rw923 : RoV 37 bq V V913 := (fun k hk => ((ajV913 37 k rfl).trans ((t890 k hk).trans ((ajV868 37 k rfl).trans ((ajV513 37 k rfl).trans ((ajV453 37 k rfl).trans ((ajV362 37 k rfl).trans ((ajV248 37 k rfl).trans ((ajV202 37 k rfl).trans ((ajV109 37 k rfl).trans ((ajV11 37 k rfl).trans rfl)))))))))))
                                    have rw924 : RoL 36 20 bq L L894 := (fun k hk => ((t891 k hk).trans rfl))
                                    have rw925 : RoL 38 20 bq L L894 := (fun k hk => ((t892 k hk).trans rfl))
                                    exact W.vret hx hb hr (fun t ht hW => ⟨⟨(V913, L894), rfl, ⟨hMV913, agV913, alL894, (Imp.mk (fun hp => have hp : (V913 0 8).toInt = 0 := hp; (show (V913 0 48).toInt - (V 0 48).toInt + 1 ≤ 2 * ((V913 0 7).toInt - (V 0 7).toInt) from by first | omega | ((try (have i_t884 := Imp.go t884 (by omega))); omega)))), (show (V913 0 48).toInt ≤ 8054 - 6 * (V 0 50).toInt from by first | omega | ((try (have i_t884 := Imp.go t884 (by omega))); omega)), (show (V913 0 50).toInt = (V 0 50).toInt from by first | omega | ((try (have i_t884 := Imp.go t884 (by omega))); omega)), (show (V 0 48).toInt ≤ (V913 0 48).toInt from by first | omega | ((try (have i_t884 := Imp.go t884 (by omega))); omega)), (Or.inl ⟨W0 rl921, sx899, hr903, rl921, keepS.le (keepS.tr (keepS.tr (keepS.rf : keepS gs 0 gs) (keepS.n1 1)) kp902) (by decide)⟩), rw922, rw923, rw924, rw925⟩, by rw [ht]; exact hP, va_K.moved hW.alike hK, hD⟩, hS.F ht⟩) hS.2.2 dX12_partWithin_275
                                  · skip
                                    have hb926 : ∀ k, Rc gT (Crun gs (Ipart gd :: k)) (Cbad (V893 0 8).toInt) := fun k => (hr878 k).tr (h900 (k))
                                    refine lv_aload_n hx hb dX12_partWithin_266 rfl (lv_at hl 0 rfl) ?_
                                    refine lv_bipush (v := 15) hx hb dX12_partWithin_267 (by decide) ?_
                                    refine lv_iconst (v := 0) hx hb dX12_partWithin_269 (by decide) ?_
                                    refine lv_iconst (v := 0) hx hb dX12_partWithin_270 (by decide) ?_
                                    have r927 : Int32.toInt 0 = 0 := by decide
                                    refine gA_int (gA_runV (As := [.int 15, .int 0, .int 0]) (rest := []) (ci := 12) (q0 := 0) hx hb hml hown hg hP hD hK hS hA hnw hgk (s_emit3 l D ks H.size ad kk V893 L894 15 0 0 hMV893 (show (V893 0 48).toInt ≤ 9999 from by first | omega | ((try (have i_t884 := Imp.go t884 (by omega))); omega))) w2140 w2142 w111 w172 w2143 rfl rfl hdV_yX12_emit ⟨(by show 0 + 1 ≤ 10 * dd + 15; omega), (by show 8 + (4 + 11) + (0) ≤ 300 * dd + 500; omega)⟩ rfl hl.1 rfl (Nat.le_of_ble_eq_true rfl) dX12_partWithin_271 ⟨Nat.le_of_ble_eq_true rfl, Nat.le_of_ble_eq_true rfl⟩) hP hD hK hS hA (fun z928 u929 H locs w930 hP hD hK hS => ?_)
                                    obtain ⟨V934, L935⟩ := u929
                                    obtain ⟨hMV934, ajV934, axL935, rgz928, t931, t932, t933⟩ := w930
                                    have axL935 : L894 = L935 := Eq.symm axL935
                                    subst axL935
                                    have hP : va_P D vwCl (mw ad kk ks.1 V934 L894) H := hP
                                    have hD : va_D A (mw ad kk ks.1 V934 L894) := hD
                                    have hMV934 : rgd bM V934 := hMV934
                                    have ajV934 : agr [(0, 48)] [45, 46, 47] V893 V934 := ajV934
                                    have agV934 : agr [(0, 7), (0, 8), (0, 48), (0, 50)] [35, 36, 37, 38, 45, 46, 47] V V934 := agV893.tr ajV934 (by decide) (by decide)
                                    have rgz928 : 0 ≤ z928.toInt ∧ z928.toInt ≤ 20000 := rgz928
                                    have t931 : (V934 0 48).toInt = (V893 0 48).toInt + 1 := t931
                                    have t932 : z928.toInt = (V893 0 49).toInt + (V893 0 48).toInt := t932
                                    have t933 : emitted V893 V934 (pA V893) 15 0 0 := t933
                                    have r936 : 0 ≤ ((V934 0 48)).toInt ∧ ((V934 0 48)).toInt ≤ 10000 := hMV934 0 48
                                    have pq937 : (V893 0 49).toInt = ((V 0 49)).toInt := congrArg Int32.toInt ((ajV893 0 49 rfl).trans ((ajV868 0 49 rfl).trans ((ajV513 0 49 rfl).trans ((ajV453 0 49 rfl).trans ((ajV362 0 49 rfl).trans ((ajV248 0 49 rfl).trans ((ajV202 0 49 rfl).trans ((ajV109 0 49 rfl).trans (ajV11 0 49 rfl)))))))))
                                    have r938 : 0 ≤ ((V 0 49)).toInt ∧ ((V 0 49)).toInt ≤ 10000 := hMV 0 49
                                    refine lv_istore_n (lv' := [(1, .int z928), (0, .ref (ad 0))]) hx hb dX12_partWithin_274 rfl hl (by decide) rfl (fun ls hl => ?_)
                                    have pq939 : (V934 0 7).toInt = ((V893 0 7)).toInt := congrArg Int32.toInt (ajV934 0 7 rfl)
                                    have pq940 : (V934 0 8).toInt = ((V893 0 8)).toInt := congrArg Int32.toInt (ajV934 0 8 rfl)
                                    have pq941 : (V934 0 50).toInt = ((V893 0 50)).toInt := congrArg Int32.toInt (ajV934 0 50 rfl)
                                    have rw942 : RoV 35 bq V V934 := (fun k hk => ((ajV934 35 k rfl).trans ((t889 k hk).trans ((ajV868 35 k rfl).trans ((ajV513 35 k rfl).trans ((ajV453 35 k rfl).trans ((ajV362 35 k rfl).trans ((ajV248 35 k rfl).trans ((ajV202 35 k rfl).trans ((ajV109 35 k rfl).trans ((ajV11 35 k rfl).trans rfl)))))))))))
                                    have rw943 : RoV 37 bq V V934 := (fun k hk => ((ajV934 37 k rfl).trans ((t890 k hk).trans ((ajV868 37 k rfl).trans ((ajV513 37 k rfl).trans ((ajV453 37 k rfl).trans ((ajV362 37 k rfl).trans ((ajV248 37 k rfl).trans ((ajV202 37 k rfl).trans ((ajV109 37 k rfl).trans ((ajV11 37 k rfl).trans rfl)))))))))))
                                    have rw944 : RoL 36 20 bq L L894 := (fun k hk => ((t891 k hk).trans rfl))
                                    have rw945 : RoL 38 20 bq L L894 := (fun k hk => ((t892 k hk).trans rfl))
                                    exact W.vret hx hb hr (fun t ht hW => ⟨⟨(V934, L894), rfl, ⟨hMV934, agV934, alL894, (Imp.mk (fun hp => have hp : (V934 0 8).toInt = 0 := hp; (show (V934 0 48).toInt - (V 0 48).toInt + 1 ≤ 2 * ((V934 0 7).toInt - (V 0 7).toInt) from by first | omega | ((try (have i_t884 := Imp.go t884 (by omega))); omega)))), (show (V934 0 48).toInt ≤ 8054 - 6 * (V 0 50).toInt from by first | omega | ((try (have i_t884 := Imp.go t884 (by omega))); omega)), (show (V934 0 50).toInt = (V 0 50).toInt from by first | omega | ((try (have i_t884 := Imp.go t884 (by omega))); omega)), (show (V 0 48).toInt ≤ (V934 0 48).toInt from by first | omega | ((try (have i_t884 := Imp.go t884 (by omega))); omega)), (Or.inr ⟨(show 1 ≤ (V934 0 8).toInt from by omega), (fun k => by rw [show (V934 0 8).toInt = (V893 0 8).toInt from by omega]; exact hb926 k)⟩), rw942, rw943, rw944, rw945⟩, by rw [ht]; exact hP, va_K.moved hW.alike hK, hD⟩, hS.F ht⟩) hS.2.2 dX12_partWithin_275
                                · skip
                                  have kd946 : gT.1 (gs.1 0) ≠ 147 := fun h9 => h871 (h9.trans (by decide))
                                  exact absurd (bg_147 bg kd5 kd98 kd192 kd443 kd238 kd352 kd503 kd858) kd946
                              · skip
                                have f947 : z509.toInt ≠ 0 := b_neq rfl (by decide) c861
                                exfalso; omega
                          · skip
                            have f948 : z449.toInt ≠ 0 := b_neq rfl (by decide) c506
                            exfalso; omega
                      · skip
                        have f949 : z358.toInt ≠ 0 := b_neq rfl (by decide) c446
                        exfalso; omega
                  · skip
                    have f950 : z244.toInt ≠ 0 := b_neq rfl (by decide) c355
                    exfalso; omega
              · skip
                have f951 : z198.toInt ≠ 0 := b_neq rfl (by decide) c241
                exfalso; omega
          · skip
            have f952 : z105.toInt ≠ 0 := b_neq rfl (by decide) c195
            exfalso; omega
      · skip
        have f953 : z7.toInt ≠ 0 := b_neq rfl (by decide) c102
        exfalso; omega
  · skip
    have f954 : ((V 4 (Int32.toNatClampNeg (V 0 7)))).toInt = 2 := b_eq rfl (by decide) c3
    have kd955 : gT.1 (gs.1 0) = 2 := (RelM.nb rel).mp (by rw [← cl0]; omega)
    refine lv_aload_n hx hb dX12_partWithin_13 rfl (lv_at hl 0 rfl) ?_
    refine lv_iconst (v := 2) hx hb dX12_partWithin_14 (by decide) ?_
    refine lv_aload_n hx hb dX12_partWithin_15 rfl (lv_at hl 0 rfl) ?_
    refine va_get (D := D) (ci := 12) (v := .ref (ad 6)) (C := RX12) (T := TX12) (N := 100) hx hb hg inX12 hown hK hP 0 rfl rfl 6 (by decide) (hg _ w1716) (fun _ h9 => h9) rfl dX12_partWithin_16 ?_
    refine lv_aload_n hx hb dX12_partWithin_19 rfl (lv_at hl 0 rfl) ?_
    refine va_get (D := D) (ci := 12) (v := .int (V 0 7)) (C := RX12) (T := TX12) (N := 100) hx hb hg inX12 hown hK hP 0 rfl rfl 7 (by decide) (hg _ w1717) (fun _ h9 => h9) rfl dX12_partWithin_20 ?_
    refine va_lald (D := D) (i := (V 0 7)) hx hb hK hP 4 3 rfl rfl (i_in (a := ((V 0 7)).toInt) rfl (by omega)) dX12_partWithin_23 ?_
    refine lv_l2i hx hb dX12_partWithin_24 rfl ?_
    refine lv_topi (fun z956 ez956 => ?_)
    have hz956 := l2i_f ez956
    refine lv_iconst (v := 0) hx hb dX12_partWithin_25 (by decide) ?_
    have r957 : Int32.toInt 2 = 2 := by decide
    have r958 : Int32.toInt 0 = 0 := by decide
    refine gA_int (gA_runV (As := [.int 2, .int z956, .int 0]) (rest := []) (ci := 12) (q0 := 0) hx hb hml hown hg hP hD hK hS hA hnw hgk (s_emit3 l D ks H.size ad kk V L 2 z956 0 hMV (show (V 0 48).toInt ≤ 9999 from by first | omega | ((try (have i_hz956 := Imp.go hz956 (by omega))); omega))) w2140 w2142 w111 w172 w2143 rfl rfl hdV_yX12_emit ⟨(by show 0 + 1 ≤ 10 * dd + 15; omega), (by show 8 + (4 + 11) + (0) ≤ 300 * dd + 500; omega)⟩ rfl hl.1 rfl (Nat.le_of_ble_eq_true rfl) dX12_partWithin_26 ⟨Nat.le_of_ble_eq_true rfl, Nat.le_of_ble_eq_true rfl⟩) hP hD hK hS hA (fun z959 u960 H locs w961 hP hD hK hS => ?_)
    obtain ⟨V965, L966⟩ := u960
    obtain ⟨hMV965, ajV965, axL966, rgz959, t962, t963, t964⟩ := w961
    have axL966 : L = L966 := Eq.symm axL966
    subst axL966
    have hP : va_P D vwCl (mw ad kk ks.1 V965 L) H := hP
    have hD : va_D A (mw ad kk ks.1 V965 L) := hD
    have hMV965 : rgd bM V965 := hMV965
    have ajV965 : agr [(0, 48)] [45, 46, 47] V V965 := ajV965
    have agV965 : agr [(0, 7), (0, 8), (0, 48), (0, 50)] [35, 36, 37, 38, 45, 46, 47] V V965 := agV.tr ajV965 (by decide) (by decide)
    have rgz959 : 0 ≤ z959.toInt ∧ z959.toInt ≤ 20000 := rgz959
    have t962 : (V965 0 48).toInt = (V 0 48).toInt + 1 := t962
    have t963 : z959.toInt = (V 0 49).toInt + (V 0 48).toInt := t963
    have t964 : emitted V V965 (pA V) 2 z956 0 := t964
    have r967 : 0 ≤ ((V965 0 48)).toInt ∧ ((V965 0 48)).toInt ≤ 10000 := hMV965 0 48
    have r968 : 0 ≤ ((V 0 49)).toInt ∧ ((V 0 49)).toInt ≤ 10000 := hMV 0 49
    refine lv_istore_n (lv' := [(1, .int z959), (0, .ref (ad 0))]) hx hb dX12_partWithin_29 rfl hl (by decide) rfl (fun ls hl => ?_)
    refine lv_aload_n hx hb dX12_partWithin_30 rfl (lv_at hl 1 rfl) ?_
    refine lv_dup hx hb dX12_partWithin_31 rfl ?_
    refine va_get (D := D) (ci := 12) (v := .int (V965 0 7)) (C := RX12) (T := TX12) (N := 100) hx hb hg inX12 hown hK hP 0 rfl rfl 7 (by decide) (hg _ w1717) (fun _ h9 => h9) rfl dX12_partWithin_32 ?_
    refine g_top (v := (V 0 7)) (ajV965 0 7 rfl) ?_
    refine lv_iconst (v := 1) hx hb dX12_partWithin_35 (by decide) ?_
    refine lv_iadd hx hb dX12_partWithin_36 ?_
    refine lv_topi (fun z969 ez969 => ?_)
    have hz969 : z969.toInt = ((V 0 7)).toInt + 1 := i_add ez969 rfl (by decide) (by omega)
    have rl970 : RelM V965 L bq gn gT gs gl := RelM.ag rel (show agr [(0, 48)] [45, 46, 47] V V965 from (agr.tr agr.rf ajV965 (by decide) (by decide))) (by decide) (show agL [] L L from agL.rf) (by decide)
    refine va_put (D := D) (ci := 12) (v := .int z969) (ty := tyX12 7) (C := RX12) (T := TX12) (N := 100) hx hb hg inX12 tyX12 tyX12_ok nmX12 hown hK hP hD hS 0 rfl rfl 7 (by decide) (hg _ w1717) (fun _ h9 => h9) rfl (tyX12_ok 7 (by decide)) rfl rfl (Nat.le_of_ble_eq_true rfl) dX12_partWithin_37 (fun H locs hP hD hS => ?_)
    obtain ⟨V971, hV971⟩ : ∃ z, z = up2 V965 0 7 z969 := ⟨_, rfl⟩
    have hP : va_P D vwCl (mw ad kk ks.1 V971 L) H := by rw [hV971]; exact hP
    have hD : va_D A (mw ad kk ks.1 V971 L) := by rw [hV971]; exact hD
    have hMV971 : rgd bM V971 := hMV965.put hV971 (i_full _)
    have agV971 : agr [(0, 7), (0, 8), (0, 48), (0, 50)] [35, 36, 37, 38, 45, 46, 47] V V971 := agV965.up hV971 rfl
    have pq972 : (V965 0 7).toInt = ((V 0 7)).toInt := congrArg Int32.toInt (ajV965 0 7 rfl)
    have hr973 : ∀ k, Rc gT (Crun gs (Ipart gd :: k)) (Crun gs (Ipart gd :: k)) := fun k => Rc.rf
    have hr974 : ∀ k, Rc gT (Crun gs (Ipart gd :: k)) (Crun (nx gs 1) (k)) := fun k => Rc.go1 (hr973 k) (pw_2 gd bg (by omega) kd955)
    have rl975 : RelM V971 L bq gn gT (nx gs 1) gl := RelM.n1 rl970 hV971 (by omega) (by rw [kd955]; decide)
    have ps976 : (nx gs 1).1 0 = gs.1 0 + 1 := rfl
    have fz977 := RelM.rg rl975
    have pq978 : (V971 0 8).toInt = ((V 0 8)).toInt := congrArg Int32.toInt ((up2_k hV971 (by decide)).trans (ajV965 0 8 rfl))
    have r979 : 0 ≤ ((V 0 8)).toInt ∧ ((V 0 8)).toInt ≤ 70000 := hMV 0 8
    have pq980 : (V971 0 7).toInt = z969.toInt := congrArg Int32.toInt (up2_s hV971)
    refine lv_goto (tgt := 275) hx hb dX12_partWithin_40 (by decide) ?_
    have pq981 : (V971 0 48).toInt = ((V965 0 48)).toInt := congrArg Int32.toInt (up2_k hV971 (by decide))
    have pq982 : (V971 0 50).toInt = ((V 0 50)).toInt := congrArg Int32.toInt ((up2_k hV971 (by decide)).trans (ajV965 0 50 rfl))
    have rw983 : RoV 35 bq V V971 := (fun k hk => ((up2_o hV971 (by decide)).trans ((ajV965 35 k rfl).trans rfl)))
    have rw984 : RoV 37 bq V V971 := (fun k hk => ((up2_o hV971 (by decide)).trans ((ajV965 37 k rfl).trans rfl)))
    have rw985 : RoL 36 20 bq L L := (fun k hk => rfl)
    have rw986 : RoL 38 20 bq L L := (fun k hk => rfl)
    exact W.vret hx hb hr (fun t ht hW => ⟨⟨(V971, L), rfl, ⟨hMV971, agV971, alL, (Imp.mk (fun hp => have hp : (V971 0 8).toInt = 0 := hp; (show (V971 0 48).toInt - (V 0 48).toInt + 1 ≤ 2 * ((V971 0 7).toInt - (V 0 7).toInt) from by first | omega | ((try (have i_hz956 := Imp.go hz956 (by omega))); omega)))), (show (V971 0 48).toInt ≤ 8054 - 6 * (V 0 50).toInt from by first | omega | ((try (have i_hz956 := Imp.go hz956 (by omega))); omega)), (show (V971 0 50).toInt = (V 0 50).toInt from by first | omega | ((try (have i_hz956 := Imp.go hz956 (by omega))); omega)), (show (V 0 48).toInt ≤ (V971 0 48).toInt from by first | omega | ((try (have i_hz956 := Imp.go hz956 (by omega))); omega)), (Or.inl ⟨W0 rl975, (nx gs 1), hr974, rl975, keepS.le (keepS.tr (keepS.rf : keepS gs 0 gs) (keepS.n1 1)) (by decide)⟩), rw983, rw984, rw985, rw986⟩, by rw [ht]; exact hP, va_K.moved hW.alike hK, hD⟩, hS.F ht⟩) hS.2.2 dX12_partWithin_275
theorem K_partA {l : Launch} {D : va_G} {ks : KS} : ∀ dd, K_s_partA l D ks dd
  | 0 => s_partA (fun d9 h => absurd h (by omega))
  | d + 1 => by
    refine s_partA (fun d9 h => ?_)
    have e : d9 = d := by omega
    subst e
    have k1 := K_partA (l := l) (D := D) (ks := ks) d9
    have k4 := s_expressionA (s_sumA (s_productA k1))
    exact s_partWithinA k4 k1 (s_bracketedA k4) (s_pickA k4)
theorem K_exprA {l : Launch} {D : va_G} {ks : KS} (dd : Nat) : K_s_expressionA l D ks dd := s_expressionA (s_sumA (s_productA (K_partA dd)))
